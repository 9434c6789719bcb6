/-! GAMES: the value, both sides -/
theorem ph : ∀ (n : Nat) (f : Nat → Nat), (∀ i, i ≤ n → f i < n) → (∀ i j, i ≤ n → j ≤ n → f i = f j → i = j) → False := by
  intro n
  induction n with
  | zero => exact fun f h _ => absurd (h 0 (Nat.le_refl 0)) (by omega)
  | succ n ih =>
    intro f h hi
    refine ih (fun i => if f i = n then f (n + 1) else f i) (fun i hin => ?_) (fun i j hin hjn e => ?_)
    · have a := h i (by omega)
      have b := h (n + 1) (by omega)
      have c := hi i (n + 1) (by omega) (by omega)
      show (if f i = n then f (n + 1) else f i) < n
      split <;> omega
    · have a := hi i j (by omega) (by omega)
      have b := hi i (n + 1) (by omega) (by omega)
      have c := hi j (n + 1) (by omega) (by omega)
      have e : (if f i = n then f (n + 1) else f i) = (if f j = n then f (n + 1) else f j) := e
      split at e <;> split at e <;> omega
def nxt (z : Int) : Int := (I (z * 1103515245 + 12345)).toInt
theorem nxt_e (z : Int) : I (z * 1103515245 + 12345) = I (nxt z) := (I_of _).symm
theorem nxt_R (z : Int) : inR (nxt z) := R_of _
def dr (z : Int) : Int := band (nxt z) 2147483647 / 65536 % 36
theorem band_pos (x : Int) : 0 ≤ band x 2147483647 ∧ band x 2147483647 < 2147483648 := by
  refine ⟨?_, (R_of _).2⟩
  unfold band
  have e : (I x &&& I 2147483647).toBitVec.msb = false := by
    rw [Int32.toBitVec_and, BitVec.msb_and]
    have e2 : (I 2147483647).toBitVec.msb = false := by decide +kernel
    rw [e2, Bool.and_false]
  have e3 : (I x &&& I 2147483647).toInt = (I x &&& I 2147483647).toBitVec.toInt := rfl
  rw [e3, BitVec.toInt_eq_toNat_of_msb e]
  omega
theorem dr_R (z : Int) : 0 ≤ dr z ∧ dr z < 36 := by
  unfold dr
  omega
noncomputable def fs (V : Bd) : Nat → Int → Int
  | 0, q => q
  | m + 1, q => ifp (ons V q = -4) q (fs V m ((q + 1) % 36))
def fE (V : Bd) : Nat → Int → Prop
  | 0, _ => False
  | m + 1, q => ons V q = -4 ∨ fE V m ((q + 1) % 36)
theorem fs_R {V : Bd} : ∀ (m : Nat) (q : Int), 0 ≤ q → q < 36 → 0 ≤ fs V m q ∧ fs V m q < 36
  | 0, q, a, b => ⟨a, b⟩
  | m + 1, q, a, b => by
    show 0 ≤ ifp (ons V q = -4) q (fs V m ((q + 1) % 36)) ∧ ifp (ons V q = -4) q (fs V m ((q + 1) % 36)) < 36
    by_cases c : ons V q = -4
    · rw [ifp_p c]; exact ⟨a, b⟩
    · rw [ifp_n c]; exact fs_R m _ (by omega) (by omega)
theorem fs_f {V : Bd} : ∀ (m : Nat) (q : Int), fE V m q → ons V (fs V m q) = -4
  | 0, _, h => h.elim
  | m + 1, q, h => by
    show ons V (ifp (ons V q = -4) q (fs V m ((q + 1) % 36))) = -4
    by_cases c : ons V q = -4
    · rw [ifp_p c]; exact c
    · rw [ifp_n c]; exact fs_f m _ (h.elim (fun z => absurd z c) id)
theorem fE_not {V : Bd} : ∀ (m : Nat) (q : Int), 0 ≤ q → q < 36 → ¬ fE V m q → ∀ i : Nat, i < m → ¬ ons V ((q + (i : Int)) % 36) = -4
  | 0, _, _, _, _, i, hi => by omega
  | m + 1, q, a, b, h, 0, _ => fun e => by
    rw [show (q + ((0 : Nat) : Int)) % 36 = q by omega] at e
    exact h (Or.inl e)
  | m + 1, q, a, b, h, i + 1, hi => fun e => by
    refine fE_not m ((q + 1) % 36) (by omega) (by omega) (fun z => h (Or.inr z)) i (by omega) ?_
    rw [show ((q + 1) % 36 + (i : Int)) % 36 = (q + ((i + 1 : Nat) : Int)) % 36 by omega]
    exact e
theorem fE_36 {V : Bd} (hO : OKB V) {q : Int} (q0 : 0 ≤ q) (q1 : q < 36) : fE V 36 q := by
  refine Classical.byContradiction (fun h => ?_)
  have hn := fE_not 36 q q0 q1 h
  have g := hO.n
  refine ph 10 (fun i => (ons V ((q + (i : Int)) % 36)).toNat) (fun i hi => ?_) (fun i j hi hj e => ?_)
  · have h1 := hn i (by omega)
    rcases ons_c V ((q + (i : Int)) % 36) with ⟨z, -⟩ | ⟨z0, z1, -⟩
    · exact absurd z h1
    · show (ons V ((q + (i : Int)) % 36)).toNat < 10
      omega
  · have h1 := hn i (by omega)
    have h2 := hn j (by omega)
    have e : (ons V ((q + (i : Int)) % 36)).toNat = (ons V ((q + (j : Int)) % 36)).toNat := e
    rcases ons_c V ((q + (i : Int)) % 36) with ⟨z, -⟩ | ⟨z0, z1, z2⟩
    · exact absurd z h1
    · rcases ons_c V ((q + (j : Int)) % 36) with ⟨y, -⟩ | ⟨y0, y1, y2⟩
      · exact absurd y h2
      · have e3 : ons V ((q + (i : Int)) % 36) = ons V ((q + (j : Int)) % 36) := by omega
        rw [e3] at z2
        omega
def ao (G : Bd) : Nat → Bd
  | 0 => G
  | k + 1 => mov (ao G k) (k : Int) 36
def AOf (G : Bd) (k : Int) : Bd := ao G k.toNat
theorem AOf_0 {G : Bd} : AOf G 0 = G := rfl
theorem AOf_up {G : Bd} {k : Int} (k0 : 0 ≤ k) : AOf G (k + 1) = mov (AOf G k) k 36 := by
  obtain ⟨n, rfl⟩ := Int.eq_ofNat_of_zero_le k0
  unfold AOf
  rw [show ((n : Int) + 1).toNat = n + 1 by omega, show ((n : Int)).toNat = n by omega]
  rfl
theorem AOf_f {G : Bd} (hO : OKB G) : ∀ k : Int, 0 ≤ k → OKB (AOf G k) ∧ nn (AOf G k) = nn G ∧ dy (AOf G k) = dy G ∧ th (AOf G k) = th G ∧ ∀ j : Int, 0 ≤ j → j < k → sq (AOf G k) j = 36 := by
  refine ind0 ⟨hO, rfl, rfl, rfl, fun j _ _ => by omega⟩ (fun k k0 ih => ?_)
  obtain ⟨i1, i2, i3, i4, i5⟩ := ih
  rw [AOf_up k0]
  refine ⟨OKB_off i1 k, i2, i3, i4, fun j j0 j1 => ?_⟩
  rw [sq_mov]
  by_cases e : j = k
  · rw [if_pos e]
  · rw [if_neg e]; exact i5 j j0 (by omega)
noncomputable def supN (G : Bd) (z : Int) : Nat → Bd × Int
  | 0 => (AOf G (nn G), z)
  | k + 1 => (mov (supN G z k).1 (k : Int) (fs (supN G z k).1 36 (dr (supN G z k).2)), nxt (supN G z k).2)
noncomputable def sV (G : Bd) (z k : Int) : Bd := (supN G z k.toNat).1
noncomputable def sZ (G : Bd) (z k : Int) : Int := (supN G z k.toNat).2
theorem sV_up {G : Bd} {z k : Int} (k0 : 0 ≤ k) : sV G z (k + 1) = mov (sV G z k) k (fs (sV G z k) 36 (dr (sZ G z k))) := by
  obtain ⟨n, rfl⟩ := Int.eq_ofNat_of_zero_le k0
  unfold sV sZ
  rw [show ((n : Int) + 1).toNat = n + 1 by omega, show ((n : Int)).toNat = n by omega]
  rfl
theorem sZ_up {G : Bd} {z k : Int} (k0 : 0 ≤ k) : sZ G z (k + 1) = nxt (sZ G z k) := by
  obtain ⟨n, rfl⟩ := Int.eq_ofNat_of_zero_le k0
  unfold sZ
  rw [show ((n : Int) + 1).toNat = n + 1 by omega, show ((n : Int)).toNat = n by omega]
  rfl
theorem sV_0 {G : Bd} {z : Int} : sV G z 0 = AOf G (nn G) := rfl
theorem sZ_0 {G : Bd} {z : Int} : sZ G z 0 = z := rfl
theorem sV_f {G : Bd} (hO : OKB G) {z : Int} : ∀ k : Int, 0 ≤ k → k ≤ nn G → OKB (sV G z k) ∧ nn (sV G z k) = nn G ∧ dy (sV G z k) = dy G ∧ th (sV G z k) = th G ∧ ∀ j : Int, k ≤ j → j < nn G → sq (sV G z k) j = 36 := by
  refine ind0 (fun _ => ?_) (fun k k0 ih hk => ?_)
  · have f := AOf_f hO (nn G) hO.n.1
    rw [sV_0]
    exact ⟨f.1, f.2.1, f.2.2.1, f.2.2.2.1, fun j j0 j1 => f.2.2.2.2 j j0 j1⟩
  · obtain ⟨i1, i2, i3, i4, i5⟩ := ih (by omega)
    have r := dr_R (sZ G z k)
    have fr := fs_R (V := sV G z k) 36 (dr (sZ G z k)) r.1 r.2
    have ff := fs_f 36 (dr (sZ G z k)) (fE_36 i1 r.1 r.2)
    rw [sV_up k0]
    refine ⟨OKB_mov i1 fr.1 (by omega) (fun _ => Or.inl ff), i2, i3, i4, fun j j0 j1 => ?_⟩
    rw [sq_mov, if_neg (by omega)]
    exact i5 j (by omega) j1
noncomputable def gmN (G : Bd) (w z : Int) : Nat → Int × Int
  | 0 => (0, z)
  | k + 1 => ((gmN G w z k).1 + (if w = 0 then NT (DN (sV G (gmN G w z k).2 (nn G)) no0 16) else th (DN (sV G (gmN G w z k).2 (nn G)) no0 16) - th G), sZ G (gmN G w z k).2 (nn G))
noncomputable def gA (G : Bd) (w z k : Int) : Int := (gmN G w z k.toNat).1
noncomputable def gZ (G : Bd) (w z k : Int) : Int := (gmN G w z k.toNat).2
theorem gA_up {G : Bd} {w z k : Int} (k0 : 0 ≤ k) : gA G w z (k + 1) = gA G w z k + (if w = 0 then NT (DN (sV G (gZ G w z k) (nn G)) no0 16) else th (DN (sV G (gZ G w z k) (nn G)) no0 16) - th G) := by
  obtain ⟨n, rfl⟩ := Int.eq_ofNat_of_zero_le k0
  unfold gA gZ
  rw [show ((n : Int) + 1).toNat = n + 1 by omega, show ((n : Int)).toNat = n by omega]
  rfl
theorem gZ_up {G : Bd} {w z k : Int} (k0 : 0 ≤ k) : gZ G w z (k + 1) = sZ G (gZ G w z k) (nn G) := by
  obtain ⟨n, rfl⟩ := Int.eq_ofNat_of_zero_le k0
  unfold gZ
  rw [show ((n : Int) + 1).toNat = n + 1 by omega, show ((n : Int)).toNat = n by omega]
  rfl
noncomputable def vGames (G : Bd) (n z w : Int) : Int := if (1 ≤ n ∧ n ≤ 20) ∧ 0 ≤ w ∧ w ≤ 1 then gA G w z n else -1
section C37
variable {d : Nat} {h : Mem} {Q : Option AV → Mem → Prop} {b : Nat} {G : Bd}
theorem c_X3_draw {z : Int} (hz : hI h 2 0 9 = z) (hq : Q (some (ai (I (dr z)))) (mset h 2 0 9 (I (nxt z)))) : Rn mt (d + 1) 94 [ar 2 0, ai (I 36)] h Q := by
  refine Rn.intro iX3_draw rfl rfl ?_
  show Rch bX3_draw _ _ _ _ 0 [some (ar 2 0), some (ai (I 36))] [] _
  have g_b := band_pos (nxt z)
  have e_y : hI (mset h 2 0 9 (I (nxt z))) 2 0 9 = nxt z := hI_eq (nxt_R z)
  have e_n := nxt_e z
  unfold dr at hq
  refine Rch.blk' (Rn_mono mt _) bl_X3_draw_0 (i_aload_n rfl (i_aload_n rfl (i_gfi rfl (i_ldc_w k_1103515245 (i_imul (i_sipush k_12345 (i_iadd (i_pfi rfl (i_iload_n rfl (t_if_gt 24 20 rfl rfl (by first | with_reducible exact hI_R | with_reducible exact lcm_R | with_reducible exact band_R | with_reducible exact bor_R | with_reducible exact bshr_R | with_reducible exact bshl_R | omega | (simp (disch := omega) only [hz]; omega)) (fun hc => ?_) (fun hc => ?_))))))))))) <;> (try (simp (disch := omega) only [hz] at hc ⊢)) <;> (first | (exfalso; omega) | skip)
  rw [e_n]
  repeat' (first
    | exact hq
    | (show Rch _ _ _ _ _ 0 _ _ _; refine Rch.blk' (Rn_mono mt _) bl_X3_draw_0 (i_aload_n rfl (i_aload_n rfl (i_gfi rfl (i_ldc_w k_1103515245 (i_imul (i_sipush k_12345 (i_iadd (i_pfi rfl (i_iload_n rfl (t_if_gt 24 20 rfl rfl (by first | with_reducible exact hI_R | with_reducible exact lcm_R | with_reducible exact band_R | with_reducible exact bor_R | with_reducible exact bshr_R | with_reducible exact bshl_R | omega | (simp (disch := omega) only [e_y]; omega)) (fun hc => ?_) (fun hc => ?_))))))))))) <;> (try (simp (disch := omega) only [e_y] at hc ⊢)) <;> (first | (exfalso; omega) | skip))
    | (show Rch _ _ _ _ _ 20 _ _ _; refine Rch.blk' (Rn_mono mt _) bl_X3_draw_20 (i_iconst k_0 (t_goto 38 rfl ?_)))
    | (show Rch _ _ _ _ _ 24 _ _ _; refine Rch.blk' (Rn_mono mt _) bl_X3_draw_24 (i_aload_n rfl (i_gfi rfl (i_ldc_w k_2147483647 (i_iand (i_ldc_w k_65536 (i_idiv (by first | omega | (simp (disch := omega) only [e_y]; omega)) (by first | omega | (simp (disch := omega) only [e_y]; omega)) (by first | omega | (simp (disch := omega) only [e_y]; omega)) (by first | omega | (simp (disch := omega) only [e_y]; omega)) (i_iload_n rfl (i_irem (by first | omega | (simp (disch := omega) only [e_y]; omega)) (by first | omega | (simp (disch := omega) only [e_y]; omega)) (by first | omega | (simp (disch := omega) only [e_y]; omega)) (by first | omega | (simp (disch := omega) only [e_y]; omega)) (t_none ?_))))))))) <;> (try (simp (disch := omega) only [e_y])))
    | (show Rch _ _ _ _ _ 38 _ _ _; refine Rch.blk' (Rn_mono mt _) bl_X3_draw_38 (t_iret ?_)))
theorem c_X0_takeAllOff (hG : RC h b G) (hO : OKB G) (hq : ∀ h', RC h' b (AOf G (nn G)) → FrC h h' b → Q none h') : Rn mt (d + 4) 15 [ar 0 b] h Q := by
  refine Rn.intro iX0_takeAllOff rfl rfl ?_
  show Rch bX0_takeAllOff _ _ _ _ 0 [some (ar 0 b), none] [] _
  have g_n := hO.n
  have key : ∀ k : Int, k ≤ nn G → 0 ≤ k → ∀ h', RC h' b (AOf G k) → FrC h h' b → RH bX0_takeAllOff (d + 3) Q 2 [some (ar 0 b), some (ai (I k))] h' := by
    refine up_ind (fun k hk ih k0 h' hR hF => ?_)
    obtain ⟨hOk, hnk, -, -, -⟩ := AOf_f hO k k0
    have e_n := hR.n
    rw [hnk] at e_n
    by_cases hk1 : k < nn G
    · have ih := ih hk1 (by omega)
      rw [AOf_up k0] at ih
      refine Rch.blk' (Rn_mono mt _) bl_X0_takeAllOff_2 (i_iload_n rfl (i_aload_n rfl (i_gfi rfl (t_ic_ge 22 10 rfl rfl (by first | with_reducible exact hI_R | with_reducible exact lcm_R | with_reducible exact band_R | with_reducible exact bor_R | with_reducible exact bshr_R | with_reducible exact bshl_R | omega | (simp (disch := omega) only [e_n]; omega)) (by first | with_reducible exact hI_R | with_reducible exact lcm_R | with_reducible exact band_R | with_reducible exact bor_R | with_reducible exact bshr_R | with_reducible exact bshl_R | omega | (simp (disch := omega) only [e_n]; omega)) (fun hc => ?_) (fun hc => ?_))))) <;> (try (simp (disch := omega) only [e_n] at hc ⊢)) <;> (first | (exfalso; omega) | skip)
      refine Rch.blk' (Rn_mono mt _) bl_X0_takeAllOff_10 (i_aload_n rfl (i_iload_n rfl (t_cv2 (Rn_mono mt _) 15 rfl (Nat.le_of_ble_eq_true rfl) ?_)))
      refine c_X0_takeOff hR hOk ⟨by omega, by omega⟩ (fun _ _ hs h2 hG2 hF2 => ?_) (fun hs => ?_)
      · have kk := ih h2 hG2 (hF.tr hF2)
        clear ih
        repeat' (first
          | exact kk
          | (show Rn _ _ 13 _ _ _; refine c_X0_takeOff (by assumption) (by assumption) (by first | omega | exact hI_R) (fun _ _ _ _ _ _ => ?_) (fun _ => ?_))
          | (show Rch _ _ _ _ _ 0 _ _ _; refine Rch.blk' (Rn_mono mt _) bl_X0_takeAllOff_0 (i_iconst k_0 (i_istore1 trivial (t_none ?_))))
          | (show Rch _ _ _ _ _ 10 _ _ _; refine Rch.blk' (Rn_mono mt _) bl_X0_takeAllOff_10 (i_aload_n rfl (i_iload_n rfl (t_cv2 (Rn_mono mt _) 15 rfl (Nat.le_of_ble_eq_true rfl) ?_))))
          | (show Rch _ _ _ _ _ 15 _ _ _; refine Rch.blk' (Rn_mono mt _) bl_X0_takeAllOff_15 (i_pop rfl (i_iinc1 trivial k_1 (t_goto 2 rfl ?_))))
          | (show Rch _ _ _ _ _ 22 _ _ _; refine Rch.blk' (Rn_mono mt _) bl_X0_takeAllOff_22 (t_vret ?_)))
      · have e : sq (AOf G k) k = 36 := by
          have := (hOk.pc k k0 (by omega)).2.2.2
          have : ¬ sq (AOf G k) k < 36 := fun z => hs ⟨k0, by omega, z⟩
          omega
        have e2 : mov (AOf G k) k 36 = AOf G k := by
          have := @mov_id (AOf G k) k
          rw [e] at this
          exact this
        rw [e2] at ih
        have kk := ih h' hR hF
        clear ih
        repeat' (first
          | exact kk
          | (show Rn _ _ 13 _ _ _; refine c_X0_takeOff (by assumption) (by assumption) (by first | omega | exact hI_R) (fun _ _ _ _ _ _ => ?_) (fun _ => ?_))
          | (show Rch _ _ _ _ _ 0 _ _ _; refine Rch.blk' (Rn_mono mt _) bl_X0_takeAllOff_0 (i_iconst k_0 (i_istore1 trivial (t_none ?_))))
          | (show Rch _ _ _ _ _ 10 _ _ _; refine Rch.blk' (Rn_mono mt _) bl_X0_takeAllOff_10 (i_aload_n rfl (i_iload_n rfl (t_cv2 (Rn_mono mt _) 15 rfl (Nat.le_of_ble_eq_true rfl) ?_))))
          | (show Rch _ _ _ _ _ 15 _ _ _; refine Rch.blk' (Rn_mono mt _) bl_X0_takeAllOff_15 (i_pop rfl (i_iinc1 trivial k_1 (t_goto 2 rfl ?_))))
          | (show Rch _ _ _ _ _ 22 _ _ _; refine Rch.blk' (Rn_mono mt _) bl_X0_takeAllOff_22 (t_vret ?_)))
    · obtain rfl : k = nn G := by omega
      have kk := hq h' hR hF
      clear ih hq
      refine Rch.blk' (Rn_mono mt _) bl_X0_takeAllOff_2 (i_iload_n rfl (i_aload_n rfl (i_gfi rfl (t_ic_ge 22 10 rfl rfl (by first | with_reducible exact hI_R | with_reducible exact lcm_R | with_reducible exact band_R | with_reducible exact bor_R | with_reducible exact bshr_R | with_reducible exact bshl_R | omega | (simp (disch := omega) only [e_n]; omega)) (by first | with_reducible exact hI_R | with_reducible exact lcm_R | with_reducible exact band_R | with_reducible exact bor_R | with_reducible exact bshr_R | with_reducible exact bshl_R | omega | (simp (disch := omega) only [e_n]; omega)) (fun hc => ?_) (fun hc => ?_))))) <;> (try (simp (disch := omega) only [e_n] at hc ⊢)) <;> (first | (exfalso; omega) | skip)
      repeat' (first
        | exact kk
        | (show Rn _ _ 13 _ _ _; refine c_X0_takeOff (by assumption) (by assumption) (by first | omega | exact hI_R) (fun _ _ _ _ _ _ => ?_) (fun _ => ?_))
        | (show Rch _ _ _ _ _ 0 _ _ _; refine Rch.blk' (Rn_mono mt _) bl_X0_takeAllOff_0 (i_iconst k_0 (i_istore1 trivial (t_none ?_))))
        | (show Rch _ _ _ _ _ 10 _ _ _; refine Rch.blk' (Rn_mono mt _) bl_X0_takeAllOff_10 (i_aload_n rfl (i_iload_n rfl (t_cv2 (Rn_mono mt _) 15 rfl (Nat.le_of_ble_eq_true rfl) ?_))))
        | (show Rch _ _ _ _ _ 15 _ _ _; refine Rch.blk' (Rn_mono mt _) bl_X0_takeAllOff_15 (i_pop rfl (i_iinc1 trivial k_1 (t_goto 2 rfl ?_))))
        | (show Rch _ _ _ _ _ 22 _ _ _; refine Rch.blk' (Rn_mono mt _) bl_X0_takeAllOff_22 (t_vret ?_)))
  have kz := key 0 (by omega) (by omega) h hG FrC.rf
  clear key
  repeat' (first
    | exact kz
    | (show Rn _ _ 13 _ _ _; refine c_X0_takeOff (by assumption) (by assumption) (by first | omega | exact hI_R) (fun _ _ _ _ _ _ => ?_) (fun _ => ?_))
    | (show Rch _ _ _ _ _ 0 _ _ _; refine Rch.blk' (Rn_mono mt _) bl_X0_takeAllOff_0 (i_iconst k_0 (i_istore1 trivial (t_none ?_))))
    | (show Rch _ _ _ _ _ 10 _ _ _; refine Rch.blk' (Rn_mono mt _) bl_X0_takeAllOff_10 (i_aload_n rfl (i_iload_n rfl (t_cv2 (Rn_mono mt _) 15 rfl (Nat.le_of_ble_eq_true rfl) ?_))))
    | (show Rch _ _ _ _ _ 15 _ _ _; refine Rch.blk' (Rn_mono mt _) bl_X0_takeAllOff_15 (i_pop rfl (i_iinc1 trivial k_1 (t_goto 2 rfl ?_))))
    | (show Rch _ _ _ _ _ 22 _ _ _; refine Rch.blk' (Rn_mono mt _) bl_X0_takeAllOff_22 (t_vret ?_)))
theorem c_X3_setUpByDraws (hG : RC h 0 G) (hO : OKB G) {z : Int} (hz : hI h 2 0 9 = z) (hq : ∀ h', RC h' 2 (sV G z (nn G)) → hI h' 2 0 9 = sZ G z (nn G) → JX h h' → Q none h') : Rn mt (d + 6) 95 [ar 2 0] h Q := by
  refine Rn.intro iX3_setUpByDraws rfl rfl ?_
  show Rch bX3_setUpByDraws _ _ _ _ 0 [some (ar 2 0), none, none, none] [] _
  have g_n := hO.n
  have key : ∀ k : Int, k ≤ nn G → 0 ≤ k → ∀ (h' : Mem) (u v : Option AV), RC h' 2 (sV G z k) → hI h' 2 0 9 = sZ G z k → JX h h' → RH bX3_setUpByDraws (d + 5) Q 20 [some (ar 2 0), some (ai (I k)), u, v] h' := by
    refine up_ind (fun k hk ih k0 h' u v hR hZ hJ => ?_)
    obtain ⟨hOk, hnk, -, -, hTk⟩ := sV_f (z := z) hO k k0 hk
    have e_n := hR.n
    rw [hnk] at e_n
    by_cases hk1 : k < nn G
    · have ih := ih hk1 (by omega)
      rw [sV_up k0, sZ_up k0] at ih
      have r := dr_R (sZ G z k)
      have hE := fE_36 hOk r.1 r.2
      have hT := hTk k (by omega) hk1
      refine Rch.blk' (Rn_mono mt _) bl_X3_setUpByDraws_20 (i_iload_n rfl (i_aload_n rfl (i_gfs rfl (i_gfi rfl (t_ic_ge 77 31 rfl rfl (by first | with_reducible exact hI_R | with_reducible exact lcm_R | with_reducible exact band_R | with_reducible exact bor_R | with_reducible exact bshr_R | with_reducible exact bshl_R | omega | (simp (disch := omega) only [e_n]; omega)) (by first | with_reducible exact hI_R | with_reducible exact lcm_R | with_reducible exact band_R | with_reducible exact bor_R | with_reducible exact bshr_R | with_reducible exact bshl_R | omega | (simp (disch := omega) only [e_n]; omega)) (fun hc => ?_) (fun hc => ?_)))))) <;> (try (simp (disch := omega) only [e_n] at hc ⊢)) <;> (first | (exfalso; omega) | skip)
      refine Rch.blk' (Rn_mono mt _) bl_X3_setUpByDraws_31 (i_aload_n rfl (i_bipush k_36 (t_cv2 (Rn_mono mt _) 37 rfl (Nat.le_of_ble_eq_true rfl) ?_)))
      refine c_X3_draw hZ ?_
      have hR2 : RC (mset h' 2 0 9 (I (nxt (sZ G z k)))) 2 (sV G z k) := hR.eqs (fun t j ht => hI_nt (by omega))
      have hZ2 : hI (mset h' 2 0 9 (I (nxt (sZ G z k)))) 2 0 9 = nxt (sZ G z k) := hI_eq (nxt_R _)
      have hJ2 : JX h (mset h' 2 0 9 (I (nxt (sZ G z k)))) := hJ.ms (by omega)
      generalize mset h' 2 0 9 (I (nxt (sZ G z k))) = h2 at *
      have inner : ∀ i : Int, i ≤ 36 → 0 ≤ i → ∀ s : Int, 0 ≤ s → s < 36 → fE (sV G z k) (36 - i).toNat s → fs (sV G z k) (36 - i).toNat s = fs (sV G z k) 36 (dr (sZ G z k)) → RH bX3_setUpByDraws (d + 5) Q 40 [some (ar 2 0), some (ai (I k)), some (ai (I s)), some (ai (I i))] h2 := by
        refine up_ind (fun i hi jh i0 s s0 s1 hE hS => ?_)
        by_cases hi1 : i < 36
        · have jh := jh hi1 (by omega)
          rw [show (36 - i).toNat = (36 - (i + 1)).toNat + 1 by omega] at hE hS
          have hE : ons (sV G z k) s = -4 ∨ fE (sV G z k) (36 - (i + 1)).toNat ((s + 1) % 36) := hE
          have hS : ifp (ons (sV G z k) s = -4) s (fs (sV G z k) (36 - (i + 1)).toNat ((s + 1) % 36)) = fs (sV G z k) 36 (dr (sZ G z k)) := hS
          refine Rch.blk' (Rn_mono mt _) bl_X3_setUpByDraws_40 (i_iload_n rfl (i_bipush k_36 (t_ic_ge 71 46 rfl rfl (by first | with_reducible exact hI_R | with_reducible exact lcm_R | with_reducible exact band_R | with_reducible exact bor_R | with_reducible exact bshr_R | with_reducible exact bshl_R | omega) (by first | with_reducible exact hI_R | with_reducible exact lcm_R | with_reducible exact band_R | with_reducible exact bor_R | with_reducible exact bshr_R | with_reducible exact bshl_R | omega) (fun hc => ?_) (fun hc => ?_)))) <;> (first | (exfalso; omega) | skip)
          refine Rch.blk' (Rn_mono mt _) bl_X3_setUpByDraws_46 (i_aload_n rfl (i_gfs rfl (i_iload_n rfl (i_iload_n rfl (t_cv3 (Rn_mono mt _) 55 rfl (Nat.le_of_ble_eq_true rfl) ?_)))))
          refine c_X0_movePiece hR2 hOk ⟨by omega, by omega⟩ ⟨by omega, by omega⟩ (fun _ _ _ _ hf h3 hG3 hF3 => ?_) (fun hf => ?_)
          · have hf2 : ons (sV G z k) s = -4 := hf.elim id (fun e => by
              rcases ons_c (sV G z k) s with ⟨a, -⟩ | ⟨-, -, a⟩
              · exact a
              · rw [e, hT] at a; omega)
            rw [ifp_p hf2] at hS
            rw [hS] at hG3
            have kk := ih h3 (some (ai (I s))) (some (ai (I i))) hG3 ((hF3 2 0 9 (by omega)).trans hZ2) (hJ2.tr (hF3.jx (by omega)))
            clear ih jh
            repeat' (first
              | exact kk
              | (show Rn _ _ 14 _ _ _; refine c_X0_movePiece (by assumption) (by assumption) (by first | omega | exact hI_R) (by first | omega | exact hI_R) (fun _ _ _ _ _ _ _ _ => ?_) (fun _ => ?_))
              | (show Rch _ _ _ _ _ 0 _ _ _; refine Rch.blk' (Rn_mono mt _) bl_X3_setUpByDraws_0 (i_aload_n rfl (i_gfs rfl (i_aload_n rfl (i_gfs rfl (t_cv2 (Rn_mono mt _) 11 rfl (Nat.le_of_ble_eq_true rfl) ?_))))))
              | (show Rch _ _ _ _ _ 11 _ _ _; refine Rch.blk' (Rn_mono mt _) bl_X3_setUpByDraws_11 (i_aload_n rfl (i_gfs rfl (t_cv1 (Rn_mono mt _) 18 rfl (Nat.le_of_ble_eq_true rfl) ?_))))
              | (show Rch _ _ _ _ _ 18 _ _ _; refine Rch.blk' (Rn_mono mt _) bl_X3_setUpByDraws_18 (i_iconst k_0 (i_istore1 trivial (t_none ?_))))
              | (show Rch _ _ _ _ _ 31 _ _ _; refine Rch.blk' (Rn_mono mt _) bl_X3_setUpByDraws_31 (i_aload_n rfl (i_bipush k_36 (t_cv2 (Rn_mono mt _) 37 rfl (Nat.le_of_ble_eq_true rfl) ?_))))
              | (show Rch _ _ _ _ _ 37 _ _ _; refine Rch.blk' (Rn_mono mt _) bl_X3_setUpByDraws_37 (i_istore2 trivial (i_iconst k_0 (i_istore3 trivial (t_none ?_)))))
              | (show Rch _ _ _ _ _ 46 _ _ _; refine Rch.blk' (Rn_mono mt _) bl_X3_setUpByDraws_46 (i_aload_n rfl (i_gfs rfl (i_iload_n rfl (i_iload_n rfl (t_cv3 (Rn_mono mt _) 55 rfl (Nat.le_of_ble_eq_true rfl) ?_))))))
              | (show Rch _ _ _ _ _ 55 _ _ _; refine Rch.blk' (Rn_mono mt _) bl_X3_setUpByDraws_55 (t_if_ne 71 58 rfl rfl (by first | with_reducible exact hI_R | with_reducible exact lcm_R | with_reducible exact band_R | with_reducible exact bor_R | with_reducible exact bshr_R | with_reducible exact bshl_R | omega) (fun hc => ?_) (fun hc => ?_)) <;> (first | (exfalso; omega) | skip))
              | (show Rch _ _ _ _ _ 58 _ _ _; refine Rch.blk' (Rn_mono mt _) bl_X3_setUpByDraws_58 (i_iload_n rfl (i_iconst k_1 (i_iadd (i_bipush k_36 (i_irem (by omega) (by omega) (by omega) (by omega) (i_istore2 trivial (i_iinc3 trivial k_1 (t_goto 40 rfl ?_)))))))))
              | (show Rch _ _ _ _ _ 71 _ _ _; refine Rch.blk' (Rn_mono mt _) bl_X3_setUpByDraws_71 (i_iinc1 trivial k_1 (t_goto 20 rfl ?_)))
              | (show Rch _ _ _ _ _ 77 _ _ _; refine Rch.blk' (Rn_mono mt _) bl_X3_setUpByDraws_77 (t_vret ?_)))
          · have hf2 : ¬ ons (sV G z k) s = -4 := fun e => hf ⟨⟨k0, by omega⟩, ⟨s0, s1⟩, Or.inl e⟩
            rw [ifp_n hf2] at hS
            have kk := jh ((s + 1) % 36) (by omega) (by omega) (hE.elim (fun z => absurd z hf2) id) hS
            clear ih jh
            repeat' (first
              | exact kk
              | (show Rn _ _ 14 _ _ _; refine c_X0_movePiece (by assumption) (by assumption) (by first | omega | exact hI_R) (by first | omega | exact hI_R) (fun _ _ _ _ _ _ _ _ => ?_) (fun _ => ?_))
              | (show Rch _ _ _ _ _ 0 _ _ _; refine Rch.blk' (Rn_mono mt _) bl_X3_setUpByDraws_0 (i_aload_n rfl (i_gfs rfl (i_aload_n rfl (i_gfs rfl (t_cv2 (Rn_mono mt _) 11 rfl (Nat.le_of_ble_eq_true rfl) ?_))))))
              | (show Rch _ _ _ _ _ 11 _ _ _; refine Rch.blk' (Rn_mono mt _) bl_X3_setUpByDraws_11 (i_aload_n rfl (i_gfs rfl (t_cv1 (Rn_mono mt _) 18 rfl (Nat.le_of_ble_eq_true rfl) ?_))))
              | (show Rch _ _ _ _ _ 18 _ _ _; refine Rch.blk' (Rn_mono mt _) bl_X3_setUpByDraws_18 (i_iconst k_0 (i_istore1 trivial (t_none ?_))))
              | (show Rch _ _ _ _ _ 31 _ _ _; refine Rch.blk' (Rn_mono mt _) bl_X3_setUpByDraws_31 (i_aload_n rfl (i_bipush k_36 (t_cv2 (Rn_mono mt _) 37 rfl (Nat.le_of_ble_eq_true rfl) ?_))))
              | (show Rch _ _ _ _ _ 37 _ _ _; refine Rch.blk' (Rn_mono mt _) bl_X3_setUpByDraws_37 (i_istore2 trivial (i_iconst k_0 (i_istore3 trivial (t_none ?_)))))
              | (show Rch _ _ _ _ _ 46 _ _ _; refine Rch.blk' (Rn_mono mt _) bl_X3_setUpByDraws_46 (i_aload_n rfl (i_gfs rfl (i_iload_n rfl (i_iload_n rfl (t_cv3 (Rn_mono mt _) 55 rfl (Nat.le_of_ble_eq_true rfl) ?_))))))
              | (show Rch _ _ _ _ _ 55 _ _ _; refine Rch.blk' (Rn_mono mt _) bl_X3_setUpByDraws_55 (t_if_ne 71 58 rfl rfl (by first | with_reducible exact hI_R | with_reducible exact lcm_R | with_reducible exact band_R | with_reducible exact bor_R | with_reducible exact bshr_R | with_reducible exact bshl_R | omega) (fun hc => ?_) (fun hc => ?_)) <;> (first | (exfalso; omega) | skip))
              | (show Rch _ _ _ _ _ 58 _ _ _; refine Rch.blk' (Rn_mono mt _) bl_X3_setUpByDraws_58 (i_iload_n rfl (i_iconst k_1 (i_iadd (i_bipush k_36 (i_irem (by omega) (by omega) (by omega) (by omega) (i_istore2 trivial (i_iinc3 trivial k_1 (t_goto 40 rfl ?_)))))))))
              | (show Rch _ _ _ _ _ 71 _ _ _; refine Rch.blk' (Rn_mono mt _) bl_X3_setUpByDraws_71 (i_iinc1 trivial k_1 (t_goto 20 rfl ?_)))
              | (show Rch _ _ _ _ _ 77 _ _ _; refine Rch.blk' (Rn_mono mt _) bl_X3_setUpByDraws_77 (t_vret ?_)))
        · obtain rfl : i = 36 := by omega
          exact hE.elim
      have kk := inner 0 (by omega) (by omega) (dr (sZ G z k)) r.1 r.2 hE rfl
      clear inner ih
      repeat' (first
        | exact kk
        | (show Rn _ _ 14 _ _ _; refine c_X0_movePiece (by assumption) (by assumption) (by first | omega | exact hI_R) (by first | omega | exact hI_R) (fun _ _ _ _ _ _ _ _ => ?_) (fun _ => ?_))
        | (show Rch _ _ _ _ _ 0 _ _ _; refine Rch.blk' (Rn_mono mt _) bl_X3_setUpByDraws_0 (i_aload_n rfl (i_gfs rfl (i_aload_n rfl (i_gfs rfl (t_cv2 (Rn_mono mt _) 11 rfl (Nat.le_of_ble_eq_true rfl) ?_))))))
        | (show Rch _ _ _ _ _ 11 _ _ _; refine Rch.blk' (Rn_mono mt _) bl_X3_setUpByDraws_11 (i_aload_n rfl (i_gfs rfl (t_cv1 (Rn_mono mt _) 18 rfl (Nat.le_of_ble_eq_true rfl) ?_))))
        | (show Rch _ _ _ _ _ 18 _ _ _; refine Rch.blk' (Rn_mono mt _) bl_X3_setUpByDraws_18 (i_iconst k_0 (i_istore1 trivial (t_none ?_))))
        | (show Rch _ _ _ _ _ 31 _ _ _; refine Rch.blk' (Rn_mono mt _) bl_X3_setUpByDraws_31 (i_aload_n rfl (i_bipush k_36 (t_cv2 (Rn_mono mt _) 37 rfl (Nat.le_of_ble_eq_true rfl) ?_))))
        | (show Rch _ _ _ _ _ 37 _ _ _; refine Rch.blk' (Rn_mono mt _) bl_X3_setUpByDraws_37 (i_istore2 trivial (i_iconst k_0 (i_istore3 trivial (t_none ?_)))))
        | (show Rch _ _ _ _ _ 46 _ _ _; refine Rch.blk' (Rn_mono mt _) bl_X3_setUpByDraws_46 (i_aload_n rfl (i_gfs rfl (i_iload_n rfl (i_iload_n rfl (t_cv3 (Rn_mono mt _) 55 rfl (Nat.le_of_ble_eq_true rfl) ?_))))))
        | (show Rch _ _ _ _ _ 55 _ _ _; refine Rch.blk' (Rn_mono mt _) bl_X3_setUpByDraws_55 (t_if_ne 71 58 rfl rfl (by first | with_reducible exact hI_R | with_reducible exact lcm_R | with_reducible exact band_R | with_reducible exact bor_R | with_reducible exact bshr_R | with_reducible exact bshl_R | omega) (fun hc => ?_) (fun hc => ?_)) <;> (first | (exfalso; omega) | skip))
        | (show Rch _ _ _ _ _ 58 _ _ _; refine Rch.blk' (Rn_mono mt _) bl_X3_setUpByDraws_58 (i_iload_n rfl (i_iconst k_1 (i_iadd (i_bipush k_36 (i_irem (by omega) (by omega) (by omega) (by omega) (i_istore2 trivial (i_iinc3 trivial k_1 (t_goto 40 rfl ?_)))))))))
        | (show Rch _ _ _ _ _ 71 _ _ _; refine Rch.blk' (Rn_mono mt _) bl_X3_setUpByDraws_71 (i_iinc1 trivial k_1 (t_goto 20 rfl ?_)))
        | (show Rch _ _ _ _ _ 77 _ _ _; refine Rch.blk' (Rn_mono mt _) bl_X3_setUpByDraws_77 (t_vret ?_)))
    · obtain rfl : k = nn G := by omega
      have kk := hq h' hR hZ hJ
      clear ih hq
      refine Rch.blk' (Rn_mono mt _) bl_X3_setUpByDraws_20 (i_iload_n rfl (i_aload_n rfl (i_gfs rfl (i_gfi rfl (t_ic_ge 77 31 rfl rfl (by first | with_reducible exact hI_R | with_reducible exact lcm_R | with_reducible exact band_R | with_reducible exact bor_R | with_reducible exact bshr_R | with_reducible exact bshl_R | omega | (simp (disch := omega) only [e_n]; omega)) (by first | with_reducible exact hI_R | with_reducible exact lcm_R | with_reducible exact band_R | with_reducible exact bor_R | with_reducible exact bshr_R | with_reducible exact bshl_R | omega | (simp (disch := omega) only [e_n]; omega)) (fun hc => ?_) (fun hc => ?_)))))) <;> (try (simp (disch := omega) only [e_n] at hc ⊢)) <;> (first | (exfalso; omega) | skip)
      repeat' (first
        | exact kk
        | (show Rn _ _ 14 _ _ _; refine c_X0_movePiece (by assumption) (by assumption) (by first | omega | exact hI_R) (by first | omega | exact hI_R) (fun _ _ _ _ _ _ _ _ => ?_) (fun _ => ?_))
        | (show Rch _ _ _ _ _ 0 _ _ _; refine Rch.blk' (Rn_mono mt _) bl_X3_setUpByDraws_0 (i_aload_n rfl (i_gfs rfl (i_aload_n rfl (i_gfs rfl (t_cv2 (Rn_mono mt _) 11 rfl (Nat.le_of_ble_eq_true rfl) ?_))))))
        | (show Rch _ _ _ _ _ 11 _ _ _; refine Rch.blk' (Rn_mono mt _) bl_X3_setUpByDraws_11 (i_aload_n rfl (i_gfs rfl (t_cv1 (Rn_mono mt _) 18 rfl (Nat.le_of_ble_eq_true rfl) ?_))))
        | (show Rch _ _ _ _ _ 18 _ _ _; refine Rch.blk' (Rn_mono mt _) bl_X3_setUpByDraws_18 (i_iconst k_0 (i_istore1 trivial (t_none ?_))))
        | (show Rch _ _ _ _ _ 31 _ _ _; refine Rch.blk' (Rn_mono mt _) bl_X3_setUpByDraws_31 (i_aload_n rfl (i_bipush k_36 (t_cv2 (Rn_mono mt _) 37 rfl (Nat.le_of_ble_eq_true rfl) ?_))))
        | (show Rch _ _ _ _ _ 37 _ _ _; refine Rch.blk' (Rn_mono mt _) bl_X3_setUpByDraws_37 (i_istore2 trivial (i_iconst k_0 (i_istore3 trivial (t_none ?_)))))
        | (show Rch _ _ _ _ _ 40 _ _ _; refine Rch.blk' (Rn_mono mt _) bl_X3_setUpByDraws_40 (i_iload_n rfl (i_bipush k_36 (t_ic_ge 71 46 rfl rfl (by first | with_reducible exact hI_R | with_reducible exact lcm_R | with_reducible exact band_R | with_reducible exact bor_R | with_reducible exact bshr_R | with_reducible exact bshl_R | omega) (by first | with_reducible exact hI_R | with_reducible exact lcm_R | with_reducible exact band_R | with_reducible exact bor_R | with_reducible exact bshr_R | with_reducible exact bshl_R | omega) (fun hc => ?_) (fun hc => ?_)))) <;> (first | (exfalso; omega) | skip))
        | (show Rch _ _ _ _ _ 46 _ _ _; refine Rch.blk' (Rn_mono mt _) bl_X3_setUpByDraws_46 (i_aload_n rfl (i_gfs rfl (i_iload_n rfl (i_iload_n rfl (t_cv3 (Rn_mono mt _) 55 rfl (Nat.le_of_ble_eq_true rfl) ?_))))))
        | (show Rch _ _ _ _ _ 55 _ _ _; refine Rch.blk' (Rn_mono mt _) bl_X3_setUpByDraws_55 (t_if_ne 71 58 rfl rfl (by first | with_reducible exact hI_R | with_reducible exact lcm_R | with_reducible exact band_R | with_reducible exact bor_R | with_reducible exact bshr_R | with_reducible exact bshl_R | omega) (fun hc => ?_) (fun hc => ?_)) <;> (first | (exfalso; omega) | skip))
        | (show Rch _ _ _ _ _ 58 _ _ _; refine Rch.blk' (Rn_mono mt _) bl_X3_setUpByDraws_58 (i_iload_n rfl (i_iconst k_1 (i_iadd (i_bipush k_36 (i_irem (by omega) (by omega) (by omega) (by omega) (i_istore2 trivial (i_iinc3 trivial k_1 (t_goto 40 rfl ?_)))))))))
        | (show Rch _ _ _ _ _ 71 _ _ _; refine Rch.blk' (Rn_mono mt _) bl_X3_setUpByDraws_71 (i_iinc1 trivial k_1 (t_goto 20 rfl ?_)))
        | (show Rch _ _ _ _ _ 77 _ _ _; refine Rch.blk' (Rn_mono mt _) bl_X3_setUpByDraws_77 (t_vret ?_)))
  refine Rch.blk' (Rn_mono mt _) bl_X3_setUpByDraws_0 (i_aload_n rfl (i_gfs rfl (i_aload_n rfl (i_gfs rfl (t_cv2 (Rn_mono mt _) 11 rfl (Nat.le_of_ble_eq_true rfl) ?_)))))
  refine c_X0_becomes hG hO (by decide) (fun h1 hG1 hF1 => ?_)
  refine Rch.blk' (Rn_mono mt _) bl_X3_setUpByDraws_11 (i_aload_n rfl (i_gfs rfl (t_cv1 (Rn_mono mt _) 18 rfl (Nat.le_of_ble_eq_true rfl) ?_)))
  refine c_X0_takeAllOff hG1 hO (fun h2 hG2 hF2 => ?_)
  have hFa := hF1.tr hF2
  have kz := key 0 (by omega) (by omega) h2 none none hG2 ((hFa 2 0 9 (by omega)).trans hz) (hFa.jx (by omega))
  clear key hq
  repeat' (first
    | exact kz
    | (show Rn _ _ 14 _ _ _; refine c_X0_movePiece (by assumption) (by assumption) (by first | omega | exact hI_R) (by first | omega | exact hI_R) (fun _ _ _ _ _ _ _ _ => ?_) (fun _ => ?_))
    | (show Rch _ _ _ _ _ 0 _ _ _; refine Rch.blk' (Rn_mono mt _) bl_X3_setUpByDraws_0 (i_aload_n rfl (i_gfs rfl (i_aload_n rfl (i_gfs rfl (t_cv2 (Rn_mono mt _) 11 rfl (Nat.le_of_ble_eq_true rfl) ?_))))))
    | (show Rch _ _ _ _ _ 11 _ _ _; refine Rch.blk' (Rn_mono mt _) bl_X3_setUpByDraws_11 (i_aload_n rfl (i_gfs rfl (t_cv1 (Rn_mono mt _) 18 rfl (Nat.le_of_ble_eq_true rfl) ?_))))
    | (show Rch _ _ _ _ _ 18 _ _ _; refine Rch.blk' (Rn_mono mt _) bl_X3_setUpByDraws_18 (i_iconst k_0 (i_istore1 trivial (t_none ?_))))
    | (show Rch _ _ _ _ _ 31 _ _ _; refine Rch.blk' (Rn_mono mt _) bl_X3_setUpByDraws_31 (i_aload_n rfl (i_bipush k_36 (t_cv2 (Rn_mono mt _) 37 rfl (Nat.le_of_ble_eq_true rfl) ?_))))
    | (show Rch _ _ _ _ _ 37 _ _ _; refine Rch.blk' (Rn_mono mt _) bl_X3_setUpByDraws_37 (i_istore2 trivial (i_iconst k_0 (i_istore3 trivial (t_none ?_)))))
    | (show Rch _ _ _ _ _ 40 _ _ _; refine Rch.blk' (Rn_mono mt _) bl_X3_setUpByDraws_40 (i_iload_n rfl (i_bipush k_36 (t_ic_ge 71 46 rfl rfl (by first | with_reducible exact hI_R | with_reducible exact lcm_R | with_reducible exact band_R | with_reducible exact bor_R | with_reducible exact bshr_R | with_reducible exact bshl_R | omega) (by first | with_reducible exact hI_R | with_reducible exact lcm_R | with_reducible exact band_R | with_reducible exact bor_R | with_reducible exact bshr_R | with_reducible exact bshl_R | omega) (fun hc => ?_) (fun hc => ?_)))) <;> (first | (exfalso; omega) | skip))
    | (show Rch _ _ _ _ _ 46 _ _ _; refine Rch.blk' (Rn_mono mt _) bl_X3_setUpByDraws_46 (i_aload_n rfl (i_gfs rfl (i_iload_n rfl (i_iload_n rfl (t_cv3 (Rn_mono mt _) 55 rfl (Nat.le_of_ble_eq_true rfl) ?_))))))
    | (show Rch _ _ _ _ _ 55 _ _ _; refine Rch.blk' (Rn_mono mt _) bl_X3_setUpByDraws_55 (t_if_ne 71 58 rfl rfl (by first | with_reducible exact hI_R | with_reducible exact lcm_R | with_reducible exact band_R | with_reducible exact bor_R | with_reducible exact bshr_R | with_reducible exact bshl_R | omega) (fun hc => ?_) (fun hc => ?_)) <;> (first | (exfalso; omega) | skip))
    | (show Rch _ _ _ _ _ 58 _ _ _; refine Rch.blk' (Rn_mono mt _) bl_X3_setUpByDraws_58 (i_iload_n rfl (i_iconst k_1 (i_iadd (i_bipush k_36 (i_irem (by omega) (by omega) (by omega) (by omega) (i_istore2 trivial (i_iinc3 trivial k_1 (t_goto 40 rfl ?_)))))))))
    | (show Rch _ _ _ _ _ 71 _ _ _; refine Rch.blk' (Rn_mono mt _) bl_X3_setUpByDraws_71 (i_iinc1 trivial k_1 (t_goto 20 rfl ?_)))
    | (show Rch _ _ _ _ _ 77 _ _ _; refine Rch.blk' (Rn_mono mt _) bl_X3_setUpByDraws_77 (t_vret ?_)))
theorem c_X3_games (hG : RC h 0 G) (hO : OKB G) (hy : dy G ≤ 999) {n z w : Int} (hn : inR n) (hz : inR z) (hw : inR w) (hq : ∀ v h', v = vGames G n z w → JX h h' → Q (some (ai (I v))) h') : Rn mt (d + 20) 96 [ar 2 0, ai (I n), ai (I z), ai (I w)] h Q := by
  refine Rn.intro iX3_games rfl rfl ?_
  show Rch bX3_games _ _ _ _ 0 [some (ar 2 0), some (ai (I n)), some (ai (I z)), some (ai (I w)), none, none] [] _
  have g_n := hO.n
  have k1 : ∀ u, u = -1 → ¬ ((1 ≤ n ∧ n ≤ 20) ∧ 0 ≤ w ∧ w ≤ 1) → Q (some (ai (I u))) h := fun u e a => hq _ _ (by unfold vGames; rw [if_neg a]; exact e) JX.rf
  have key : ((1 ≤ n ∧ n ≤ 20) ∧ 0 ≤ w ∧ w ≤ 1) → ∀ k : Int, k ≤ n → 0 ≤ k → ∀ (h' : Mem), hI h' 2 0 9 = gZ G w z k → JX h h' → RH bX3_games (d + 19) Q 33 [some (ar 2 0), some (ai (I n)), some (ai (I z)), some (ai (I w)), some (ai (I (gA G w z k))), some (ai (I k))] h' := by
    intro ha
    refine up_ind (fun k hk ih k0 h' hZ hJ => ?_)
    have hR := hG.jx hJ (by omega)
    by_cases hk1 : k < n
    · have ih := ih hk1 (by omega)
      rw [gA_up k0, gZ_up k0] at ih
      obtain ⟨hOs, hns, hds, -, -⟩ := sV_f (z := gZ G w z k) hO (nn G) g_n.1 (Int.le_refl _)
      have hOd := (DN_f (M := no0) hOs 16 (by omega)).1
      refine Rch.blk' (Rn_mono mt _) bl_X3_games_33 (i_iload rfl (i_iload_n rfl (t_ic_ge 92 39 rfl rfl (by first | with_reducible exact hI_R | with_reducible exact lcm_R | with_reducible exact band_R | with_reducible exact bor_R | with_reducible exact bshr_R | with_reducible exact bshl_R | omega) (by first | with_reducible exact hI_R | with_reducible exact lcm_R | with_reducible exact band_R | with_reducible exact bor_R | with_reducible exact bshr_R | with_reducible exact bshl_R | omega) (fun hc => ?_) (fun hc => ?_)))) <;> (first | (exfalso; omega) | skip)
      refine Rch.blk' (Rn_mono mt _) bl_X3_games_39 (i_aload_n rfl (t_cv1 (Rn_mono mt _) 43 rfl (Nat.le_of_ble_eq_true rfl) ?_))
      refine c_X3_setUpByDraws hR hO hZ (fun h2 hG2 hZ2 hJ2 => ?_)
      refine Rch.blk' (Rn_mono mt _) bl_X3_games_43 (i_aload_n rfl (i_gfs rfl (i_bipush k_16 (t_cv2 (Rn_mono mt _) 52 rfl (Nat.le_of_ble_eq_true rfl) ?_))))
      refine c_X0_passDays hG2 hOs (by omega) (by omega) (by omega) (fun h3 hG3 hF3 => ?_)
      have hJ3 := (hJ.tr hJ2).tr (hF3.jx (by omega))
      have hR3 := hG.jx hJ3 (by omega)
      have e_o := hG3.o
      have e_p := hR3.o
      have ih := ih h3 ((hF3 2 0 9 (by omega)).trans hZ2) hJ3
      by_cases c : w = 0
      · rw [if_pos c] at ih
        repeat' (first
          | exact ih
          | (show Rn _ _ 34 _ _ _; refine c_X0_howManyThere (by assumption) (by assumption) (fun _ _ => ?_))
          | (show Rch _ _ _ _ _ 0 _ _ _; refine Rch.blk' (Rn_mono mt _) bl_X3_games_0 (i_iload_n rfl (i_iconst k_1 (t_ic_lt 20 5 rfl rfl (by first | with_reducible exact hI_R | with_reducible exact lcm_R | with_reducible exact band_R | with_reducible exact bor_R | with_reducible exact bshr_R | with_reducible exact bshl_R | omega) (by first | with_reducible exact hI_R | with_reducible exact lcm_R | with_reducible exact band_R | with_reducible exact bor_R | with_reducible exact bshr_R | with_reducible exact bshl_R | omega) (fun hc => ?_) (fun hc => ?_)))) <;> (first | (exfalso; omega) | skip))
          | (show Rch _ _ _ _ _ 5 _ _ _; refine Rch.blk' (Rn_mono mt _) bl_X3_games_5 (i_iload_n rfl (i_bipush k_20 (t_ic_gt 20 11 rfl rfl (by first | with_reducible exact hI_R | with_reducible exact lcm_R | with_reducible exact band_R | with_reducible exact bor_R | with_reducible exact bshr_R | with_reducible exact bshl_R | omega) (by first | with_reducible exact hI_R | with_reducible exact lcm_R | with_reducible exact band_R | with_reducible exact bor_R | with_reducible exact bshr_R | with_reducible exact bshl_R | omega) (fun hc => ?_) (fun hc => ?_)))) <;> (first | (exfalso; omega) | skip))
          | (show Rch _ _ _ _ _ 11 _ _ _; refine Rch.blk' (Rn_mono mt _) bl_X3_games_11 (i_iload_n rfl (t_if_lt 20 15 rfl rfl (by first | with_reducible exact hI_R | with_reducible exact lcm_R | with_reducible exact band_R | with_reducible exact bor_R | with_reducible exact bshr_R | with_reducible exact bshl_R | omega) (fun hc => ?_) (fun hc => ?_))) <;> (first | (exfalso; omega) | skip))
          | (show Rch _ _ _ _ _ 15 _ _ _; refine Rch.blk' (Rn_mono mt _) bl_X3_games_15 (i_iload_n rfl (i_iconst k_1 (t_ic_le 22 20 rfl rfl (by first | with_reducible exact hI_R | with_reducible exact lcm_R | with_reducible exact band_R | with_reducible exact bor_R | with_reducible exact bshr_R | with_reducible exact bshl_R | omega) (by first | with_reducible exact hI_R | with_reducible exact lcm_R | with_reducible exact band_R | with_reducible exact bor_R | with_reducible exact bshr_R | with_reducible exact bshl_R | omega) (fun hc => ?_) (fun hc => ?_)))) <;> (first | (exfalso; omega) | skip))
          | (show Rch _ _ _ _ _ 20 _ _ _; refine Rch.blk' (Rn_mono mt _) bl_X3_games_20 (i_iconst k_m1 (t_iret ?_)))
          | (show Rch _ _ _ _ _ 22 _ _ _; refine Rch.blk' (Rn_mono mt _) bl_X3_games_22 (i_aload_n rfl (i_iload_n rfl (i_pfi rfl (i_iconst k_0 (i_istore4 trivial (i_iconst k_0 (i_istore5 trivial (t_none ?_)))))))))
          | (show Rch _ _ _ _ _ 39 _ _ _; refine Rch.blk' (Rn_mono mt _) bl_X3_games_39 (i_aload_n rfl (t_cv1 (Rn_mono mt _) 43 rfl (Nat.le_of_ble_eq_true rfl) ?_)))
          | (show Rch _ _ _ _ _ 43 _ _ _; refine Rch.blk' (Rn_mono mt _) bl_X3_games_43 (i_aload_n rfl (i_gfs rfl (i_bipush k_16 (t_cv2 (Rn_mono mt _) 52 rfl (Nat.le_of_ble_eq_true rfl) ?_)))))
          | (show Rch _ _ _ _ _ 52 _ _ _; refine Rch.blk' (Rn_mono mt _) bl_X3_games_52 (i_iload rfl (i_iload_n rfl (t_if_ne 68 58 rfl rfl (by first | with_reducible exact hI_R | with_reducible exact lcm_R | with_reducible exact band_R | with_reducible exact bor_R | with_reducible exact bshr_R | with_reducible exact bshl_R | omega) (fun hc => ?_) (fun hc => ?_)))) <;> (first | (exfalso; omega) | skip))
          | (show Rch _ _ _ _ _ 58 _ _ _; refine Rch.blk' (Rn_mono mt _) bl_X3_games_58 (i_aload_n rfl (i_gfs rfl (t_cv1 (Rn_mono mt _) 65 rfl (Nat.le_of_ble_eq_true rfl) ?_))))
          | (show Rch _ _ _ _ _ 65 _ _ _; refine Rch.blk' (Rn_mono mt _) bl_X3_games_65 (t_goto 83 rfl ?_))
          | (show Rch _ _ _ _ _ 68 _ _ _; refine Rch.blk' (Rn_mono mt _) bl_X3_games_68 (i_aload_n rfl (i_gfs rfl (i_gfi rfl (i_aload_n rfl (i_gfs rfl (i_gfi rfl (i_isub (t_none ?_)))))))))
          | (show Rch _ _ _ _ _ 83 _ _ _; refine Rch.blk' (Rn_mono mt _) bl_X3_games_83 (i_iadd (i_istore4 trivial (i_iinc5 trivial k_1 (t_goto 33 rfl ?_)))))
          | (show Rch _ _ _ _ _ 92 _ _ _; refine Rch.blk' (Rn_mono mt _) bl_X3_games_92 (i_iload rfl (t_iret ?_))))
      · rw [if_neg c] at ih
        repeat' (first
          | exact ih
          | (show Rn _ _ 34 _ _ _; refine c_X0_howManyThere (by assumption) (by assumption) (fun _ _ => ?_))
          | (show Rch _ _ _ _ _ 0 _ _ _; refine Rch.blk' (Rn_mono mt _) bl_X3_games_0 (i_iload_n rfl (i_iconst k_1 (t_ic_lt 20 5 rfl rfl (by first | with_reducible exact hI_R | with_reducible exact lcm_R | with_reducible exact band_R | with_reducible exact bor_R | with_reducible exact bshr_R | with_reducible exact bshl_R | omega | (simp (disch := omega) only [e_o, e_p]; omega)) (by first | with_reducible exact hI_R | with_reducible exact lcm_R | with_reducible exact band_R | with_reducible exact bor_R | with_reducible exact bshr_R | with_reducible exact bshl_R | omega | (simp (disch := omega) only [e_o, e_p]; omega)) (fun hc => ?_) (fun hc => ?_)))) <;> (first | (exfalso; omega) | skip))
          | (show Rch _ _ _ _ _ 5 _ _ _; refine Rch.blk' (Rn_mono mt _) bl_X3_games_5 (i_iload_n rfl (i_bipush k_20 (t_ic_gt 20 11 rfl rfl (by first | with_reducible exact hI_R | with_reducible exact lcm_R | with_reducible exact band_R | with_reducible exact bor_R | with_reducible exact bshr_R | with_reducible exact bshl_R | omega | (simp (disch := omega) only [e_o, e_p]; omega)) (by first | with_reducible exact hI_R | with_reducible exact lcm_R | with_reducible exact band_R | with_reducible exact bor_R | with_reducible exact bshr_R | with_reducible exact bshl_R | omega | (simp (disch := omega) only [e_o, e_p]; omega)) (fun hc => ?_) (fun hc => ?_)))) <;> (first | (exfalso; omega) | skip))
          | (show Rch _ _ _ _ _ 11 _ _ _; refine Rch.blk' (Rn_mono mt _) bl_X3_games_11 (i_iload_n rfl (t_if_lt 20 15 rfl rfl (by first | with_reducible exact hI_R | with_reducible exact lcm_R | with_reducible exact band_R | with_reducible exact bor_R | with_reducible exact bshr_R | with_reducible exact bshl_R | omega | (simp (disch := omega) only [e_o, e_p]; omega)) (fun hc => ?_) (fun hc => ?_))) <;> (first | (exfalso; omega) | skip))
          | (show Rch _ _ _ _ _ 15 _ _ _; refine Rch.blk' (Rn_mono mt _) bl_X3_games_15 (i_iload_n rfl (i_iconst k_1 (t_ic_le 22 20 rfl rfl (by first | with_reducible exact hI_R | with_reducible exact lcm_R | with_reducible exact band_R | with_reducible exact bor_R | with_reducible exact bshr_R | with_reducible exact bshl_R | omega | (simp (disch := omega) only [e_o, e_p]; omega)) (by first | with_reducible exact hI_R | with_reducible exact lcm_R | with_reducible exact band_R | with_reducible exact bor_R | with_reducible exact bshr_R | with_reducible exact bshl_R | omega | (simp (disch := omega) only [e_o, e_p]; omega)) (fun hc => ?_) (fun hc => ?_)))) <;> (first | (exfalso; omega) | skip))
          | (show Rch _ _ _ _ _ 20 _ _ _; refine Rch.blk' (Rn_mono mt _) bl_X3_games_20 (i_iconst k_m1 (t_iret ?_)))
          | (show Rch _ _ _ _ _ 22 _ _ _; refine Rch.blk' (Rn_mono mt _) bl_X3_games_22 (i_aload_n rfl (i_iload_n rfl (i_pfi rfl (i_iconst k_0 (i_istore4 trivial (i_iconst k_0 (i_istore5 trivial (t_none ?_)))))))))
          | (show Rch _ _ _ _ _ 39 _ _ _; refine Rch.blk' (Rn_mono mt _) bl_X3_games_39 (i_aload_n rfl (t_cv1 (Rn_mono mt _) 43 rfl (Nat.le_of_ble_eq_true rfl) ?_)))
          | (show Rch _ _ _ _ _ 43 _ _ _; refine Rch.blk' (Rn_mono mt _) bl_X3_games_43 (i_aload_n rfl (i_gfs rfl (i_bipush k_16 (t_cv2 (Rn_mono mt _) 52 rfl (Nat.le_of_ble_eq_true rfl) ?_)))) <;> (try (simp (disch := omega) only [e_o, e_p])))
          | (show Rch _ _ _ _ _ 52 _ _ _; refine Rch.blk' (Rn_mono mt _) bl_X3_games_52 (i_iload rfl (i_iload_n rfl (t_if_ne 68 58 rfl rfl (by first | with_reducible exact hI_R | with_reducible exact lcm_R | with_reducible exact band_R | with_reducible exact bor_R | with_reducible exact bshr_R | with_reducible exact bshl_R | omega | (simp (disch := omega) only [e_o, e_p]; omega)) (fun hc => ?_) (fun hc => ?_)))) <;> (first | (exfalso; omega) | skip))
          | (show Rch _ _ _ _ _ 58 _ _ _; refine Rch.blk' (Rn_mono mt _) bl_X3_games_58 (i_aload_n rfl (i_gfs rfl (t_cv1 (Rn_mono mt _) 65 rfl (Nat.le_of_ble_eq_true rfl) ?_))) <;> (try (simp (disch := omega) only [e_o, e_p])))
          | (show Rch _ _ _ _ _ 65 _ _ _; refine Rch.blk' (Rn_mono mt _) bl_X3_games_65 (t_goto 83 rfl ?_))
          | (show Rch _ _ _ _ _ 68 _ _ _; refine Rch.blk' (Rn_mono mt _) bl_X3_games_68 (i_aload_n rfl (i_gfs rfl (i_gfi rfl (i_aload_n rfl (i_gfs rfl (i_gfi rfl (i_isub (t_none ?_)))))))) <;> (try (simp (disch := omega) only [e_o, e_p])))
          | (show Rch _ _ _ _ _ 83 _ _ _; refine Rch.blk' (Rn_mono mt _) bl_X3_games_83 (i_iadd (i_istore4 trivial (i_iinc5 trivial k_1 (t_goto 33 rfl ?_)))))
          | (show Rch _ _ _ _ _ 92 _ _ _; refine Rch.blk' (Rn_mono mt _) bl_X3_games_92 (i_iload rfl (t_iret ?_))))
    · obtain rfl : k = n := by omega
      have kk := hq _ h' (by unfold vGames; rw [if_pos ha]) hJ
      clear ih hq k1
      refine Rch.blk' (Rn_mono mt _) bl_X3_games_33 (i_iload rfl (i_iload_n rfl (t_ic_ge 92 39 rfl rfl (by first | with_reducible exact hI_R | with_reducible exact lcm_R | with_reducible exact band_R | with_reducible exact bor_R | with_reducible exact bshr_R | with_reducible exact bshl_R | omega) (by first | with_reducible exact hI_R | with_reducible exact lcm_R | with_reducible exact band_R | with_reducible exact bor_R | with_reducible exact bshr_R | with_reducible exact bshl_R | omega) (fun hc => ?_) (fun hc => ?_)))) <;> (first | (exfalso; omega) | skip)
      repeat' (first
        | exact kk
        | (show Rn _ _ 34 _ _ _; refine c_X0_howManyThere (by assumption) (by assumption) (fun _ _ => ?_))
        | (show Rch _ _ _ _ _ 0 _ _ _; refine Rch.blk' (Rn_mono mt _) bl_X3_games_0 (i_iload_n rfl (i_iconst k_1 (t_ic_lt 20 5 rfl rfl (by first | with_reducible exact hI_R | with_reducible exact lcm_R | with_reducible exact band_R | with_reducible exact bor_R | with_reducible exact bshr_R | with_reducible exact bshl_R | omega) (by first | with_reducible exact hI_R | with_reducible exact lcm_R | with_reducible exact band_R | with_reducible exact bor_R | with_reducible exact bshr_R | with_reducible exact bshl_R | omega) (fun hc => ?_) (fun hc => ?_)))) <;> (first | (exfalso; omega) | skip))
        | (show Rch _ _ _ _ _ 5 _ _ _; refine Rch.blk' (Rn_mono mt _) bl_X3_games_5 (i_iload_n rfl (i_bipush k_20 (t_ic_gt 20 11 rfl rfl (by first | with_reducible exact hI_R | with_reducible exact lcm_R | with_reducible exact band_R | with_reducible exact bor_R | with_reducible exact bshr_R | with_reducible exact bshl_R | omega) (by first | with_reducible exact hI_R | with_reducible exact lcm_R | with_reducible exact band_R | with_reducible exact bor_R | with_reducible exact bshr_R | with_reducible exact bshl_R | omega) (fun hc => ?_) (fun hc => ?_)))) <;> (first | (exfalso; omega) | skip))
        | (show Rch _ _ _ _ _ 11 _ _ _; refine Rch.blk' (Rn_mono mt _) bl_X3_games_11 (i_iload_n rfl (t_if_lt 20 15 rfl rfl (by first | with_reducible exact hI_R | with_reducible exact lcm_R | with_reducible exact band_R | with_reducible exact bor_R | with_reducible exact bshr_R | with_reducible exact bshl_R | omega) (fun hc => ?_) (fun hc => ?_))) <;> (first | (exfalso; omega) | skip))
        | (show Rch _ _ _ _ _ 15 _ _ _; refine Rch.blk' (Rn_mono mt _) bl_X3_games_15 (i_iload_n rfl (i_iconst k_1 (t_ic_le 22 20 rfl rfl (by first | with_reducible exact hI_R | with_reducible exact lcm_R | with_reducible exact band_R | with_reducible exact bor_R | with_reducible exact bshr_R | with_reducible exact bshl_R | omega) (by first | with_reducible exact hI_R | with_reducible exact lcm_R | with_reducible exact band_R | with_reducible exact bor_R | with_reducible exact bshr_R | with_reducible exact bshl_R | omega) (fun hc => ?_) (fun hc => ?_)))) <;> (first | (exfalso; omega) | skip))
        | (show Rch _ _ _ _ _ 20 _ _ _; refine Rch.blk' (Rn_mono mt _) bl_X3_games_20 (i_iconst k_m1 (t_iret ?_)))
        | (show Rch _ _ _ _ _ 22 _ _ _; refine Rch.blk' (Rn_mono mt _) bl_X3_games_22 (i_aload_n rfl (i_iload_n rfl (i_pfi rfl (i_iconst k_0 (i_istore4 trivial (i_iconst k_0 (i_istore5 trivial (t_none ?_)))))))))
        | (show Rch _ _ _ _ _ 39 _ _ _; refine Rch.blk' (Rn_mono mt _) bl_X3_games_39 (i_aload_n rfl (t_cv1 (Rn_mono mt _) 43 rfl (Nat.le_of_ble_eq_true rfl) ?_)))
        | (show Rch _ _ _ _ _ 43 _ _ _; refine Rch.blk' (Rn_mono mt _) bl_X3_games_43 (i_aload_n rfl (i_gfs rfl (i_bipush k_16 (t_cv2 (Rn_mono mt _) 52 rfl (Nat.le_of_ble_eq_true rfl) ?_)))))
        | (show Rch _ _ _ _ _ 52 _ _ _; refine Rch.blk' (Rn_mono mt _) bl_X3_games_52 (i_iload rfl (i_iload_n rfl (t_if_ne 68 58 rfl rfl (by first | with_reducible exact hI_R | with_reducible exact lcm_R | with_reducible exact band_R | with_reducible exact bor_R | with_reducible exact bshr_R | with_reducible exact bshl_R | omega) (fun hc => ?_) (fun hc => ?_)))) <;> (first | (exfalso; omega) | skip))
        | (show Rch _ _ _ _ _ 58 _ _ _; refine Rch.blk' (Rn_mono mt _) bl_X3_games_58 (i_aload_n rfl (i_gfs rfl (t_cv1 (Rn_mono mt _) 65 rfl (Nat.le_of_ble_eq_true rfl) ?_))))
        | (show Rch _ _ _ _ _ 65 _ _ _; refine Rch.blk' (Rn_mono mt _) bl_X3_games_65 (t_goto 83 rfl ?_))
        | (show Rch _ _ _ _ _ 68 _ _ _; refine Rch.blk' (Rn_mono mt _) bl_X3_games_68 (i_aload_n rfl (i_gfs rfl (i_gfi rfl (i_aload_n rfl (i_gfs rfl (i_gfi rfl (i_isub (t_none ?_)))))))))
        | (show Rch _ _ _ _ _ 83 _ _ _; refine Rch.blk' (Rn_mono mt _) bl_X3_games_83 (i_iadd (i_istore4 trivial (i_iinc5 trivial k_1 (t_goto 33 rfl ?_)))))
        | (show Rch _ _ _ _ _ 92 _ _ _; refine Rch.blk' (Rn_mono mt _) bl_X3_games_92 (i_iload rfl (t_iret ?_))))
  have ky := fun a => key a 0 (by omega) (by omega) (mset h 2 0 9 (I z)) (hI_eq hz) (JX.rf.ms (by omega))
  have ky2 : ((1 ≤ n ∧ n ≤ 20) ∧ 0 ≤ w ∧ w ≤ 1) → RH bX3_games (d + 19) Q 33 [some (ar 2 0), some (ai (I n)), some (ai (I z)), some (ai (I w)), some (ai (I 0)), some (ai (I 0))] (mset h 2 0 9 (I z)) := ky
  clear key hq ky
  repeat' (first
    | exact ky2 (by omega)
    | ((with_reducible refine k1 _ ?_ ?_) <;> omega)
    | (show Rn _ _ 34 _ _ _; refine c_X0_howManyThere (by assumption) (by assumption) (fun _ _ => ?_))
    | (show Rch _ _ _ _ _ 0 _ _ _; refine Rch.blk' (Rn_mono mt _) bl_X3_games_0 (i_iload_n rfl (i_iconst k_1 (t_ic_lt 20 5 rfl rfl (by first | with_reducible exact hI_R | with_reducible exact lcm_R | with_reducible exact band_R | with_reducible exact bor_R | with_reducible exact bshr_R | with_reducible exact bshl_R | omega) (by first | with_reducible exact hI_R | with_reducible exact lcm_R | with_reducible exact band_R | with_reducible exact bor_R | with_reducible exact bshr_R | with_reducible exact bshl_R | omega) (fun hc => ?_) (fun hc => ?_)))) <;> (first | (exfalso; omega) | skip))
    | (show Rch _ _ _ _ _ 5 _ _ _; refine Rch.blk' (Rn_mono mt _) bl_X3_games_5 (i_iload_n rfl (i_bipush k_20 (t_ic_gt 20 11 rfl rfl (by first | with_reducible exact hI_R | with_reducible exact lcm_R | with_reducible exact band_R | with_reducible exact bor_R | with_reducible exact bshr_R | with_reducible exact bshl_R | omega) (by first | with_reducible exact hI_R | with_reducible exact lcm_R | with_reducible exact band_R | with_reducible exact bor_R | with_reducible exact bshr_R | with_reducible exact bshl_R | omega) (fun hc => ?_) (fun hc => ?_)))) <;> (first | (exfalso; omega) | skip))
    | (show Rch _ _ _ _ _ 11 _ _ _; refine Rch.blk' (Rn_mono mt _) bl_X3_games_11 (i_iload_n rfl (t_if_lt 20 15 rfl rfl (by first | with_reducible exact hI_R | with_reducible exact lcm_R | with_reducible exact band_R | with_reducible exact bor_R | with_reducible exact bshr_R | with_reducible exact bshl_R | omega) (fun hc => ?_) (fun hc => ?_))) <;> (first | (exfalso; omega) | skip))
    | (show Rch _ _ _ _ _ 15 _ _ _; refine Rch.blk' (Rn_mono mt _) bl_X3_games_15 (i_iload_n rfl (i_iconst k_1 (t_ic_le 22 20 rfl rfl (by first | with_reducible exact hI_R | with_reducible exact lcm_R | with_reducible exact band_R | with_reducible exact bor_R | with_reducible exact bshr_R | with_reducible exact bshl_R | omega) (by first | with_reducible exact hI_R | with_reducible exact lcm_R | with_reducible exact band_R | with_reducible exact bor_R | with_reducible exact bshr_R | with_reducible exact bshl_R | omega) (fun hc => ?_) (fun hc => ?_)))) <;> (first | (exfalso; omega) | skip))
    | (show Rch _ _ _ _ _ 20 _ _ _; refine Rch.blk' (Rn_mono mt _) bl_X3_games_20 (i_iconst k_m1 (t_iret ?_)))
    | (show Rch _ _ _ _ _ 22 _ _ _; refine Rch.blk' (Rn_mono mt _) bl_X3_games_22 (i_aload_n rfl (i_iload_n rfl (i_pfi rfl (i_iconst k_0 (i_istore4 trivial (i_iconst k_0 (i_istore5 trivial (t_none ?_)))))))))
    | (show Rch _ _ _ _ _ 39 _ _ _; refine Rch.blk' (Rn_mono mt _) bl_X3_games_39 (i_aload_n rfl (t_cv1 (Rn_mono mt _) 43 rfl (Nat.le_of_ble_eq_true rfl) ?_)))
    | (show Rch _ _ _ _ _ 43 _ _ _; refine Rch.blk' (Rn_mono mt _) bl_X3_games_43 (i_aload_n rfl (i_gfs rfl (i_bipush k_16 (t_cv2 (Rn_mono mt _) 52 rfl (Nat.le_of_ble_eq_true rfl) ?_)))))
    | (show Rch _ _ _ _ _ 52 _ _ _; refine Rch.blk' (Rn_mono mt _) bl_X3_games_52 (i_iload rfl (i_iload_n rfl (t_if_ne 68 58 rfl rfl (by first | with_reducible exact hI_R | with_reducible exact lcm_R | with_reducible exact band_R | with_reducible exact bor_R | with_reducible exact bshr_R | with_reducible exact bshl_R | omega) (fun hc => ?_) (fun hc => ?_)))) <;> (first | (exfalso; omega) | skip))
    | (show Rch _ _ _ _ _ 58 _ _ _; refine Rch.blk' (Rn_mono mt _) bl_X3_games_58 (i_aload_n rfl (i_gfs rfl (t_cv1 (Rn_mono mt _) 65 rfl (Nat.le_of_ble_eq_true rfl) ?_))))
    | (show Rch _ _ _ _ _ 65 _ _ _; refine Rch.blk' (Rn_mono mt _) bl_X3_games_65 (t_goto 83 rfl ?_))
    | (show Rch _ _ _ _ _ 68 _ _ _; refine Rch.blk' (Rn_mono mt _) bl_X3_games_68 (i_aload_n rfl (i_gfs rfl (i_gfi rfl (i_aload_n rfl (i_gfs rfl (i_gfi rfl (i_isub (t_none ?_)))))))))
    | (show Rch _ _ _ _ _ 83 _ _ _; refine Rch.blk' (Rn_mono mt _) bl_X3_games_83 (i_iadd (i_istore4 trivial (i_iinc5 trivial k_1 (t_goto 33 rfl ?_)))))
    | (show Rch _ _ _ _ _ 92 _ _ _; refine Rch.blk' (Rn_mono mt _) bl_X3_games_92 (i_iload rfl (t_iret ?_))))
end C37
/-! GAMES: the reference -/
theorem RR.eqs {h h' : Mem} {w : Nat} {G : Bd} {M : Int → Prop} {ra : Int} (H : RR h w G M ra) (e : ∀ k, hI h' 12 w k = hI h 12 w k) : RR h' w G M ra := by
  unfold RR
  simp only [e]
  exact H
theorem JY.ms {h h' : Mem} {t b k : Nat} {x : Int32} (a : JY h h') (ht : t = 13 ∨ (t = 3 ∧ ¬ k = 4)) : JY h (mset h' t b k x) := by
  intro t' b' k' hn
  rw [← a t' b' k' hn]
  by_cases e : t' = t
  · exact hI_nk (fun z => hn (by omega))
  · exact hI_nt e
section C38
variable {d : Nat} {h : Mem} {Q : Option AV → Mem → Prop} {G : Bd}
theorem c_X4_drawn {z : Int} (hz : hI h 3 0 9 = z) (hq : Q (some (ai (I (dr z)))) (mset h 3 0 9 (I (nxt z)))) : Rn mt (d + 1) 193 [ar 3 0, ai (I 36)] h Q := by
  refine Rn.intro iX4_drawn rfl rfl ?_
  show Rch bX4_drawn _ _ _ _ 0 [some (ar 3 0), some (ai (I 36))] [] _
  have g_b := band_pos (nxt z)
  have e_y : hI (mset h 3 0 9 (I (nxt z))) 3 0 9 = nxt z := hI_eq (nxt_R z)
  have e_n := nxt_e z
  unfold dr at hq
  repeat' (first
    | exact hq
    | (show Rch _ _ _ _ _ 0 _ _ _; refine Rch.blk' (Rn_mono mt _) bl_X4_drawn_0 (i_aload_n rfl (i_aload_n rfl (i_gfi rfl (i_ldc_w k_1103515245 (i_imul (i_sipush k_12345 (i_iadd (i_pfi rfl (i_aload_n rfl (i_gfi rfl (i_ldc_w k_2147483647 (i_iand (i_ldc_w k_65536 (i_idiv (by first | omega | (simp (disch := omega) only [hz, e_n, e_y]; omega)) (by first | omega | (simp (disch := omega) only [hz, e_n, e_y]; omega)) (by first | omega | (simp (disch := omega) only [hz, e_n, e_y]; omega)) (by first | omega | (simp (disch := omega) only [hz, e_n, e_y]; omega)) (i_iload_n rfl (i_irem (by first | omega | (simp (disch := omega) only [hz, e_n, e_y]; omega)) (by first | omega | (simp (disch := omega) only [hz, e_n, e_y]; omega)) (by first | omega | (simp (disch := omega) only [hz, e_n, e_y]; omega)) (by first | omega | (simp (disch := omega) only [hz, e_n, e_y]; omega)) (t_iret ?_))))))))))))))))) <;> (try (simp (disch := omega) only [hz, e_n, e_y]))))
theorem c_X4_setsUp (hG : RR h 0 G no0 0) (hG1 : RR h 1 G no0 0) (hO : OKB G) {z : Int} (hz : hI h 3 0 9 = z) (hq : ∀ h', RR h' 1 (sV G z (nn G)) no0 0 → hI h' 3 0 9 = sZ G z (nn G) → JY h h' → Q none h') : Rn mt (d + 6) 194 [ar 3 0] h Q := by
  refine Rn.intro iX4_setsUp rfl rfl ?_
  show Rch bX4_setsUp _ _ _ _ 0 [some (ar 3 0), none, none] [] _
  have g_n := hO.n
  have key : ∀ k : Int, k ≤ nn G → 0 ≤ k → ∀ (h' : Mem) (u : Option AV), RR h' 1 (sV G z k) no0 0 → hI h' 3 0 9 = sZ G z k → JY h h' → RH bX4_setsUp (d + 5) Q 32 [some (ar 3 0), some (ai (I k)), u] h' := by
    refine up_ind (fun k hk ih k0 h' u hR hZ hJ => ?_)
    obtain ⟨hOk, hnk, -, -, hTk⟩ := sV_f (z := z) hO k k0 hk
    have e_n := (hG.jy hJ (by omega)).n
    by_cases hk1 : k < nn G
    · have ih := ih hk1 (by omega)
      rw [sV_up k0, sZ_up k0] at ih
      have r := dr_R (sZ G z k)
      have hE := fE_36 hOk r.1 r.2
      refine Rch.blk' (Rn_mono mt _) bl_X4_setsUp_32 (i_iload_n rfl (i_aload_n rfl (i_gfs rfl (i_iconst k_0 (i_iald (n := 46) rfl (by first | omega | (simp (disch := omega) only [e_n]; omega)) (by first | omega | (simp (disch := omega) only [e_n]; omega)) (by first | omega | (simp (disch := omega) only [e_n]; omega)) (t_ic_ge 87 42 rfl rfl (by first | with_reducible exact hI_R | with_reducible exact lcm_R | with_reducible exact band_R | with_reducible exact bor_R | with_reducible exact bshr_R | with_reducible exact bshl_R | omega | (simp (disch := omega) only [e_n]; omega)) (by first | with_reducible exact hI_R | with_reducible exact lcm_R | with_reducible exact band_R | with_reducible exact bor_R | with_reducible exact bshr_R | with_reducible exact bshl_R | omega | (simp (disch := omega) only [e_n]; omega)) (fun hc => ?_) (fun hc => ?_))))))) <;> (try (simp (disch := omega) only [e_n] at hc ⊢)) <;> (first | (exfalso; omega) | skip)
      refine Rch.blk' (Rn_mono mt _) bl_X4_setsUp_42 (i_aload_n rfl (i_bipush k_36 (t_cv2 (Rn_mono mt _) 48 rfl (Nat.le_of_ble_eq_true rfl) ?_)))
      refine c_X4_drawn hZ ?_
      have hR2 : RR (mset h' 3 0 9 (I (nxt (sZ G z k)))) 1 (sV G z k) no0 0 := hR.eqs (fun j => hI_nt (by omega))
      have hZ2 : hI (mset h' 3 0 9 (I (nxt (sZ G z k)))) 3 0 9 = nxt (sZ G z k) := hI_eq (nxt_R _)
      have hJ2 : JY h (mset h' 3 0 9 (I (nxt (sZ G z k)))) := hJ.ms (by omega)
      generalize mset h' 3 0 9 (I (nxt (sZ G z k))) = h2 at *
      have inner : ∀ m : Nat, ∀ s : Int, 0 ≤ s → s < 36 → fE (sV G z k) m s → fs (sV G z k) m s = fs (sV G z k) 36 (dr (sZ G z k)) → RH bX4_setsUp (d + 5) Q 49 [some (ar 3 0), some (ai (I k)), some (ai (I s))] h2 := by
        intro m
        induction m with
        | zero => exact fun s _ _ hE _ => hE.elim
        | succ m jh =>
          intro s s0 s1 hE hS
          have hE : ons (sV G z k) s = -4 ∨ fE (sV G z k) m ((s + 1) % 36) := hE
          have hS : ifp (ons (sV G z k) s = -4) s (fs (sV G z k) m ((s + 1) % 36)) = fs (sV G z k) 36 (dr (sZ G z k)) := hS
          refine Rch.blk' (Rn_mono mt _) bl_X4_setsUp_49 (i_aload_n rfl (i_gfs rfl (i_iload_n rfl (t_cs2 (Rn_mono mt _) 57 rfl (Nat.le_of_ble_eq_true rfl) ?_))))
          refine c_X4_onSquare hR2 hOk s0 s1 (fun o0 _ _ => ?_) (fun o0 => ?_)
          · have hf2 : ¬ ons (sV G z k) s = -4 := by omega
            rw [ifp_n hf2] at hS
            have g_o := ons_R (sV G z k) hOk s
            have kk := jh ((s + 1) % 36) (by omega) (by omega) (hE.elim (fun z => absurd z hf2) id) hS
            clear ih jh
            repeat' (first
              | exact kk
              | (show Rn _ _ 109 _ _ _; refine c_X4_of ?_)
              | (show Rn _ _ 117 _ _ _; refine c_X4_onSquare (by assumption) (by assumption) (by omega) (by omega) (fun _ _ _ => ?_) (fun _ => ?_))
              | (show Rch _ _ _ _ _ 0 _ _ _; refine Rch.blk' (Rn_mono mt _) bl_X4_setsUp_0 (i_iconst k_0 (i_istore1 trivial (t_none ?_))))
              | (show Rch _ _ _ _ _ 2 _ _ _; refine Rch.blk' (Rn_mono mt _) bl_X4_setsUp_2 (i_iload_n rfl (i_aload_n rfl (i_gfs rfl (i_iconst k_0 (i_iald (n := 46) rfl (by omega) (by omega) (by omega) (t_ic_ge 30 12 rfl rfl (by first | with_reducible exact hI_R | with_reducible exact lcm_R | with_reducible exact band_R | with_reducible exact bor_R | with_reducible exact bshr_R | with_reducible exact bshl_R | omega) (by first | with_reducible exact hI_R | with_reducible exact lcm_R | with_reducible exact band_R | with_reducible exact bor_R | with_reducible exact bshr_R | with_reducible exact bshl_R | omega) (fun hc => ?_) (fun hc => ?_))))))) <;> (first | (exfalso; omega) | skip))
              | (show Rch _ _ _ _ _ 12 _ _ _; refine Rch.blk' (Rn_mono mt _) bl_X4_setsUp_12 (i_aload_n rfl (i_gfs rfl (i_iload_n rfl (i_iconst k_3 (t_cs2 (Rn_mono mt _) 21 rfl (Nat.le_of_ble_eq_true rfl) ?_))))))
              | (show Rch _ _ _ _ _ 21 _ _ _; refine Rch.blk' (Rn_mono mt _) bl_X4_setsUp_21 (i_bipush k_m4 (i_iast rfl rfl (by omega) (by simp only [aln]; omega) (by simp only [aln]; omega) (i_iinc1 trivial k_1 (t_goto 2 rfl ?_)))))
              | (show Rch _ _ _ _ _ 30 _ _ _; refine Rch.blk' (Rn_mono mt _) bl_X4_setsUp_30 (i_iconst k_0 (i_istore1 trivial (t_none ?_))))
              | (show Rch _ _ _ _ _ 42 _ _ _; refine Rch.blk' (Rn_mono mt _) bl_X4_setsUp_42 (i_aload_n rfl (i_bipush k_36 (t_cv2 (Rn_mono mt _) 48 rfl (Nat.le_of_ble_eq_true rfl) ?_))))
              | (show Rch _ _ _ _ _ 48 _ _ _; refine Rch.blk' (Rn_mono mt _) bl_X4_setsUp_48 (i_istore2 trivial (t_none ?_)))
              | (show Rch _ _ _ _ _ 57 _ _ _; refine Rch.blk' (Rn_mono mt _) bl_X4_setsUp_57 (t_if_lt 70 60 rfl rfl (by first | with_reducible exact hI_R | with_reducible exact lcm_R | with_reducible exact band_R | with_reducible exact bor_R | with_reducible exact bshr_R | with_reducible exact bshl_R | omega) (fun hc => ?_) (fun hc => ?_)) <;> (first | (exfalso; omega) | skip))
              | (show Rch _ _ _ _ _ 60 _ _ _; refine Rch.blk' (Rn_mono mt _) bl_X4_setsUp_60 (i_iload_n rfl (i_iconst k_1 (i_iadd (i_bipush k_36 (i_irem (by omega) (by omega) (by omega) (by omega) (i_istore2 trivial (t_goto 49 rfl ?_))))))))
              | (show Rch _ _ _ _ _ 70 _ _ _; refine Rch.blk' (Rn_mono mt _) bl_X4_setsUp_70 (i_aload_n rfl (i_gfs rfl (i_iload_n rfl (i_iconst k_3 (t_cs2 (Rn_mono mt _) 79 rfl (Nat.le_of_ble_eq_true rfl) ?_))))))
              | (show Rch _ _ _ _ _ 79 _ _ _; refine Rch.blk' (Rn_mono mt _) bl_X4_setsUp_79 (i_iload_n rfl (i_iast rfl rfl (by omega) (by simp only [aln]; omega) (by simp only [aln]; omega) (i_iinc1 trivial k_1 (t_goto 32 rfl ?_)))))
              | (show Rch _ _ _ _ _ 87 _ _ _; refine Rch.blk' (Rn_mono mt _) bl_X4_setsUp_87 (t_vret ?_)))
          · rw [ifp_p o0] at hS
            have hR3 := hR2.set_q (z := k) (s := s) (v := s) (j := (6 + 4 * k + 3).toNat) k0 s0 (by omega) (m4_p s1).symm rfl
            have hJ3 : JY h (mset h2 12 1 (6 + 4 * k + 3).toNat (I s)) := hJ2.tr ((FrR.rf.ms).jy (Or.inl rfl))
            rw [hS] at hR3
            have kk := ih _ (some (ai (I s))) hR3 ((hI_nt (by omega)).trans hZ2) (by rw [← hS]; exact hJ3)
            rw [← hS] at kk
            clear ih jh
            repeat' (first
              | exact kk
              | (show Rn _ _ 109 _ _ _; refine c_X4_of ?_)
              | (show Rn _ _ 117 _ _ _; refine c_X4_onSquare (by assumption) (by assumption) (by omega) (by omega) (fun _ _ _ => ?_) (fun _ => ?_))
              | (show Rch _ _ _ _ _ 0 _ _ _; refine Rch.blk' (Rn_mono mt _) bl_X4_setsUp_0 (i_iconst k_0 (i_istore1 trivial (t_none ?_))))
              | (show Rch _ _ _ _ _ 2 _ _ _; refine Rch.blk' (Rn_mono mt _) bl_X4_setsUp_2 (i_iload_n rfl (i_aload_n rfl (i_gfs rfl (i_iconst k_0 (i_iald (n := 46) rfl (by omega) (by omega) (by omega) (t_ic_ge 30 12 rfl rfl (by first | with_reducible exact hI_R | with_reducible exact lcm_R | with_reducible exact band_R | with_reducible exact bor_R | with_reducible exact bshr_R | with_reducible exact bshl_R | omega) (by first | with_reducible exact hI_R | with_reducible exact lcm_R | with_reducible exact band_R | with_reducible exact bor_R | with_reducible exact bshr_R | with_reducible exact bshl_R | omega) (fun hc => ?_) (fun hc => ?_))))))) <;> (first | (exfalso; omega) | skip))
              | (show Rch _ _ _ _ _ 12 _ _ _; refine Rch.blk' (Rn_mono mt _) bl_X4_setsUp_12 (i_aload_n rfl (i_gfs rfl (i_iload_n rfl (i_iconst k_3 (t_cs2 (Rn_mono mt _) 21 rfl (Nat.le_of_ble_eq_true rfl) ?_))))))
              | (show Rch _ _ _ _ _ 21 _ _ _; refine Rch.blk' (Rn_mono mt _) bl_X4_setsUp_21 (i_bipush k_m4 (i_iast rfl rfl (by omega) (by simp only [aln]; omega) (by simp only [aln]; omega) (i_iinc1 trivial k_1 (t_goto 2 rfl ?_)))))
              | (show Rch _ _ _ _ _ 30 _ _ _; refine Rch.blk' (Rn_mono mt _) bl_X4_setsUp_30 (i_iconst k_0 (i_istore1 trivial (t_none ?_))))
              | (show Rch _ _ _ _ _ 42 _ _ _; refine Rch.blk' (Rn_mono mt _) bl_X4_setsUp_42 (i_aload_n rfl (i_bipush k_36 (t_cv2 (Rn_mono mt _) 48 rfl (Nat.le_of_ble_eq_true rfl) ?_))))
              | (show Rch _ _ _ _ _ 48 _ _ _; refine Rch.blk' (Rn_mono mt _) bl_X4_setsUp_48 (i_istore2 trivial (t_none ?_)))
              | (show Rch _ _ _ _ _ 57 _ _ _; refine Rch.blk' (Rn_mono mt _) bl_X4_setsUp_57 (t_if_lt 70 60 rfl rfl (by first | with_reducible exact hI_R | with_reducible exact lcm_R | with_reducible exact band_R | with_reducible exact bor_R | with_reducible exact bshr_R | with_reducible exact bshl_R | omega) (fun hc => ?_) (fun hc => ?_)) <;> (first | (exfalso; omega) | skip))
              | (show Rch _ _ _ _ _ 60 _ _ _; refine Rch.blk' (Rn_mono mt _) bl_X4_setsUp_60 (i_iload_n rfl (i_iconst k_1 (i_iadd (i_bipush k_36 (i_irem (by omega) (by omega) (by omega) (by omega) (i_istore2 trivial (t_goto 49 rfl ?_))))))))
              | (show Rch _ _ _ _ _ 70 _ _ _; refine Rch.blk' (Rn_mono mt _) bl_X4_setsUp_70 (i_aload_n rfl (i_gfs rfl (i_iload_n rfl (i_iconst k_3 (t_cs2 (Rn_mono mt _) 79 rfl (Nat.le_of_ble_eq_true rfl) ?_))))))
              | (show Rch _ _ _ _ _ 79 _ _ _; refine Rch.blk' (Rn_mono mt _) bl_X4_setsUp_79 (i_iload_n rfl (i_iast rfl rfl (by omega) (by simp only [aln]; omega) (by simp only [aln]; omega) (i_iinc1 trivial k_1 (t_goto 32 rfl ?_)))))
              | (show Rch _ _ _ _ _ 87 _ _ _; refine Rch.blk' (Rn_mono mt _) bl_X4_setsUp_87 (t_vret ?_)))
      have kk := inner 36 (dr (sZ G z k)) r.1 r.2 hE rfl
      clear inner ih
      repeat' (first
        | exact kk
        | (show Rn _ _ 109 _ _ _; refine c_X4_of ?_)
        | (show Rn _ _ 117 _ _ _; refine c_X4_onSquare (by assumption) (by assumption) (by omega) (by omega) (fun _ _ _ => ?_) (fun _ => ?_))
        | (show Rch _ _ _ _ _ 0 _ _ _; refine Rch.blk' (Rn_mono mt _) bl_X4_setsUp_0 (i_iconst k_0 (i_istore1 trivial (t_none ?_))))
        | (show Rch _ _ _ _ _ 2 _ _ _; refine Rch.blk' (Rn_mono mt _) bl_X4_setsUp_2 (i_iload_n rfl (i_aload_n rfl (i_gfs rfl (i_iconst k_0 (i_iald (n := 46) rfl (by omega) (by omega) (by omega) (t_ic_ge 30 12 rfl rfl (by first | with_reducible exact hI_R | with_reducible exact lcm_R | with_reducible exact band_R | with_reducible exact bor_R | with_reducible exact bshr_R | with_reducible exact bshl_R | omega) (by first | with_reducible exact hI_R | with_reducible exact lcm_R | with_reducible exact band_R | with_reducible exact bor_R | with_reducible exact bshr_R | with_reducible exact bshl_R | omega) (fun hc => ?_) (fun hc => ?_))))))) <;> (first | (exfalso; omega) | skip))
        | (show Rch _ _ _ _ _ 12 _ _ _; refine Rch.blk' (Rn_mono mt _) bl_X4_setsUp_12 (i_aload_n rfl (i_gfs rfl (i_iload_n rfl (i_iconst k_3 (t_cs2 (Rn_mono mt _) 21 rfl (Nat.le_of_ble_eq_true rfl) ?_))))))
        | (show Rch _ _ _ _ _ 21 _ _ _; refine Rch.blk' (Rn_mono mt _) bl_X4_setsUp_21 (i_bipush k_m4 (i_iast rfl rfl (by omega) (by simp only [aln]; omega) (by simp only [aln]; omega) (i_iinc1 trivial k_1 (t_goto 2 rfl ?_)))))
        | (show Rch _ _ _ _ _ 30 _ _ _; refine Rch.blk' (Rn_mono mt _) bl_X4_setsUp_30 (i_iconst k_0 (i_istore1 trivial (t_none ?_))))
        | (show Rch _ _ _ _ _ 42 _ _ _; refine Rch.blk' (Rn_mono mt _) bl_X4_setsUp_42 (i_aload_n rfl (i_bipush k_36 (t_cv2 (Rn_mono mt _) 48 rfl (Nat.le_of_ble_eq_true rfl) ?_))))
        | (show Rch _ _ _ _ _ 48 _ _ _; refine Rch.blk' (Rn_mono mt _) bl_X4_setsUp_48 (i_istore2 trivial (t_none ?_)))
        | (show Rch _ _ _ _ _ 57 _ _ _; refine Rch.blk' (Rn_mono mt _) bl_X4_setsUp_57 (t_if_lt 70 60 rfl rfl (by first | with_reducible exact hI_R | with_reducible exact lcm_R | with_reducible exact band_R | with_reducible exact bor_R | with_reducible exact bshr_R | with_reducible exact bshl_R | omega) (fun hc => ?_) (fun hc => ?_)) <;> (first | (exfalso; omega) | skip))
        | (show Rch _ _ _ _ _ 60 _ _ _; refine Rch.blk' (Rn_mono mt _) bl_X4_setsUp_60 (i_iload_n rfl (i_iconst k_1 (i_iadd (i_bipush k_36 (i_irem (by omega) (by omega) (by omega) (by omega) (i_istore2 trivial (t_goto 49 rfl ?_))))))))
        | (show Rch _ _ _ _ _ 70 _ _ _; refine Rch.blk' (Rn_mono mt _) bl_X4_setsUp_70 (i_aload_n rfl (i_gfs rfl (i_iload_n rfl (i_iconst k_3 (t_cs2 (Rn_mono mt _) 79 rfl (Nat.le_of_ble_eq_true rfl) ?_))))))
        | (show Rch _ _ _ _ _ 79 _ _ _; refine Rch.blk' (Rn_mono mt _) bl_X4_setsUp_79 (i_iload_n rfl (i_iast rfl rfl (by omega) (by simp only [aln]; omega) (by simp only [aln]; omega) (i_iinc1 trivial k_1 (t_goto 32 rfl ?_)))))
        | (show Rch _ _ _ _ _ 87 _ _ _; refine Rch.blk' (Rn_mono mt _) bl_X4_setsUp_87 (t_vret ?_)))
    · obtain rfl : k = nn G := by omega
      have kk := hq h' hR hZ hJ
      clear ih hq
      refine Rch.blk' (Rn_mono mt _) bl_X4_setsUp_32 (i_iload_n rfl (i_aload_n rfl (i_gfs rfl (i_iconst k_0 (i_iald (n := 46) rfl (by first | omega | (simp (disch := omega) only [e_n]; omega)) (by first | omega | (simp (disch := omega) only [e_n]; omega)) (by first | omega | (simp (disch := omega) only [e_n]; omega)) (t_ic_ge 87 42 rfl rfl (by first | with_reducible exact hI_R | with_reducible exact lcm_R | with_reducible exact band_R | with_reducible exact bor_R | with_reducible exact bshr_R | with_reducible exact bshl_R | omega | (simp (disch := omega) only [e_n]; omega)) (by first | with_reducible exact hI_R | with_reducible exact lcm_R | with_reducible exact band_R | with_reducible exact bor_R | with_reducible exact bshr_R | with_reducible exact bshl_R | omega | (simp (disch := omega) only [e_n]; omega)) (fun hc => ?_) (fun hc => ?_))))))) <;> (try (simp (disch := omega) only [e_n] at hc ⊢)) <;> (first | (exfalso; omega) | skip)
      repeat' (first
        | exact kk
        | (show Rn _ _ 109 _ _ _; refine c_X4_of ?_)
        | (show Rn _ _ 117 _ _ _; refine c_X4_onSquare (by assumption) (by assumption) (by omega) (by omega) (fun _ _ _ => ?_) (fun _ => ?_))
        | (show Rch _ _ _ _ _ 0 _ _ _; refine Rch.blk' (Rn_mono mt _) bl_X4_setsUp_0 (i_iconst k_0 (i_istore1 trivial (t_none ?_))))
        | (show Rch _ _ _ _ _ 2 _ _ _; refine Rch.blk' (Rn_mono mt _) bl_X4_setsUp_2 (i_iload_n rfl (i_aload_n rfl (i_gfs rfl (i_iconst k_0 (i_iald (n := 46) rfl (by omega) (by omega) (by omega) (t_ic_ge 30 12 rfl rfl (by first | with_reducible exact hI_R | with_reducible exact lcm_R | with_reducible exact band_R | with_reducible exact bor_R | with_reducible exact bshr_R | with_reducible exact bshl_R | omega) (by first | with_reducible exact hI_R | with_reducible exact lcm_R | with_reducible exact band_R | with_reducible exact bor_R | with_reducible exact bshr_R | with_reducible exact bshl_R | omega) (fun hc => ?_) (fun hc => ?_))))))) <;> (first | (exfalso; omega) | skip))
        | (show Rch _ _ _ _ _ 12 _ _ _; refine Rch.blk' (Rn_mono mt _) bl_X4_setsUp_12 (i_aload_n rfl (i_gfs rfl (i_iload_n rfl (i_iconst k_3 (t_cs2 (Rn_mono mt _) 21 rfl (Nat.le_of_ble_eq_true rfl) ?_))))))
        | (show Rch _ _ _ _ _ 21 _ _ _; refine Rch.blk' (Rn_mono mt _) bl_X4_setsUp_21 (i_bipush k_m4 (i_iast rfl rfl (by omega) (by simp only [aln]; omega) (by simp only [aln]; omega) (i_iinc1 trivial k_1 (t_goto 2 rfl ?_)))))
        | (show Rch _ _ _ _ _ 30 _ _ _; refine Rch.blk' (Rn_mono mt _) bl_X4_setsUp_30 (i_iconst k_0 (i_istore1 trivial (t_none ?_))))
        | (show Rch _ _ _ _ _ 42 _ _ _; refine Rch.blk' (Rn_mono mt _) bl_X4_setsUp_42 (i_aload_n rfl (i_bipush k_36 (t_cv2 (Rn_mono mt _) 48 rfl (Nat.le_of_ble_eq_true rfl) ?_))))
        | (show Rch _ _ _ _ _ 48 _ _ _; refine Rch.blk' (Rn_mono mt _) bl_X4_setsUp_48 (i_istore2 trivial (t_none ?_)))
        | (show Rch _ _ _ _ _ 49 _ _ _; refine Rch.blk' (Rn_mono mt _) bl_X4_setsUp_49 (i_aload_n rfl (i_gfs rfl (i_iload_n rfl (t_cs2 (Rn_mono mt _) 57 rfl (Nat.le_of_ble_eq_true rfl) ?_)))))
        | (show Rch _ _ _ _ _ 57 _ _ _; refine Rch.blk' (Rn_mono mt _) bl_X4_setsUp_57 (t_if_lt 70 60 rfl rfl (by first | with_reducible exact hI_R | with_reducible exact lcm_R | with_reducible exact band_R | with_reducible exact bor_R | with_reducible exact bshr_R | with_reducible exact bshl_R | omega) (fun hc => ?_) (fun hc => ?_)) <;> (first | (exfalso; omega) | skip))
        | (show Rch _ _ _ _ _ 60 _ _ _; refine Rch.blk' (Rn_mono mt _) bl_X4_setsUp_60 (i_iload_n rfl (i_iconst k_1 (i_iadd (i_bipush k_36 (i_irem (by omega) (by omega) (by omega) (by omega) (i_istore2 trivial (t_goto 49 rfl ?_))))))))
        | (show Rch _ _ _ _ _ 70 _ _ _; refine Rch.blk' (Rn_mono mt _) bl_X4_setsUp_70 (i_aload_n rfl (i_gfs rfl (i_iload_n rfl (i_iconst k_3 (t_cs2 (Rn_mono mt _) 79 rfl (Nat.le_of_ble_eq_true rfl) ?_))))))
        | (show Rch _ _ _ _ _ 79 _ _ _; refine Rch.blk' (Rn_mono mt _) bl_X4_setsUp_79 (i_iload_n rfl (i_iast rfl rfl (by omega) (by simp only [aln]; omega) (by simp only [aln]; omega) (i_iinc1 trivial k_1 (t_goto 32 rfl ?_)))))
        | (show Rch _ _ _ _ _ 87 _ _ _; refine Rch.blk' (Rn_mono mt _) bl_X4_setsUp_87 (t_vret ?_)))
  have key1 : ∀ k : Int, k ≤ nn G → 0 ≤ k → ∀ (h' : Mem), RR h' 1 (AOf G k) no0 0 → FrR h h' 1 → RH bX4_setsUp (d + 5) Q 2 [some (ar 3 0), some (ai (I k)), none] h' := by
    refine up_ind (fun k hk ih k0 h' hR hF => ?_)
    have e_n := (hG.fr hF (by decide)).n
    by_cases hk1 : k < nn G
    · have ih := ih hk1 (by omega)
      rw [AOf_up k0] at ih
      have kk := ih _ (hR.set_q (z := k) (s := 36) (v := -4) (j := (6 + 4 * k + 3).toNat) k0 (by omega) (by omega) (m4_n rfl).symm rfl) hF.ms
      clear ih key hq
      refine Rch.blk' (Rn_mono mt _) bl_X4_setsUp_2 (i_iload_n rfl (i_aload_n rfl (i_gfs rfl (i_iconst k_0 (i_iald (n := 46) rfl (by first | omega | (simp (disch := omega) only [e_n]; omega)) (by first | omega | (simp (disch := omega) only [e_n]; omega)) (by first | omega | (simp (disch := omega) only [e_n]; omega)) (t_ic_ge 30 12 rfl rfl (by first | with_reducible exact hI_R | with_reducible exact lcm_R | with_reducible exact band_R | with_reducible exact bor_R | with_reducible exact bshr_R | with_reducible exact bshl_R | omega | (simp (disch := omega) only [e_n]; omega)) (by first | with_reducible exact hI_R | with_reducible exact lcm_R | with_reducible exact band_R | with_reducible exact bor_R | with_reducible exact bshr_R | with_reducible exact bshl_R | omega | (simp (disch := omega) only [e_n]; omega)) (fun hc => ?_) (fun hc => ?_))))))) <;> (try (simp (disch := omega) only [e_n] at hc ⊢)) <;> (first | (exfalso; omega) | skip)
      repeat' (first
        | exact kk
        | (show Rn _ _ 109 _ _ _; refine c_X4_of ?_)
        | (show Rn _ _ 117 _ _ _; refine c_X4_onSquare (by assumption) (by assumption) (by omega) (by omega) (fun _ _ _ => ?_) (fun _ => ?_))
        | (show Rch _ _ _ _ _ 0 _ _ _; refine Rch.blk' (Rn_mono mt _) bl_X4_setsUp_0 (i_iconst k_0 (i_istore1 trivial (t_none ?_))))
        | (show Rch _ _ _ _ _ 12 _ _ _; refine Rch.blk' (Rn_mono mt _) bl_X4_setsUp_12 (i_aload_n rfl (i_gfs rfl (i_iload_n rfl (i_iconst k_3 (t_cs2 (Rn_mono mt _) 21 rfl (Nat.le_of_ble_eq_true rfl) ?_))))))
        | (show Rch _ _ _ _ _ 21 _ _ _; refine Rch.blk' (Rn_mono mt _) bl_X4_setsUp_21 (i_bipush k_m4 (i_iast rfl rfl (by omega) (by simp only [aln]; omega) (by simp only [aln]; omega) (i_iinc1 trivial k_1 (t_goto 2 rfl ?_)))))
        | (show Rch _ _ _ _ _ 30 _ _ _; refine Rch.blk' (Rn_mono mt _) bl_X4_setsUp_30 (i_iconst k_0 (i_istore1 trivial (t_none ?_))))
        | (show Rch _ _ _ _ _ 32 _ _ _; refine Rch.blk' (Rn_mono mt _) bl_X4_setsUp_32 (i_iload_n rfl (i_aload_n rfl (i_gfs rfl (i_iconst k_0 (i_iald (n := 46) rfl (by omega) (by omega) (by omega) (t_ic_ge 87 42 rfl rfl (by first | with_reducible exact hI_R | with_reducible exact lcm_R | with_reducible exact band_R | with_reducible exact bor_R | with_reducible exact bshr_R | with_reducible exact bshl_R | omega) (by first | with_reducible exact hI_R | with_reducible exact lcm_R | with_reducible exact band_R | with_reducible exact bor_R | with_reducible exact bshr_R | with_reducible exact bshl_R | omega) (fun hc => ?_) (fun hc => ?_))))))) <;> (first | (exfalso; omega) | skip))
        | (show Rch _ _ _ _ _ 42 _ _ _; refine Rch.blk' (Rn_mono mt _) bl_X4_setsUp_42 (i_aload_n rfl (i_bipush k_36 (t_cv2 (Rn_mono mt _) 48 rfl (Nat.le_of_ble_eq_true rfl) ?_))))
        | (show Rch _ _ _ _ _ 48 _ _ _; refine Rch.blk' (Rn_mono mt _) bl_X4_setsUp_48 (i_istore2 trivial (t_none ?_)))
        | (show Rch _ _ _ _ _ 49 _ _ _; refine Rch.blk' (Rn_mono mt _) bl_X4_setsUp_49 (i_aload_n rfl (i_gfs rfl (i_iload_n rfl (t_cs2 (Rn_mono mt _) 57 rfl (Nat.le_of_ble_eq_true rfl) ?_)))))
        | (show Rch _ _ _ _ _ 57 _ _ _; refine Rch.blk' (Rn_mono mt _) bl_X4_setsUp_57 (t_if_lt 70 60 rfl rfl (by first | with_reducible exact hI_R | with_reducible exact lcm_R | with_reducible exact band_R | with_reducible exact bor_R | with_reducible exact bshr_R | with_reducible exact bshl_R | omega) (fun hc => ?_) (fun hc => ?_)) <;> (first | (exfalso; omega) | skip))
        | (show Rch _ _ _ _ _ 60 _ _ _; refine Rch.blk' (Rn_mono mt _) bl_X4_setsUp_60 (i_iload_n rfl (i_iconst k_1 (i_iadd (i_bipush k_36 (i_irem (by omega) (by omega) (by omega) (by omega) (i_istore2 trivial (t_goto 49 rfl ?_))))))))
        | (show Rch _ _ _ _ _ 70 _ _ _; refine Rch.blk' (Rn_mono mt _) bl_X4_setsUp_70 (i_aload_n rfl (i_gfs rfl (i_iload_n rfl (i_iconst k_3 (t_cs2 (Rn_mono mt _) 79 rfl (Nat.le_of_ble_eq_true rfl) ?_))))))
        | (show Rch _ _ _ _ _ 79 _ _ _; refine Rch.blk' (Rn_mono mt _) bl_X4_setsUp_79 (i_iload_n rfl (i_iast rfl rfl (by omega) (by simp only [aln]; omega) (by simp only [aln]; omega) (i_iinc1 trivial k_1 (t_goto 32 rfl ?_)))))
        | (show Rch _ _ _ _ _ 87 _ _ _; refine Rch.blk' (Rn_mono mt _) bl_X4_setsUp_87 (t_vret ?_)))
    · obtain rfl : k = nn G := by omega
      have kk := key 0 (by omega) (by omega) h' none hR ((hF 3 0 9 (by omega)).trans hz) (hF.jy (by omega))
      clear ih key hq
      refine Rch.blk' (Rn_mono mt _) bl_X4_setsUp_2 (i_iload_n rfl (i_aload_n rfl (i_gfs rfl (i_iconst k_0 (i_iald (n := 46) rfl (by first | omega | (simp (disch := omega) only [e_n]; omega)) (by first | omega | (simp (disch := omega) only [e_n]; omega)) (by first | omega | (simp (disch := omega) only [e_n]; omega)) (t_ic_ge 30 12 rfl rfl (by first | with_reducible exact hI_R | with_reducible exact lcm_R | with_reducible exact band_R | with_reducible exact bor_R | with_reducible exact bshr_R | with_reducible exact bshl_R | omega | (simp (disch := omega) only [e_n]; omega)) (by first | with_reducible exact hI_R | with_reducible exact lcm_R | with_reducible exact band_R | with_reducible exact bor_R | with_reducible exact bshr_R | with_reducible exact bshl_R | omega | (simp (disch := omega) only [e_n]; omega)) (fun hc => ?_) (fun hc => ?_))))))) <;> (try (simp (disch := omega) only [e_n] at hc ⊢)) <;> (first | (exfalso; omega) | skip)
      repeat' (first
        | exact kk
        | (show Rn _ _ 109 _ _ _; refine c_X4_of ?_)
        | (show Rn _ _ 117 _ _ _; refine c_X4_onSquare (by assumption) (by assumption) (by omega) (by omega) (fun _ _ _ => ?_) (fun _ => ?_))
        | (show Rch _ _ _ _ _ 0 _ _ _; refine Rch.blk' (Rn_mono mt _) bl_X4_setsUp_0 (i_iconst k_0 (i_istore1 trivial (t_none ?_))))
        | (show Rch _ _ _ _ _ 12 _ _ _; refine Rch.blk' (Rn_mono mt _) bl_X4_setsUp_12 (i_aload_n rfl (i_gfs rfl (i_iload_n rfl (i_iconst k_3 (t_cs2 (Rn_mono mt _) 21 rfl (Nat.le_of_ble_eq_true rfl) ?_))))))
        | (show Rch _ _ _ _ _ 21 _ _ _; refine Rch.blk' (Rn_mono mt _) bl_X4_setsUp_21 (i_bipush k_m4 (i_iast rfl rfl (by omega) (by simp only [aln]; omega) (by simp only [aln]; omega) (i_iinc1 trivial k_1 (t_goto 2 rfl ?_)))))
        | (show Rch _ _ _ _ _ 30 _ _ _; refine Rch.blk' (Rn_mono mt _) bl_X4_setsUp_30 (i_iconst k_0 (i_istore1 trivial (t_none ?_))))
        | (show Rch _ _ _ _ _ 42 _ _ _; refine Rch.blk' (Rn_mono mt _) bl_X4_setsUp_42 (i_aload_n rfl (i_bipush k_36 (t_cv2 (Rn_mono mt _) 48 rfl (Nat.le_of_ble_eq_true rfl) ?_))))
        | (show Rch _ _ _ _ _ 48 _ _ _; refine Rch.blk' (Rn_mono mt _) bl_X4_setsUp_48 (i_istore2 trivial (t_none ?_)))
        | (show Rch _ _ _ _ _ 49 _ _ _; refine Rch.blk' (Rn_mono mt _) bl_X4_setsUp_49 (i_aload_n rfl (i_gfs rfl (i_iload_n rfl (t_cs2 (Rn_mono mt _) 57 rfl (Nat.le_of_ble_eq_true rfl) ?_)))))
        | (show Rch _ _ _ _ _ 57 _ _ _; refine Rch.blk' (Rn_mono mt _) bl_X4_setsUp_57 (t_if_lt 70 60 rfl rfl (by first | with_reducible exact hI_R | with_reducible exact lcm_R | with_reducible exact band_R | with_reducible exact bor_R | with_reducible exact bshr_R | with_reducible exact bshl_R | omega) (fun hc => ?_) (fun hc => ?_)) <;> (first | (exfalso; omega) | skip))
        | (show Rch _ _ _ _ _ 60 _ _ _; refine Rch.blk' (Rn_mono mt _) bl_X4_setsUp_60 (i_iload_n rfl (i_iconst k_1 (i_iadd (i_bipush k_36 (i_irem (by omega) (by omega) (by omega) (by omega) (i_istore2 trivial (t_goto 49 rfl ?_))))))))
        | (show Rch _ _ _ _ _ 70 _ _ _; refine Rch.blk' (Rn_mono mt _) bl_X4_setsUp_70 (i_aload_n rfl (i_gfs rfl (i_iload_n rfl (i_iconst k_3 (t_cs2 (Rn_mono mt _) 79 rfl (Nat.le_of_ble_eq_true rfl) ?_))))))
        | (show Rch _ _ _ _ _ 79 _ _ _; refine Rch.blk' (Rn_mono mt _) bl_X4_setsUp_79 (i_iload_n rfl (i_iast rfl rfl (by omega) (by simp only [aln]; omega) (by simp only [aln]; omega) (i_iinc1 trivial k_1 (t_goto 32 rfl ?_)))))
        | (show Rch _ _ _ _ _ 87 _ _ _; refine Rch.blk' (Rn_mono mt _) bl_X4_setsUp_87 (t_vret ?_)))
  have kz := key1 0 (by omega) (by omega) h hG1 FrR.rf
  clear key key1 hq
  repeat' (first
    | exact kz
    | (show Rn _ _ 109 _ _ _; refine c_X4_of ?_)
    | (show Rn _ _ 117 _ _ _; refine c_X4_onSquare (by assumption) (by assumption) (by omega) (by omega) (fun _ _ _ => ?_) (fun _ => ?_))
    | (show Rch _ _ _ _ _ 0 _ _ _; refine Rch.blk' (Rn_mono mt _) bl_X4_setsUp_0 (i_iconst k_0 (i_istore1 trivial (t_none ?_))))
    | (show Rch _ _ _ _ _ 12 _ _ _; refine Rch.blk' (Rn_mono mt _) bl_X4_setsUp_12 (i_aload_n rfl (i_gfs rfl (i_iload_n rfl (i_iconst k_3 (t_cs2 (Rn_mono mt _) 21 rfl (Nat.le_of_ble_eq_true rfl) ?_))))))
    | (show Rch _ _ _ _ _ 21 _ _ _; refine Rch.blk' (Rn_mono mt _) bl_X4_setsUp_21 (i_bipush k_m4 (i_iast rfl rfl (by omega) (by simp only [aln]; omega) (by simp only [aln]; omega) (i_iinc1 trivial k_1 (t_goto 2 rfl ?_)))))
    | (show Rch _ _ _ _ _ 30 _ _ _; refine Rch.blk' (Rn_mono mt _) bl_X4_setsUp_30 (i_iconst k_0 (i_istore1 trivial (t_none ?_))))
    | (show Rch _ _ _ _ _ 42 _ _ _; refine Rch.blk' (Rn_mono mt _) bl_X4_setsUp_42 (i_aload_n rfl (i_bipush k_36 (t_cv2 (Rn_mono mt _) 48 rfl (Nat.le_of_ble_eq_true rfl) ?_))))
    | (show Rch _ _ _ _ _ 48 _ _ _; refine Rch.blk' (Rn_mono mt _) bl_X4_setsUp_48 (i_istore2 trivial (t_none ?_)))
    | (show Rch _ _ _ _ _ 49 _ _ _; refine Rch.blk' (Rn_mono mt _) bl_X4_setsUp_49 (i_aload_n rfl (i_gfs rfl (i_iload_n rfl (t_cs2 (Rn_mono mt _) 57 rfl (Nat.le_of_ble_eq_true rfl) ?_)))))
    | (show Rch _ _ _ _ _ 57 _ _ _; refine Rch.blk' (Rn_mono mt _) bl_X4_setsUp_57 (t_if_lt 70 60 rfl rfl (by first | with_reducible exact hI_R | with_reducible exact lcm_R | with_reducible exact band_R | with_reducible exact bor_R | with_reducible exact bshr_R | with_reducible exact bshl_R | omega) (fun hc => ?_) (fun hc => ?_)) <;> (first | (exfalso; omega) | skip))
    | (show Rch _ _ _ _ _ 60 _ _ _; refine Rch.blk' (Rn_mono mt _) bl_X4_setsUp_60 (i_iload_n rfl (i_iconst k_1 (i_iadd (i_bipush k_36 (i_irem (by omega) (by omega) (by omega) (by omega) (i_istore2 trivial (t_goto 49 rfl ?_))))))))
    | (show Rch _ _ _ _ _ 70 _ _ _; refine Rch.blk' (Rn_mono mt _) bl_X4_setsUp_70 (i_aload_n rfl (i_gfs rfl (i_iload_n rfl (i_iconst k_3 (t_cs2 (Rn_mono mt _) 79 rfl (Nat.le_of_ble_eq_true rfl) ?_))))))
    | (show Rch _ _ _ _ _ 79 _ _ _; refine Rch.blk' (Rn_mono mt _) bl_X4_setsUp_79 (i_iload_n rfl (i_iast rfl rfl (by omega) (by simp only [aln]; omega) (by simp only [aln]; omega) (i_iinc1 trivial k_1 (t_goto 32 rfl ?_)))))
    | (show Rch _ _ _ _ _ 87 _ _ _; refine Rch.blk' (Rn_mono mt _) bl_X4_setsUp_87 (t_vret ?_)))
theorem c_X4_games (hG : RR h 0 G no0 0) (hO : OKB G) (hy : dy G ≤ 999) {n z w : Int} (hn : inR n) (hz : inR z) (hw : inR w) (hq : ∀ v h', v = vGames G n z w → JY h h' → Q (some (ai (I v))) h') : Rn mt (d + 20) 195 [ar 3 0, ai (I n), ai (I z), ai (I w)] h Q := by
  refine Rn.intro iX4_games rfl rfl ?_
  show Rch bX4_games _ _ _ _ 0 [some (ar 3 0), some (ai (I n)), some (ai (I z)), some (ai (I w)), none, none] [] _
  have g_n := hO.n
  have k1 : ∀ u, u = -1 → ¬ ((1 ≤ n ∧ n ≤ 20) ∧ 0 ≤ w ∧ w ≤ 1) → Q (some (ai (I u))) h := fun u e a => hq _ _ (by unfold vGames; rw [if_neg a]; exact e) JY.rf
  have key : ((1 ≤ n ∧ n ≤ 20) ∧ 0 ≤ w ∧ w ≤ 1) → ∀ k : Int, k ≤ n → 0 ≤ k → ∀ (h' : Mem), hI h' 3 0 9 = gZ G w z k → JY h h' → RH bX4_games (d + 19) Q 32 [some (ar 3 0), some (ai (I n)), some (ai (I z)), some (ai (I w)), some (ai (I (gA G w z k))), some (ai (I k))] h' := by
    intro ha
    refine up_ind (fun k hk ih k0 h' hZ hJ => ?_)
    have hR := hG.jy hJ (by omega)
    by_cases hk1 : k < n
    · have ih := ih hk1 (by omega)
      rw [gA_up k0, gZ_up k0] at ih
      obtain ⟨hOs, hns, hds, -, -⟩ := sV_f (z := gZ G w z k) hO (nn G) g_n.1 (Int.le_refl _)
      have hOd := (DN_f (M := no0) hOs 16 (by omega)).1
      refine Rch.blk' (Rn_mono mt _) bl_X4_games_32 (i_iload rfl (i_iload_n rfl (t_ic_ge 103 38 rfl rfl (by first | with_reducible exact hI_R | with_reducible exact lcm_R | with_reducible exact band_R | with_reducible exact bor_R | with_reducible exact bshr_R | with_reducible exact bshl_R | omega) (by first | with_reducible exact hI_R | with_reducible exact lcm_R | with_reducible exact band_R | with_reducible exact bor_R | with_reducible exact bshr_R | with_reducible exact bshl_R | omega) (fun hc => ?_) (fun hc => ?_)))) <;> (first | (exfalso; omega) | skip)
      refine Rch.blk' (Rn_mono mt _) bl_X4_games_38 (i_aload_n rfl (i_gfs rfl (i_aload_n rfl (i_gfs rfl (t_cs2 (Rn_mono mt _) 49 rfl (Nat.le_of_ble_eq_true rfl) ?_)))))
      refine c_X4_copies hR hO (by decide) (fun h1 hG1 hF1 => ?_)
      refine Rch.blk' (Rn_mono mt _) bl_X4_games_49 (i_aload_n rfl (t_cv1 (Rn_mono mt _) 53 rfl (Nat.le_of_ble_eq_true rfl) ?_))
      refine c_X4_setsUp (hR.fr hF1 (by decide)) hG1 hO ((hF1 3 0 9 (by omega)).trans hZ) (fun h2 hG2 hZ2 hJ2 => ?_)
      refine Rch.blk' (Rn_mono mt _) bl_X4_games_53 (i_aload_n rfl (i_gfs rfl (i_bipush k_16 (t_cs2 (Rn_mono mt _) 62 rfl (Nat.le_of_ble_eq_true rfl) ?_))))
      refine c_X4_daysOn hG2 hOs (by omega) (by omega) (by omega) (fun h3 hG3 hF3 => ?_)
      have hJ3 := ((hJ.tr (hF1.jy (by omega))).tr hJ2).tr (hF3.jy (by omega))
      have hR3 := hG.jy hJ3 (by omega)
      have e_o := hG3.o
      have e_p := hR3.o
      have e_t : cnt (TS (DN (sV G (gZ G w z k) (nn G)) no0 16)) 10 = NT (DN (sV G (gZ G w z k) (nn G)) no0 16) := TS_cnt hOd
      have ih := ih h3 ((hF3 3 0 9 (by omega)).trans hZ2) hJ3
      by_cases c : w = 0
      · rw [if_pos c, ← e_t] at ih
        clear e_t
        repeat' (first
          | (show Rn _ _ 133 _ _ _; refine c_X4_hereIn hG3 hOd ?_)
          | exact ih
          | (show Rn _ _ 105 _ _ _; refine c_X4_isIn (by first | omega | exact hI_R) (by first | omega | exact hI_R) (by first | omega | exact hI_R) (fun _ _ => ?_) (fun _ => ?_))
          | (show Rn _ _ 133 _ _ _; refine c_X4_hereIn (by assumption) (by assumption) ?_)
          | (show Rn _ _ 116 _ _ _; refine c_X4_bits (fun _ _ => ?_))
          | (show Rch _ _ _ _ _ 0 _ _ _; refine Rch.blk' (Rn_mono mt _) bl_X4_games_0 (i_iload_n rfl (i_iconst k_1 (i_bipush k_20 (t_cs3 (Rn_mono mt _) 7 rfl (Nat.le_of_ble_eq_true rfl) ?_)))))
          | (show Rch _ _ _ _ _ 7 _ _ _; refine Rch.blk' (Rn_mono mt _) bl_X4_games_7 (t_if_eq 19 10 rfl rfl (by first | with_reducible exact hI_R | with_reducible exact lcm_R | with_reducible exact band_R | with_reducible exact bor_R | with_reducible exact bshr_R | with_reducible exact bshl_R | omega) (fun hc => ?_) (fun hc => ?_)) <;> (first | (exfalso; omega) | skip))
          | (show Rch _ _ _ _ _ 10 _ _ _; refine Rch.blk' (Rn_mono mt _) bl_X4_games_10 (i_iload_n rfl (i_iconst k_0 (i_iconst k_1 (t_cs3 (Rn_mono mt _) 16 rfl (Nat.le_of_ble_eq_true rfl) ?_)))))
          | (show Rch _ _ _ _ _ 16 _ _ _; refine Rch.blk' (Rn_mono mt _) bl_X4_games_16 (t_if_ne 21 19 rfl rfl (by first | with_reducible exact hI_R | with_reducible exact lcm_R | with_reducible exact band_R | with_reducible exact bor_R | with_reducible exact bshr_R | with_reducible exact bshl_R | omega) (fun hc => ?_) (fun hc => ?_)) <;> (first | (exfalso; omega) | skip))
          | (show Rch _ _ _ _ _ 19 _ _ _; refine Rch.blk' (Rn_mono mt _) bl_X4_games_19 (i_iconst k_m1 (t_iret ?_)))
          | (show Rch _ _ _ _ _ 21 _ _ _; refine Rch.blk' (Rn_mono mt _) bl_X4_games_21 (i_aload_n rfl (i_iload_n rfl (i_pfi rfl (i_iconst k_0 (i_istore4 trivial (i_iconst k_0 (i_istore5 trivial (t_none ?_)))))))))
          | (show Rch _ _ _ _ _ 38 _ _ _; refine Rch.blk' (Rn_mono mt _) bl_X4_games_38 (i_aload_n rfl (i_gfs rfl (i_aload_n rfl (i_gfs rfl (t_cs2 (Rn_mono mt _) 49 rfl (Nat.le_of_ble_eq_true rfl) ?_))))))
          | (show Rch _ _ _ _ _ 49 _ _ _; refine Rch.blk' (Rn_mono mt _) bl_X4_games_49 (i_aload_n rfl (t_cv1 (Rn_mono mt _) 53 rfl (Nat.le_of_ble_eq_true rfl) ?_)))
          | (show Rch _ _ _ _ _ 53 _ _ _; refine Rch.blk' (Rn_mono mt _) bl_X4_games_53 (i_aload_n rfl (i_gfs rfl (i_bipush k_16 (t_cs2 (Rn_mono mt _) 62 rfl (Nat.le_of_ble_eq_true rfl) ?_)))))
          | (show Rch _ _ _ _ _ 62 _ _ _; refine Rch.blk' (Rn_mono mt _) bl_X4_games_62 (i_iload rfl (i_iload_n rfl (t_if_ne 81 68 rfl rfl (by first | with_reducible exact hI_R | with_reducible exact lcm_R | with_reducible exact band_R | with_reducible exact bor_R | with_reducible exact bshr_R | with_reducible exact bshl_R | omega) (fun hc => ?_) (fun hc => ?_)))) <;> (first | (exfalso; omega) | skip))
          | (show Rch _ _ _ _ _ 68 _ _ _; refine Rch.blk' (Rn_mono mt _) bl_X4_games_68 (i_aload_n rfl (i_gfs rfl (t_cs1 (Rn_mono mt _) 75 rfl (Nat.le_of_ble_eq_true rfl) ?_))))
          | (show Rch _ _ _ _ _ 75 _ _ _; refine Rch.blk' (Rn_mono mt _) bl_X4_games_75 (t_cs1 (Rn_mono mt _) 78 rfl (Nat.le_of_ble_eq_true rfl) ?_))
          | (show Rch _ _ _ _ _ 78 _ _ _; refine Rch.blk' (Rn_mono mt _) bl_X4_games_78 (t_goto 94 rfl ?_))
          | (show Rch _ _ _ _ _ 81 _ _ _; refine Rch.blk' (Rn_mono mt _) bl_X4_games_81 (i_aload_n rfl (i_gfs rfl (i_iconst k_3 (i_iald (n := 46) rfl (by omega) (by omega) (by omega) (i_aload_n rfl (i_gfs rfl (i_iconst k_3 (i_iald (n := 46) rfl (by omega) (by omega) (by omega) (i_isub (t_none ?_)))))))))))
          | (show Rch _ _ _ _ _ 94 _ _ _; refine Rch.blk' (Rn_mono mt _) bl_X4_games_94 (i_iadd (i_istore4 trivial (i_iinc5 trivial k_1 (t_goto 32 rfl ?_)))))
          | (show Rch _ _ _ _ _ 103 _ _ _; refine Rch.blk' (Rn_mono mt _) bl_X4_games_103 (i_iload rfl (t_iret ?_))))
      · rw [if_neg c] at ih
        repeat' (first
          | exact ih
          | (show Rn _ _ 105 _ _ _; refine c_X4_isIn (by first | omega | exact hI_R) (by first | omega | exact hI_R) (by first | omega | exact hI_R) (fun _ _ => ?_) (fun _ => ?_))
          | (show Rn _ _ 133 _ _ _; refine c_X4_hereIn (by assumption) (by assumption) ?_)
          | (show Rn _ _ 116 _ _ _; refine c_X4_bits (fun _ _ => ?_))
          | (show Rch _ _ _ _ _ 0 _ _ _; refine Rch.blk' (Rn_mono mt _) bl_X4_games_0 (i_iload_n rfl (i_iconst k_1 (i_bipush k_20 (t_cs3 (Rn_mono mt _) 7 rfl (Nat.le_of_ble_eq_true rfl) ?_)))))
          | (show Rch _ _ _ _ _ 7 _ _ _; refine Rch.blk' (Rn_mono mt _) bl_X4_games_7 (t_if_eq 19 10 rfl rfl (by first | with_reducible exact hI_R | with_reducible exact lcm_R | with_reducible exact band_R | with_reducible exact bor_R | with_reducible exact bshr_R | with_reducible exact bshl_R | omega | (simp (disch := omega) only [e_o, e_p]; omega)) (fun hc => ?_) (fun hc => ?_)) <;> (first | (exfalso; omega) | skip))
          | (show Rch _ _ _ _ _ 10 _ _ _; refine Rch.blk' (Rn_mono mt _) bl_X4_games_10 (i_iload_n rfl (i_iconst k_0 (i_iconst k_1 (t_cs3 (Rn_mono mt _) 16 rfl (Nat.le_of_ble_eq_true rfl) ?_)))))
          | (show Rch _ _ _ _ _ 16 _ _ _; refine Rch.blk' (Rn_mono mt _) bl_X4_games_16 (t_if_ne 21 19 rfl rfl (by first | with_reducible exact hI_R | with_reducible exact lcm_R | with_reducible exact band_R | with_reducible exact bor_R | with_reducible exact bshr_R | with_reducible exact bshl_R | omega | (simp (disch := omega) only [e_o, e_p]; omega)) (fun hc => ?_) (fun hc => ?_)) <;> (first | (exfalso; omega) | skip))
          | (show Rch _ _ _ _ _ 19 _ _ _; refine Rch.blk' (Rn_mono mt _) bl_X4_games_19 (i_iconst k_m1 (t_iret ?_)))
          | (show Rch _ _ _ _ _ 21 _ _ _; refine Rch.blk' (Rn_mono mt _) bl_X4_games_21 (i_aload_n rfl (i_iload_n rfl (i_pfi rfl (i_iconst k_0 (i_istore4 trivial (i_iconst k_0 (i_istore5 trivial (t_none ?_)))))))))
          | (show Rch _ _ _ _ _ 38 _ _ _; refine Rch.blk' (Rn_mono mt _) bl_X4_games_38 (i_aload_n rfl (i_gfs rfl (i_aload_n rfl (i_gfs rfl (t_cs2 (Rn_mono mt _) 49 rfl (Nat.le_of_ble_eq_true rfl) ?_))))) <;> (try (simp (disch := omega) only [e_o, e_p])))
          | (show Rch _ _ _ _ _ 49 _ _ _; refine Rch.blk' (Rn_mono mt _) bl_X4_games_49 (i_aload_n rfl (t_cv1 (Rn_mono mt _) 53 rfl (Nat.le_of_ble_eq_true rfl) ?_)))
          | (show Rch _ _ _ _ _ 53 _ _ _; refine Rch.blk' (Rn_mono mt _) bl_X4_games_53 (i_aload_n rfl (i_gfs rfl (i_bipush k_16 (t_cs2 (Rn_mono mt _) 62 rfl (Nat.le_of_ble_eq_true rfl) ?_)))) <;> (try (simp (disch := omega) only [e_o, e_p])))
          | (show Rch _ _ _ _ _ 62 _ _ _; refine Rch.blk' (Rn_mono mt _) bl_X4_games_62 (i_iload rfl (i_iload_n rfl (t_if_ne 81 68 rfl rfl (by first | with_reducible exact hI_R | with_reducible exact lcm_R | with_reducible exact band_R | with_reducible exact bor_R | with_reducible exact bshr_R | with_reducible exact bshl_R | omega | (simp (disch := omega) only [e_o, e_p]; omega)) (fun hc => ?_) (fun hc => ?_)))) <;> (first | (exfalso; omega) | skip))
          | (show Rch _ _ _ _ _ 68 _ _ _; refine Rch.blk' (Rn_mono mt _) bl_X4_games_68 (i_aload_n rfl (i_gfs rfl (t_cs1 (Rn_mono mt _) 75 rfl (Nat.le_of_ble_eq_true rfl) ?_))) <;> (try (simp (disch := omega) only [e_o, e_p])))
          | (show Rch _ _ _ _ _ 75 _ _ _; refine Rch.blk' (Rn_mono mt _) bl_X4_games_75 (t_cs1 (Rn_mono mt _) 78 rfl (Nat.le_of_ble_eq_true rfl) ?_))
          | (show Rch _ _ _ _ _ 78 _ _ _; refine Rch.blk' (Rn_mono mt _) bl_X4_games_78 (t_goto 94 rfl ?_))
          | (show Rch _ _ _ _ _ 81 _ _ _; refine Rch.blk' (Rn_mono mt _) bl_X4_games_81 (i_aload_n rfl (i_gfs rfl (i_iconst k_3 (i_iald (n := 46) rfl (by first | omega | (simp (disch := omega) only [e_o, e_p]; omega)) (by first | omega | (simp (disch := omega) only [e_o, e_p]; omega)) (by first | omega | (simp (disch := omega) only [e_o, e_p]; omega)) (i_aload_n rfl (i_gfs rfl (i_iconst k_3 (i_iald (n := 46) rfl (by first | omega | (simp (disch := omega) only [e_o, e_p]; omega)) (by first | omega | (simp (disch := omega) only [e_o, e_p]; omega)) (by first | omega | (simp (disch := omega) only [e_o, e_p]; omega)) (i_isub (t_none ?_)))))))))) <;> (try (simp (disch := omega) only [e_o, e_p])))
          | (show Rch _ _ _ _ _ 94 _ _ _; refine Rch.blk' (Rn_mono mt _) bl_X4_games_94 (i_iadd (i_istore4 trivial (i_iinc5 trivial k_1 (t_goto 32 rfl ?_)))))
          | (show Rch _ _ _ _ _ 103 _ _ _; refine Rch.blk' (Rn_mono mt _) bl_X4_games_103 (i_iload rfl (t_iret ?_))))
    · obtain rfl : k = n := by omega
      have kk := hq _ h' (by unfold vGames; rw [if_pos ha]) hJ
      clear ih hq k1
      refine Rch.blk' (Rn_mono mt _) bl_X4_games_32 (i_iload rfl (i_iload_n rfl (t_ic_ge 103 38 rfl rfl (by first | with_reducible exact hI_R | with_reducible exact lcm_R | with_reducible exact band_R | with_reducible exact bor_R | with_reducible exact bshr_R | with_reducible exact bshl_R | omega) (by first | with_reducible exact hI_R | with_reducible exact lcm_R | with_reducible exact band_R | with_reducible exact bor_R | with_reducible exact bshr_R | with_reducible exact bshl_R | omega) (fun hc => ?_) (fun hc => ?_)))) <;> (first | (exfalso; omega) | skip)
      repeat' (first
        | exact kk
        | (show Rn _ _ 105 _ _ _; refine c_X4_isIn (by first | omega | exact hI_R) (by first | omega | exact hI_R) (by first | omega | exact hI_R) (fun _ _ => ?_) (fun _ => ?_))
        | (show Rn _ _ 133 _ _ _; refine c_X4_hereIn (by assumption) (by assumption) ?_)
        | (show Rn _ _ 116 _ _ _; refine c_X4_bits (fun _ _ => ?_))
        | (show Rch _ _ _ _ _ 0 _ _ _; refine Rch.blk' (Rn_mono mt _) bl_X4_games_0 (i_iload_n rfl (i_iconst k_1 (i_bipush k_20 (t_cs3 (Rn_mono mt _) 7 rfl (Nat.le_of_ble_eq_true rfl) ?_)))))
        | (show Rch _ _ _ _ _ 7 _ _ _; refine Rch.blk' (Rn_mono mt _) bl_X4_games_7 (t_if_eq 19 10 rfl rfl (by first | with_reducible exact hI_R | with_reducible exact lcm_R | with_reducible exact band_R | with_reducible exact bor_R | with_reducible exact bshr_R | with_reducible exact bshl_R | omega) (fun hc => ?_) (fun hc => ?_)) <;> (first | (exfalso; omega) | skip))
        | (show Rch _ _ _ _ _ 10 _ _ _; refine Rch.blk' (Rn_mono mt _) bl_X4_games_10 (i_iload_n rfl (i_iconst k_0 (i_iconst k_1 (t_cs3 (Rn_mono mt _) 16 rfl (Nat.le_of_ble_eq_true rfl) ?_)))))
        | (show Rch _ _ _ _ _ 16 _ _ _; refine Rch.blk' (Rn_mono mt _) bl_X4_games_16 (t_if_ne 21 19 rfl rfl (by first | with_reducible exact hI_R | with_reducible exact lcm_R | with_reducible exact band_R | with_reducible exact bor_R | with_reducible exact bshr_R | with_reducible exact bshl_R | omega) (fun hc => ?_) (fun hc => ?_)) <;> (first | (exfalso; omega) | skip))
        | (show Rch _ _ _ _ _ 19 _ _ _; refine Rch.blk' (Rn_mono mt _) bl_X4_games_19 (i_iconst k_m1 (t_iret ?_)))
        | (show Rch _ _ _ _ _ 21 _ _ _; refine Rch.blk' (Rn_mono mt _) bl_X4_games_21 (i_aload_n rfl (i_iload_n rfl (i_pfi rfl (i_iconst k_0 (i_istore4 trivial (i_iconst k_0 (i_istore5 trivial (t_none ?_)))))))))
        | (show Rch _ _ _ _ _ 38 _ _ _; refine Rch.blk' (Rn_mono mt _) bl_X4_games_38 (i_aload_n rfl (i_gfs rfl (i_aload_n rfl (i_gfs rfl (t_cs2 (Rn_mono mt _) 49 rfl (Nat.le_of_ble_eq_true rfl) ?_))))))
        | (show Rch _ _ _ _ _ 49 _ _ _; refine Rch.blk' (Rn_mono mt _) bl_X4_games_49 (i_aload_n rfl (t_cv1 (Rn_mono mt _) 53 rfl (Nat.le_of_ble_eq_true rfl) ?_)))
        | (show Rch _ _ _ _ _ 53 _ _ _; refine Rch.blk' (Rn_mono mt _) bl_X4_games_53 (i_aload_n rfl (i_gfs rfl (i_bipush k_16 (t_cs2 (Rn_mono mt _) 62 rfl (Nat.le_of_ble_eq_true rfl) ?_)))))
        | (show Rch _ _ _ _ _ 62 _ _ _; refine Rch.blk' (Rn_mono mt _) bl_X4_games_62 (i_iload rfl (i_iload_n rfl (t_if_ne 81 68 rfl rfl (by first | with_reducible exact hI_R | with_reducible exact lcm_R | with_reducible exact band_R | with_reducible exact bor_R | with_reducible exact bshr_R | with_reducible exact bshl_R | omega) (fun hc => ?_) (fun hc => ?_)))) <;> (first | (exfalso; omega) | skip))
        | (show Rch _ _ _ _ _ 68 _ _ _; refine Rch.blk' (Rn_mono mt _) bl_X4_games_68 (i_aload_n rfl (i_gfs rfl (t_cs1 (Rn_mono mt _) 75 rfl (Nat.le_of_ble_eq_true rfl) ?_))))
        | (show Rch _ _ _ _ _ 75 _ _ _; refine Rch.blk' (Rn_mono mt _) bl_X4_games_75 (t_cs1 (Rn_mono mt _) 78 rfl (Nat.le_of_ble_eq_true rfl) ?_))
        | (show Rch _ _ _ _ _ 78 _ _ _; refine Rch.blk' (Rn_mono mt _) bl_X4_games_78 (t_goto 94 rfl ?_))
        | (show Rch _ _ _ _ _ 81 _ _ _; refine Rch.blk' (Rn_mono mt _) bl_X4_games_81 (i_aload_n rfl (i_gfs rfl (i_iconst k_3 (i_iald (n := 46) rfl (by omega) (by omega) (by omega) (i_aload_n rfl (i_gfs rfl (i_iconst k_3 (i_iald (n := 46) rfl (by omega) (by omega) (by omega) (i_isub (t_none ?_)))))))))))
        | (show Rch _ _ _ _ _ 94 _ _ _; refine Rch.blk' (Rn_mono mt _) bl_X4_games_94 (i_iadd (i_istore4 trivial (i_iinc5 trivial k_1 (t_goto 32 rfl ?_)))))
        | (show Rch _ _ _ _ _ 103 _ _ _; refine Rch.blk' (Rn_mono mt _) bl_X4_games_103 (i_iload rfl (t_iret ?_))))
  have ky := fun a => key a 0 (by omega) (by omega) (mset h 3 0 9 (I z)) (hI_eq hz) (JY.rf.ms (by omega))
  have ky2 : ((1 ≤ n ∧ n ≤ 20) ∧ 0 ≤ w ∧ w ≤ 1) → RH bX4_games (d + 19) Q 32 [some (ar 3 0), some (ai (I n)), some (ai (I z)), some (ai (I w)), some (ai (I 0)), some (ai (I 0))] (mset h 3 0 9 (I z)) := ky
  clear key hq ky
  repeat' (first
    | exact ky2 (by omega)
    | ((with_reducible refine k1 _ ?_ ?_) <;> omega)
    | (show Rn _ _ 105 _ _ _; refine c_X4_isIn (by first | omega | exact hI_R) (by first | omega | exact hI_R) (by first | omega | exact hI_R) (fun _ _ => ?_) (fun _ => ?_))
    | (show Rn _ _ 133 _ _ _; refine c_X4_hereIn (by assumption) (by assumption) ?_)
    | (show Rn _ _ 116 _ _ _; refine c_X4_bits (fun _ _ => ?_))
    | (show Rch _ _ _ _ _ 0 _ _ _; refine Rch.blk' (Rn_mono mt _) bl_X4_games_0 (i_iload_n rfl (i_iconst k_1 (i_bipush k_20 (t_cs3 (Rn_mono mt _) 7 rfl (Nat.le_of_ble_eq_true rfl) ?_)))))
    | (show Rch _ _ _ _ _ 7 _ _ _; refine Rch.blk' (Rn_mono mt _) bl_X4_games_7 (t_if_eq 19 10 rfl rfl (by first | with_reducible exact hI_R | with_reducible exact lcm_R | with_reducible exact band_R | with_reducible exact bor_R | with_reducible exact bshr_R | with_reducible exact bshl_R | omega) (fun hc => ?_) (fun hc => ?_)) <;> (first | (exfalso; omega) | skip))
    | (show Rch _ _ _ _ _ 10 _ _ _; refine Rch.blk' (Rn_mono mt _) bl_X4_games_10 (i_iload_n rfl (i_iconst k_0 (i_iconst k_1 (t_cs3 (Rn_mono mt _) 16 rfl (Nat.le_of_ble_eq_true rfl) ?_)))))
    | (show Rch _ _ _ _ _ 16 _ _ _; refine Rch.blk' (Rn_mono mt _) bl_X4_games_16 (t_if_ne 21 19 rfl rfl (by first | with_reducible exact hI_R | with_reducible exact lcm_R | with_reducible exact band_R | with_reducible exact bor_R | with_reducible exact bshr_R | with_reducible exact bshl_R | omega) (fun hc => ?_) (fun hc => ?_)) <;> (first | (exfalso; omega) | skip))
    | (show Rch _ _ _ _ _ 19 _ _ _; refine Rch.blk' (Rn_mono mt _) bl_X4_games_19 (i_iconst k_m1 (t_iret ?_)))
    | (show Rch _ _ _ _ _ 21 _ _ _; refine Rch.blk' (Rn_mono mt _) bl_X4_games_21 (i_aload_n rfl (i_iload_n rfl (i_pfi rfl (i_iconst k_0 (i_istore4 trivial (i_iconst k_0 (i_istore5 trivial (t_none ?_)))))))))
    | (show Rch _ _ _ _ _ 38 _ _ _; refine Rch.blk' (Rn_mono mt _) bl_X4_games_38 (i_aload_n rfl (i_gfs rfl (i_aload_n rfl (i_gfs rfl (t_cs2 (Rn_mono mt _) 49 rfl (Nat.le_of_ble_eq_true rfl) ?_))))))
    | (show Rch _ _ _ _ _ 49 _ _ _; refine Rch.blk' (Rn_mono mt _) bl_X4_games_49 (i_aload_n rfl (t_cv1 (Rn_mono mt _) 53 rfl (Nat.le_of_ble_eq_true rfl) ?_)))
    | (show Rch _ _ _ _ _ 53 _ _ _; refine Rch.blk' (Rn_mono mt _) bl_X4_games_53 (i_aload_n rfl (i_gfs rfl (i_bipush k_16 (t_cs2 (Rn_mono mt _) 62 rfl (Nat.le_of_ble_eq_true rfl) ?_)))))
    | (show Rch _ _ _ _ _ 62 _ _ _; refine Rch.blk' (Rn_mono mt _) bl_X4_games_62 (i_iload rfl (i_iload_n rfl (t_if_ne 81 68 rfl rfl (by first | with_reducible exact hI_R | with_reducible exact lcm_R | with_reducible exact band_R | with_reducible exact bor_R | with_reducible exact bshr_R | with_reducible exact bshl_R | omega) (fun hc => ?_) (fun hc => ?_)))) <;> (first | (exfalso; omega) | skip))
    | (show Rch _ _ _ _ _ 68 _ _ _; refine Rch.blk' (Rn_mono mt _) bl_X4_games_68 (i_aload_n rfl (i_gfs rfl (t_cs1 (Rn_mono mt _) 75 rfl (Nat.le_of_ble_eq_true rfl) ?_))))
    | (show Rch _ _ _ _ _ 75 _ _ _; refine Rch.blk' (Rn_mono mt _) bl_X4_games_75 (t_cs1 (Rn_mono mt _) 78 rfl (Nat.le_of_ble_eq_true rfl) ?_))
    | (show Rch _ _ _ _ _ 78 _ _ _; refine Rch.blk' (Rn_mono mt _) bl_X4_games_78 (t_goto 94 rfl ?_))
    | (show Rch _ _ _ _ _ 81 _ _ _; refine Rch.blk' (Rn_mono mt _) bl_X4_games_81 (i_aload_n rfl (i_gfs rfl (i_iconst k_3 (i_iald (n := 46) rfl (by omega) (by omega) (by omega) (i_aload_n rfl (i_gfs rfl (i_iconst k_3 (i_iald (n := 46) rfl (by omega) (by omega) (by omega) (i_isub (t_none ?_)))))))))))
    | (show Rch _ _ _ _ _ 94 _ _ _; refine Rch.blk' (Rn_mono mt _) bl_X4_games_94 (i_iadd (i_istore4 trivial (i_iinc5 trivial k_1 (t_goto 32 rfl ?_)))))
    | (show Rch _ _ _ _ _ 103 _ _ _; refine Rch.blk' (Rn_mono mt _) bl_X4_games_103 (i_iload rfl (t_iret ?_))))
end C38

