/-! GAME: the class's statements and answer -/
section C41
variable {d L : Nat} {h : Mem} {Q : Option AV → Mem → Prop} {G V : Bd} {S : Sv}
theorem c_X3_isDone (hV : RC h 2 V) (hO : OKB V) (hd : dy V ≤ 999) (hS : SC h S) (hK : OKS S) {z i : Int} (z0 : 0 ≤ z) (z1 : z < 8) (hh : ho S z = 2) (hE : ∀ i : Int, 0 ≤ i → i < 100 → -128 ≤ el S z i ∧ el S z i ≤ 127) (i0 : 0 ≤ i) (hs : stG (el S z) (sz S z) i) (h1 : okTx (el S z) V i → ∀ h', RC h' 2 (vTx (el S z) V i) → FrC h h' 2 → Q (some (ai (I 1))) h') (h0 : ¬ okTx (el S z) V i → Q (some (ai (I 0))) h) : Rn mt L (d + 7) 50 [ar 2 0, ar 1 z.toNat, ai (I i)] h Q := by
  refine Rn.intro iX3_isDone rfl rfl ?_
  show Rch bX3_isDone _ _ _ _ 0 [some (ar 2 0), some (ar 1 z.toNat), some (ai (I i)), none, none, none] [] _
  have g := (hK z z0 z1).2.2 hh
  have g_n := hO.n
  have hR := stG_r hs
  have hs3 := hs.2.2
  have hl := nd_c hs.1
  have g_d := hO.2.2.2.1
  have dA : ∀ {Q' : Option AV → Mem → Prop} {j : Int}, 0 ≤ j → j ≤ 200 → (∀ v, -1000 ≤ v → v ≤ 1000 → (j < sz S z → v = el S z j - 48) → Q' (some (ai (I v))) h) → Rn mt L (d + 6) 46 [ar 1 z.toNat, ai (I j)] h Q' := by
    intro Q' j j0 j1 hq
    refine c_X2_digitAt hS hK z0 z1 hh ⟨by omega, by omega⟩ (fun v a b => ?_)
    by_cases c : j < sz S z
    · have := hE j j0 (by omega)
      have e := a j0 c
      exact hq v (by omega) (by omega) (fun _ => e)
    · have e := b (fun w => c w.2)
      exact hq v (by omega) (by omega) (fun w => absurd w c)
  have kN : lkN (I (el S z i)) [(100, 124), (107, 111), (109, 77), (112, 57), (116, 102), (120, 93)] → inR (el S z i) → False := fun w r => by
    have h1 := ln_c (by decide) r ⟨by omega, by omega⟩ w
    have h2 := ln_c (by decide) r ⟨by omega, by omega⟩ h1.2
    have h3 := ln_c (by decide) r ⟨by omega, by omega⟩ h2.2
    have h4 := ln_c (by decide) r ⟨by omega, by omega⟩ h3.2
    have h5 := ln_c (by decide) r ⟨by omega, by omega⟩ h4.2
    have h6 := ln_c (by decide) r ⟨by omega, by omega⟩ h5.2
    omega
  rcases hl with ⟨hl, hn⟩ | ⟨hl, hn⟩ | ⟨hl, hn⟩ | ⟨hl, hn⟩ | ⟨hl, hn⟩ | ⟨hl, hn⟩
  · have eA : oA (el S z) i = el S z (i + 1) - 48 := if_neg (by omega)
    have eB : oB (el S z) i = el S z (i + 2) - 48 := if_neg (by omega)
    have eE : oE (el S z) i = el S z (i + 3) - 48 := rfl
    have eF : oF (el S z) i = 10 * (el S z (i + 4) - 48) + (el S z (i + 4 + 1) - 48) := rfl
    have kA : ∀ (a b e f : Int) (h' : Mem), a = oA (el S z) i → b = oB (el S z) i → e = oE (el S z) i → f = oF (el S z) i → nn V < 10 → a < 8 → (e = 0 ∨ e = 1) → f < 36 → ons V f = -4 → RC h' 2 (addp V a b e f) → FrC h h' 2 → Q (some (ai (I 1))) h' := fun a b e f h' q1 q2 q3 q4 c1 c2 c3 c4 c5 c6 c7 => h1 ⟨fun _ => by rw [← q1, ← q3, ← q4]; exact ⟨c1, c2, c3, c4, c5⟩, fun w => by omega, fun w => by omega, fun w => by omega, fun w => by omega, fun w => by omega⟩ h' (by
      have : vTx (el S z) V i = addp V (oA (el S z) i) (oB (el S z) i) (oE (el S z) i) (oF (el S z) i) := if_pos hl
      rw [this, ← q1, ← q2, ← q3, ← q4]; exact c6) c7
    have kB : ∀ (a b e f : Int), a = oA (el S z) i → b = oB (el S z) i → e = oE (el S z) i → f = oF (el S z) i → ¬ (nn V < 10 ∧ (0 ≤ a ∧ a < 8) ∧ (0 ≤ b ∧ b < 10) ∧ (e = 0 ∨ e = 1) ∧ 0 ≤ f ∧ f < 36 ∧ ons V f = -4) → Q (some (ai (I 0))) h := fun a b e f q1 q2 q3 q4 c => h0 (fun w => c (by
      have := w.1 hl
      rw [← q1, ← q3, ← q4] at this
      rw [← q1, ← q2, ← q3, ← q4] at hR
      exact ⟨this.1, ⟨hR.1, this.2.1⟩, hR.2.2.1 hl, this.2.2.1, (hR.2.2.2.2.2.2 hl).1, this.2.2.2⟩))
    clear h1 h0
    refine Rch.blk' (Rn_mono mt _ _) bl_X3_isDone_0 (i_aload_n rfl (i_iload_n rfl (i_iconst k_1 (i_iadd (t_cv2 (Rn_mono mt _ _) 7 rfl (Nat.le_of_ble_eq_true rfl) ?_)))))
    refine dA (by omega) (by omega) (fun v1 _ _ e1 => ?_)
    refine Rch.blk' (Rn_mono mt _ _) bl_X3_isDone_7 (i_istore3 trivial (i_aload_n rfl (i_iload_n rfl (i_iconst k_2 (i_iadd (t_cv2 (Rn_mono mt _ _) 15 rfl (Nat.le_of_ble_eq_true rfl) ?_))))))
    refine dA (by omega) (by omega) (fun v2 _ _ e2 => ?_)
    refine Rch.blk' (Rn_mono mt _ _) bl_X3_isDone_15 (i_istore4 trivial (i_aload_n rfl (i_iload_n rfl (i_iconst k_3 (i_iadd (t_cv2 (Rn_mono mt _ _) 24 rfl (Nat.le_of_ble_eq_true rfl) ?_))))))
    refine dA (by omega) (by omega) (fun v3 _ _ e3 => ?_)
    refine Rch.blk' (Rn_mono mt _ _) bl_X3_isDone_24 (i_istore5 trivial (i_aload_n rfl (i_iload_n rfl (t_cv2 (Rn_mono mt _ _) 31 rfl (Nat.le_of_ble_eq_true rfl) ?_))))
    refine c_X2_elementAt hS hK ⟨by omega, by omega⟩ z0 z1 hh (fun _ _ _ => ?_) (fun w => absurd ⟨i0, by omega⟩ w)
    clear dA
    repeat' (first
      | exact (kN (by assumption) (by assumption)).elim
      | (show Rn _ _ _ 47 _ _ _; refine c_X2_twoDigitsAt hS hK z0 z1 hh (by omega) (by omega) ?_)
      | ((with_reducible refine kA _ _ _ _ _ ?_ ?_ ?_ ?_ ?_ ?_ ?_ ?_ ?_ (by assumption) (by assumption)) <;> omega)
      | ((with_reducible refine kB v1 v2 v3 (10 * (el S z (i + 4) - 48) + (el S z (i + 4 + 1) - 48)) ?_ ?_ ?_ ?_ ?_) <;> omega)
      | (show Rn _ _ _ 43 _ _ _; refine c_X2_elementAt (by assumption) (by assumption) (by first | omega | exact hI_R) (by assumption) (by assumption) (by assumption) (fun _ _ _ => ?_) (fun _ => ?_))
      | (show Rn _ _ _ 10 _ _ _; refine c_X0_addPiece (by assumption) (by assumption) (by first | omega | exact hI_R) (by first | omega | exact hI_R) (by first | omega | exact hI_R) (by first | omega | exact hI_R) (fun _ _ _ _ _ _ _ _ _ _ => ?_) (fun _ => ?_))
      | (show Rn _ _ _ 13 _ _ _; refine c_X0_movePiece (by assumption) (by assumption) (by first | omega | exact hI_R) (by first | omega | exact hI_R) (fun _ _ _ _ _ _ _ _ => ?_) (fun _ => ?_))
      | (show Rn _ _ _ 12 _ _ _; refine c_X0_takeOff (by assumption) (by assumption) (by first | omega | exact hI_R) (fun _ _ _ _ _ _ => ?_) (fun _ => ?_))
      | (show Rn _ _ _ 15 _ _ _; refine c_X0_giveTurn (by assumption) (by first | omega | exact hI_R) (fun _ _ _ _ => ?_) (fun _ => ?_))
      | (show Rn _ _ _ 14 _ _ _; refine c_X0_turnInto (by assumption) (by assumption) (by first | omega | exact hI_R) (by first | omega | exact hI_R) (by first | omega | exact hI_R) (fun _ _ _ _ _ _ _ => ?_) (fun _ => ?_))
      | (show Rch _ _ _ _ _ 0 _ _ _; refine Rch.blk' (Rn_mono mt _ _) bl_X3_isDone_0 (i_aload_n rfl (i_iload_n rfl (i_iconst k_1 (i_iadd (t_cv2 (Rn_mono mt _ _) 7 rfl (Nat.le_of_ble_eq_true rfl) ?_))))))
      | (show Rch _ _ _ _ _ 7 _ _ _; refine Rch.blk' (Rn_mono mt _ _) bl_X3_isDone_7 (i_istore3 trivial (i_aload_n rfl (i_iload_n rfl (i_iconst k_2 (i_iadd (t_cv2 (Rn_mono mt _ _) 15 rfl (Nat.le_of_ble_eq_true rfl) ?_)))))))
      | (show Rch _ _ _ _ _ 15 _ _ _; refine Rch.blk' (Rn_mono mt _ _) bl_X3_isDone_15 (i_istore4 trivial (i_aload_n rfl (i_iload_n rfl (i_iconst k_3 (i_iadd (t_cv2 (Rn_mono mt _ _) 24 rfl (Nat.le_of_ble_eq_true rfl) ?_)))))))
      | (show Rch _ _ _ _ _ 24 _ _ _; refine Rch.blk' (Rn_mono mt _ _) bl_X3_isDone_24 (i_istore5 trivial (i_aload_n rfl (i_iload_n rfl (t_cv2 (Rn_mono mt _ _) 31 rfl (Nat.le_of_ble_eq_true rfl) ?_)))))
      | (show Rch _ _ _ _ _ 31 _ _ _; refine Rch.blk' (Rn_mono mt _ _) bl_X3_isDone_31 (t_lsw 170 rfl (lk_c 155 rfl rfl (by first | with_reducible exact hI_R | with_reducible exact lcm_R | with_reducible exact band_R | with_reducible exact bor_R | with_reducible exact bshr_R | with_reducible exact bshl_R | omega) (by omega) (fun hc => ?_) (lk_c 142 rfl rfl (by first | with_reducible exact hI_R | with_reducible exact lcm_R | with_reducible exact band_R | with_reducible exact bor_R | with_reducible exact bshr_R | with_reducible exact bshl_R | omega) (by omega) (fun hc => ?_) (lk_c 108 rfl rfl (by first | with_reducible exact hI_R | with_reducible exact lcm_R | with_reducible exact band_R | with_reducible exact bor_R | with_reducible exact bshr_R | with_reducible exact bshl_R | omega) (by omega) (fun hc => ?_) (lk_c 88 rfl rfl (by first | with_reducible exact hI_R | with_reducible exact lcm_R | with_reducible exact band_R | with_reducible exact bor_R | with_reducible exact bshr_R | with_reducible exact bshl_R | omega) (by omega) (fun hc => ?_) (lk_c 133 rfl rfl (by first | with_reducible exact hI_R | with_reducible exact lcm_R | with_reducible exact band_R | with_reducible exact bor_R | with_reducible exact bshr_R | with_reducible exact bshl_R | omega) (by omega) (fun hc => ?_) (lk_c 124 rfl rfl (by first | with_reducible exact hI_R | with_reducible exact lcm_R | with_reducible exact band_R | with_reducible exact bor_R | with_reducible exact bshr_R | with_reducible exact bshl_R | omega) (by omega) (fun hc => ?_) lk_n)))))) (fun hc => ?_)) <;> (first | (exfalso; omega) | skip))
      | (show Rch _ _ _ _ _ 88 _ _ _; refine Rch.blk' (Rn_mono mt _ _) bl_X3_isDone_88 (i_aload_n rfl (i_gfs rfl (i_iload_n rfl (i_iload rfl (i_iload rfl (i_aload_n rfl (i_iload_n rfl (i_iconst k_4 (i_iadd (t_cv2 (Rn_mono mt _ _) 104 rfl (Nat.le_of_ble_eq_true rfl) ?_)))))))))))
      | (show Rch _ _ _ _ _ 104 _ _ _; refine Rch.blk' (Rn_mono mt _ _) bl_X3_isDone_104 (t_cv5 (Rn_mono mt _ _) 107 rfl (Nat.le_of_ble_eq_true rfl) ?_))
      | (show Rch _ _ _ _ _ 107 _ _ _; refine Rch.blk' (Rn_mono mt _ _) bl_X3_isDone_107 (t_zret (by omega) ?_))
      | (show Rch _ _ _ _ _ 108 _ _ _; refine Rch.blk' (Rn_mono mt _ _) bl_X3_isDone_108 (i_aload_n rfl (i_gfs rfl (i_iload_n rfl (i_aload_n rfl (i_iload_n rfl (i_iconst k_2 (i_iadd (t_cv2 (Rn_mono mt _ _) 120 rfl (Nat.le_of_ble_eq_true rfl) ?_)))))))))
      | (show Rch _ _ _ _ _ 120 _ _ _; refine Rch.blk' (Rn_mono mt _ _) bl_X3_isDone_120 (t_cv3 (Rn_mono mt _ _) 123 rfl (Nat.le_of_ble_eq_true rfl) ?_))
      | (show Rch _ _ _ _ _ 123 _ _ _; refine Rch.blk' (Rn_mono mt _ _) bl_X3_isDone_123 (t_zret (by omega) ?_))
      | (show Rch _ _ _ _ _ 124 _ _ _; refine Rch.blk' (Rn_mono mt _ _) bl_X3_isDone_124 (i_aload_n rfl (i_gfs rfl (i_iload_n rfl (t_cv2 (Rn_mono mt _ _) 132 rfl (Nat.le_of_ble_eq_true rfl) ?_)))))
      | (show Rch _ _ _ _ _ 132 _ _ _; refine Rch.blk' (Rn_mono mt _ _) bl_X3_isDone_132 (t_zret (by omega) ?_))
      | (show Rch _ _ _ _ _ 133 _ _ _; refine Rch.blk' (Rn_mono mt _ _) bl_X3_isDone_133 (i_aload_n rfl (i_gfs rfl (i_iload_n rfl (t_cv2 (Rn_mono mt _ _) 141 rfl (Nat.le_of_ble_eq_true rfl) ?_)))))
      | (show Rch _ _ _ _ _ 141 _ _ _; refine Rch.blk' (Rn_mono mt _ _) bl_X3_isDone_141 (t_zret (by omega) ?_))
      | (show Rch _ _ _ _ _ 142 _ _ _; refine Rch.blk' (Rn_mono mt _ _) bl_X3_isDone_142 (i_aload_n rfl (i_gfs rfl (i_iload_n rfl (i_iload rfl (i_iload rfl (t_cv4 (Rn_mono mt _ _) 154 rfl (Nat.le_of_ble_eq_true rfl) ?_)))))))
      | (show Rch _ _ _ _ _ 154 _ _ _; refine Rch.blk' (Rn_mono mt _ _) bl_X3_isDone_154 (t_zret (by omega) ?_))
      | (show Rch _ _ _ _ _ 155 _ _ _; refine Rch.blk' (Rn_mono mt _ _) bl_X3_isDone_155 (i_aload_n rfl (i_gfs rfl (i_aload_n rfl (i_iload_n rfl (i_iconst k_1 (i_iadd (t_cv2 (Rn_mono mt _ _) 166 rfl (Nat.le_of_ble_eq_true rfl) ?_))))))))
      | (show Rch _ _ _ _ _ 166 _ _ _; refine Rch.blk' (Rn_mono mt _ _) bl_X3_isDone_166 (t_cv2 (Rn_mono mt _ _) 169 rfl (Nat.le_of_ble_eq_true rfl) ?_))
      | (show Rch _ _ _ _ _ 169 _ _ _; refine Rch.blk' (Rn_mono mt _ _) bl_X3_isDone_169 (t_zret (by omega) ?_))
      | (show Rch _ _ _ _ _ 170 _ _ _; refine Rch.blk' (Rn_mono mt _ _) bl_X3_isDone_170 (i_iconst k_0 (t_zret (by omega) ?_))))
  · have eA : oA (el S z) i = el S z (i + 1) - 48 := if_neg (by omega)
    have eB : oB (el S z) i = 10 * (el S z (i + 2) - 48) + (el S z (i + 2 + 1) - 48) := if_pos hl
    have kA : ∀ (a b : Int) (h' : Mem), a = oA (el S z) i → b = oB (el S z) i → a < nn V → b < 36 → (ons V b = -4 ∨ ons V b = a) → RC h' 2 (mov V a b) → FrC h h' 2 → Q (some (ai (I 1))) h' := fun a b h' q1 q2 c1 c2 c3 c6 c7 => h1 ⟨fun w => by omega, fun _ => by rw [← q1, ← q2]; exact ⟨c1, c2, c3⟩, fun w => by omega, fun w => by omega, fun w => by omega, fun w => by omega⟩ h' (by
      have : vTx (el S z) V i = mov V (oA (el S z) i) (oB (el S z) i) := (if_neg (by omega)).trans (if_pos hl)
      rw [this, ← q1, ← q2]; exact c6) c7
    have kB : ∀ (a b : Int), a = oA (el S z) i → b = oB (el S z) i → ¬ ((0 ≤ a ∧ a < nn V) ∧ (0 ≤ b ∧ b < 36) ∧ (ons V b = -4 ∨ ons V b = a)) → Q (some (ai (I 0))) h := fun a b q1 q2 c => h0 (fun w => c (by
      have := w.2.1 hl
      rw [← q1, ← q2] at this
      rw [← q1, ← q2] at hR
      exact ⟨⟨hR.1, this.1⟩, ⟨(hR.2.2.2.1 hl).1, this.2.1⟩, this.2.2⟩))
    clear h1 h0
    refine Rch.blk' (Rn_mono mt _ _) bl_X3_isDone_0 (i_aload_n rfl (i_iload_n rfl (i_iconst k_1 (i_iadd (t_cv2 (Rn_mono mt _ _) 7 rfl (Nat.le_of_ble_eq_true rfl) ?_)))))
    refine dA (by omega) (by omega) (fun v1 _ _ e1 => ?_)
    refine Rch.blk' (Rn_mono mt _ _) bl_X3_isDone_7 (i_istore3 trivial (i_aload_n rfl (i_iload_n rfl (i_iconst k_2 (i_iadd (t_cv2 (Rn_mono mt _ _) 15 rfl (Nat.le_of_ble_eq_true rfl) ?_))))))
    refine dA (by omega) (by omega) (fun v2 _ _ e2 => ?_)
    refine Rch.blk' (Rn_mono mt _ _) bl_X3_isDone_15 (i_istore4 trivial (i_aload_n rfl (i_iload_n rfl (i_iconst k_3 (i_iadd (t_cv2 (Rn_mono mt _ _) 24 rfl (Nat.le_of_ble_eq_true rfl) ?_))))))
    refine dA (by omega) (by omega) (fun v3 _ _ e3 => ?_)
    refine Rch.blk' (Rn_mono mt _ _) bl_X3_isDone_24 (i_istore5 trivial (i_aload_n rfl (i_iload_n rfl (t_cv2 (Rn_mono mt _ _) 31 rfl (Nat.le_of_ble_eq_true rfl) ?_))))
    refine c_X2_elementAt hS hK ⟨by omega, by omega⟩ z0 z1 hh (fun _ _ _ => ?_) (fun w => absurd ⟨i0, by omega⟩ w)
    clear dA
    repeat' (first
      | exact (kN (by assumption) (by assumption)).elim
      | (show Rn _ _ _ 47 _ _ _; refine c_X2_twoDigitsAt hS hK z0 z1 hh (by omega) (by omega) ?_)
      | ((with_reducible refine kA _ _ _ ?_ ?_ ?_ ?_ ?_ (by assumption) (by assumption)) <;> omega)
      | ((with_reducible refine kB v1 (10 * (el S z (i + 2) - 48) + (el S z (i + 2 + 1) - 48)) ?_ ?_ ?_) <;> omega)
      | (show Rn _ _ _ 43 _ _ _; refine c_X2_elementAt (by assumption) (by assumption) (by first | omega | exact hI_R) (by assumption) (by assumption) (by assumption) (fun _ _ _ => ?_) (fun _ => ?_))
      | (show Rn _ _ _ 10 _ _ _; refine c_X0_addPiece (by assumption) (by assumption) (by first | omega | exact hI_R) (by first | omega | exact hI_R) (by first | omega | exact hI_R) (by first | omega | exact hI_R) (fun _ _ _ _ _ _ _ _ _ _ => ?_) (fun _ => ?_))
      | (show Rn _ _ _ 13 _ _ _; refine c_X0_movePiece (by assumption) (by assumption) (by first | omega | exact hI_R) (by first | omega | exact hI_R) (fun _ _ _ _ _ _ _ _ => ?_) (fun _ => ?_))
      | (show Rn _ _ _ 12 _ _ _; refine c_X0_takeOff (by assumption) (by assumption) (by first | omega | exact hI_R) (fun _ _ _ _ _ _ => ?_) (fun _ => ?_))
      | (show Rn _ _ _ 15 _ _ _; refine c_X0_giveTurn (by assumption) (by first | omega | exact hI_R) (fun _ _ _ _ => ?_) (fun _ => ?_))
      | (show Rn _ _ _ 14 _ _ _; refine c_X0_turnInto (by assumption) (by assumption) (by first | omega | exact hI_R) (by first | omega | exact hI_R) (by first | omega | exact hI_R) (fun _ _ _ _ _ _ _ => ?_) (fun _ => ?_))
      | (show Rch _ _ _ _ _ 0 _ _ _; refine Rch.blk' (Rn_mono mt _ _) bl_X3_isDone_0 (i_aload_n rfl (i_iload_n rfl (i_iconst k_1 (i_iadd (t_cv2 (Rn_mono mt _ _) 7 rfl (Nat.le_of_ble_eq_true rfl) ?_))))))
      | (show Rch _ _ _ _ _ 7 _ _ _; refine Rch.blk' (Rn_mono mt _ _) bl_X3_isDone_7 (i_istore3 trivial (i_aload_n rfl (i_iload_n rfl (i_iconst k_2 (i_iadd (t_cv2 (Rn_mono mt _ _) 15 rfl (Nat.le_of_ble_eq_true rfl) ?_)))))))
      | (show Rch _ _ _ _ _ 15 _ _ _; refine Rch.blk' (Rn_mono mt _ _) bl_X3_isDone_15 (i_istore4 trivial (i_aload_n rfl (i_iload_n rfl (i_iconst k_3 (i_iadd (t_cv2 (Rn_mono mt _ _) 24 rfl (Nat.le_of_ble_eq_true rfl) ?_)))))))
      | (show Rch _ _ _ _ _ 24 _ _ _; refine Rch.blk' (Rn_mono mt _ _) bl_X3_isDone_24 (i_istore5 trivial (i_aload_n rfl (i_iload_n rfl (t_cv2 (Rn_mono mt _ _) 31 rfl (Nat.le_of_ble_eq_true rfl) ?_)))))
      | (show Rch _ _ _ _ _ 31 _ _ _; refine Rch.blk' (Rn_mono mt _ _) bl_X3_isDone_31 (t_lsw 170 rfl (lk_c 155 rfl rfl (by first | with_reducible exact hI_R | with_reducible exact lcm_R | with_reducible exact band_R | with_reducible exact bor_R | with_reducible exact bshr_R | with_reducible exact bshl_R | omega) (by omega) (fun hc => ?_) (lk_c 142 rfl rfl (by first | with_reducible exact hI_R | with_reducible exact lcm_R | with_reducible exact band_R | with_reducible exact bor_R | with_reducible exact bshr_R | with_reducible exact bshl_R | omega) (by omega) (fun hc => ?_) (lk_c 108 rfl rfl (by first | with_reducible exact hI_R | with_reducible exact lcm_R | with_reducible exact band_R | with_reducible exact bor_R | with_reducible exact bshr_R | with_reducible exact bshl_R | omega) (by omega) (fun hc => ?_) (lk_c 88 rfl rfl (by first | with_reducible exact hI_R | with_reducible exact lcm_R | with_reducible exact band_R | with_reducible exact bor_R | with_reducible exact bshr_R | with_reducible exact bshl_R | omega) (by omega) (fun hc => ?_) (lk_c 133 rfl rfl (by first | with_reducible exact hI_R | with_reducible exact lcm_R | with_reducible exact band_R | with_reducible exact bor_R | with_reducible exact bshr_R | with_reducible exact bshl_R | omega) (by omega) (fun hc => ?_) (lk_c 124 rfl rfl (by first | with_reducible exact hI_R | with_reducible exact lcm_R | with_reducible exact band_R | with_reducible exact bor_R | with_reducible exact bshr_R | with_reducible exact bshl_R | omega) (by omega) (fun hc => ?_) lk_n)))))) (fun hc => ?_)) <;> (first | (exfalso; omega) | skip))
      | (show Rch _ _ _ _ _ 88 _ _ _; refine Rch.blk' (Rn_mono mt _ _) bl_X3_isDone_88 (i_aload_n rfl (i_gfs rfl (i_iload_n rfl (i_iload rfl (i_iload rfl (i_aload_n rfl (i_iload_n rfl (i_iconst k_4 (i_iadd (t_cv2 (Rn_mono mt _ _) 104 rfl (Nat.le_of_ble_eq_true rfl) ?_)))))))))))
      | (show Rch _ _ _ _ _ 104 _ _ _; refine Rch.blk' (Rn_mono mt _ _) bl_X3_isDone_104 (t_cv5 (Rn_mono mt _ _) 107 rfl (Nat.le_of_ble_eq_true rfl) ?_))
      | (show Rch _ _ _ _ _ 107 _ _ _; refine Rch.blk' (Rn_mono mt _ _) bl_X3_isDone_107 (t_zret (by omega) ?_))
      | (show Rch _ _ _ _ _ 108 _ _ _; refine Rch.blk' (Rn_mono mt _ _) bl_X3_isDone_108 (i_aload_n rfl (i_gfs rfl (i_iload_n rfl (i_aload_n rfl (i_iload_n rfl (i_iconst k_2 (i_iadd (t_cv2 (Rn_mono mt _ _) 120 rfl (Nat.le_of_ble_eq_true rfl) ?_)))))))))
      | (show Rch _ _ _ _ _ 120 _ _ _; refine Rch.blk' (Rn_mono mt _ _) bl_X3_isDone_120 (t_cv3 (Rn_mono mt _ _) 123 rfl (Nat.le_of_ble_eq_true rfl) ?_))
      | (show Rch _ _ _ _ _ 123 _ _ _; refine Rch.blk' (Rn_mono mt _ _) bl_X3_isDone_123 (t_zret (by omega) ?_))
      | (show Rch _ _ _ _ _ 124 _ _ _; refine Rch.blk' (Rn_mono mt _ _) bl_X3_isDone_124 (i_aload_n rfl (i_gfs rfl (i_iload_n rfl (t_cv2 (Rn_mono mt _ _) 132 rfl (Nat.le_of_ble_eq_true rfl) ?_)))))
      | (show Rch _ _ _ _ _ 132 _ _ _; refine Rch.blk' (Rn_mono mt _ _) bl_X3_isDone_132 (t_zret (by omega) ?_))
      | (show Rch _ _ _ _ _ 133 _ _ _; refine Rch.blk' (Rn_mono mt _ _) bl_X3_isDone_133 (i_aload_n rfl (i_gfs rfl (i_iload_n rfl (t_cv2 (Rn_mono mt _ _) 141 rfl (Nat.le_of_ble_eq_true rfl) ?_)))))
      | (show Rch _ _ _ _ _ 141 _ _ _; refine Rch.blk' (Rn_mono mt _ _) bl_X3_isDone_141 (t_zret (by omega) ?_))
      | (show Rch _ _ _ _ _ 142 _ _ _; refine Rch.blk' (Rn_mono mt _ _) bl_X3_isDone_142 (i_aload_n rfl (i_gfs rfl (i_iload_n rfl (i_iload rfl (i_iload rfl (t_cv4 (Rn_mono mt _ _) 154 rfl (Nat.le_of_ble_eq_true rfl) ?_)))))))
      | (show Rch _ _ _ _ _ 154 _ _ _; refine Rch.blk' (Rn_mono mt _ _) bl_X3_isDone_154 (t_zret (by omega) ?_))
      | (show Rch _ _ _ _ _ 155 _ _ _; refine Rch.blk' (Rn_mono mt _ _) bl_X3_isDone_155 (i_aload_n rfl (i_gfs rfl (i_aload_n rfl (i_iload_n rfl (i_iconst k_1 (i_iadd (t_cv2 (Rn_mono mt _ _) 166 rfl (Nat.le_of_ble_eq_true rfl) ?_))))))))
      | (show Rch _ _ _ _ _ 166 _ _ _; refine Rch.blk' (Rn_mono mt _ _) bl_X3_isDone_166 (t_cv2 (Rn_mono mt _ _) 169 rfl (Nat.le_of_ble_eq_true rfl) ?_))
      | (show Rch _ _ _ _ _ 169 _ _ _; refine Rch.blk' (Rn_mono mt _ _) bl_X3_isDone_169 (t_zret (by omega) ?_))
      | (show Rch _ _ _ _ _ 170 _ _ _; refine Rch.blk' (Rn_mono mt _ _) bl_X3_isDone_170 (i_iconst k_0 (t_zret (by omega) ?_))))
  · have eA : oA (el S z) i = el S z (i + 1) - 48 := if_neg (by omega)
    have kA : ∀ (a : Int) (h' : Mem), a = oA (el S z) i → a < nn V → sq V a < 36 → RC h' 2 (mov V a 36) → FrC h h' 2 → Q (some (ai (I 1))) h' := fun a h' q1 c1 c2 c6 c7 => h1 ⟨fun w => by omega, fun w => by omega, fun _ => by rw [← q1]; exact ⟨c1, c2⟩, fun w => by omega, fun w => by omega, fun w => by omega⟩ h' (by
      have : vTx (el S z) V i = mov V (oA (el S z) i) 36 := (if_neg (by omega)).trans ((if_neg (by omega)).trans (if_pos hl))
      rw [this, ← q1]; exact c6) c7
    have kB : ∀ (a : Int), a = oA (el S z) i → ¬ (0 ≤ a ∧ a < nn V ∧ sq V a < 36) → Q (some (ai (I 0))) h := fun a q1 c => h0 (fun w => c (by
      have := w.2.2.1 hl
      rw [← q1] at this
      rw [← q1] at hR
      exact ⟨hR.1, this.1, this.2⟩))
    clear h1 h0
    refine Rch.blk' (Rn_mono mt _ _) bl_X3_isDone_0 (i_aload_n rfl (i_iload_n rfl (i_iconst k_1 (i_iadd (t_cv2 (Rn_mono mt _ _) 7 rfl (Nat.le_of_ble_eq_true rfl) ?_)))))
    refine dA (by omega) (by omega) (fun v1 _ _ e1 => ?_)
    refine Rch.blk' (Rn_mono mt _ _) bl_X3_isDone_7 (i_istore3 trivial (i_aload_n rfl (i_iload_n rfl (i_iconst k_2 (i_iadd (t_cv2 (Rn_mono mt _ _) 15 rfl (Nat.le_of_ble_eq_true rfl) ?_))))))
    refine dA (by omega) (by omega) (fun v2 _ _ e2 => ?_)
    refine Rch.blk' (Rn_mono mt _ _) bl_X3_isDone_15 (i_istore4 trivial (i_aload_n rfl (i_iload_n rfl (i_iconst k_3 (i_iadd (t_cv2 (Rn_mono mt _ _) 24 rfl (Nat.le_of_ble_eq_true rfl) ?_))))))
    refine dA (by omega) (by omega) (fun v3 _ _ e3 => ?_)
    refine Rch.blk' (Rn_mono mt _ _) bl_X3_isDone_24 (i_istore5 trivial (i_aload_n rfl (i_iload_n rfl (t_cv2 (Rn_mono mt _ _) 31 rfl (Nat.le_of_ble_eq_true rfl) ?_))))
    refine c_X2_elementAt hS hK ⟨by omega, by omega⟩ z0 z1 hh (fun _ _ _ => ?_) (fun w => absurd ⟨i0, by omega⟩ w)
    clear dA
    repeat' (first
      | exact (kN (by assumption) (by assumption)).elim
      | ((with_reducible refine kA _ _ ?_ ?_ ?_ (by assumption) (by assumption)) <;> omega)
      | ((with_reducible refine kB v1 ?_ ?_) <;> omega)
      | (show Rn _ _ _ 43 _ _ _; refine c_X2_elementAt (by assumption) (by assumption) (by first | omega | exact hI_R) (by assumption) (by assumption) (by assumption) (fun _ _ _ => ?_) (fun _ => ?_))
      | (show Rn _ _ _ 10 _ _ _; refine c_X0_addPiece (by assumption) (by assumption) (by first | omega | exact hI_R) (by first | omega | exact hI_R) (by first | omega | exact hI_R) (by first | omega | exact hI_R) (fun _ _ _ _ _ _ _ _ _ _ => ?_) (fun _ => ?_))
      | (show Rn _ _ _ 13 _ _ _; refine c_X0_movePiece (by assumption) (by assumption) (by first | omega | exact hI_R) (by first | omega | exact hI_R) (fun _ _ _ _ _ _ _ _ => ?_) (fun _ => ?_))
      | (show Rn _ _ _ 12 _ _ _; refine c_X0_takeOff (by assumption) (by assumption) (by first | omega | exact hI_R) (fun _ _ _ _ _ _ => ?_) (fun _ => ?_))
      | (show Rn _ _ _ 15 _ _ _; refine c_X0_giveTurn (by assumption) (by first | omega | exact hI_R) (fun _ _ _ _ => ?_) (fun _ => ?_))
      | (show Rn _ _ _ 14 _ _ _; refine c_X0_turnInto (by assumption) (by assumption) (by first | omega | exact hI_R) (by first | omega | exact hI_R) (by first | omega | exact hI_R) (fun _ _ _ _ _ _ _ => ?_) (fun _ => ?_))
      | (show Rch _ _ _ _ _ 0 _ _ _; refine Rch.blk' (Rn_mono mt _ _) bl_X3_isDone_0 (i_aload_n rfl (i_iload_n rfl (i_iconst k_1 (i_iadd (t_cv2 (Rn_mono mt _ _) 7 rfl (Nat.le_of_ble_eq_true rfl) ?_))))))
      | (show Rch _ _ _ _ _ 7 _ _ _; refine Rch.blk' (Rn_mono mt _ _) bl_X3_isDone_7 (i_istore3 trivial (i_aload_n rfl (i_iload_n rfl (i_iconst k_2 (i_iadd (t_cv2 (Rn_mono mt _ _) 15 rfl (Nat.le_of_ble_eq_true rfl) ?_)))))))
      | (show Rch _ _ _ _ _ 15 _ _ _; refine Rch.blk' (Rn_mono mt _ _) bl_X3_isDone_15 (i_istore4 trivial (i_aload_n rfl (i_iload_n rfl (i_iconst k_3 (i_iadd (t_cv2 (Rn_mono mt _ _) 24 rfl (Nat.le_of_ble_eq_true rfl) ?_)))))))
      | (show Rch _ _ _ _ _ 24 _ _ _; refine Rch.blk' (Rn_mono mt _ _) bl_X3_isDone_24 (i_istore5 trivial (i_aload_n rfl (i_iload_n rfl (t_cv2 (Rn_mono mt _ _) 31 rfl (Nat.le_of_ble_eq_true rfl) ?_)))))
      | (show Rch _ _ _ _ _ 31 _ _ _; refine Rch.blk' (Rn_mono mt _ _) bl_X3_isDone_31 (t_lsw 170 rfl (lk_c 155 rfl rfl (by first | with_reducible exact hI_R | with_reducible exact lcm_R | with_reducible exact band_R | with_reducible exact bor_R | with_reducible exact bshr_R | with_reducible exact bshl_R | omega) (by omega) (fun hc => ?_) (lk_c 142 rfl rfl (by first | with_reducible exact hI_R | with_reducible exact lcm_R | with_reducible exact band_R | with_reducible exact bor_R | with_reducible exact bshr_R | with_reducible exact bshl_R | omega) (by omega) (fun hc => ?_) (lk_c 108 rfl rfl (by first | with_reducible exact hI_R | with_reducible exact lcm_R | with_reducible exact band_R | with_reducible exact bor_R | with_reducible exact bshr_R | with_reducible exact bshl_R | omega) (by omega) (fun hc => ?_) (lk_c 88 rfl rfl (by first | with_reducible exact hI_R | with_reducible exact lcm_R | with_reducible exact band_R | with_reducible exact bor_R | with_reducible exact bshr_R | with_reducible exact bshl_R | omega) (by omega) (fun hc => ?_) (lk_c 133 rfl rfl (by first | with_reducible exact hI_R | with_reducible exact lcm_R | with_reducible exact band_R | with_reducible exact bor_R | with_reducible exact bshr_R | with_reducible exact bshl_R | omega) (by omega) (fun hc => ?_) (lk_c 124 rfl rfl (by first | with_reducible exact hI_R | with_reducible exact lcm_R | with_reducible exact band_R | with_reducible exact bor_R | with_reducible exact bshr_R | with_reducible exact bshl_R | omega) (by omega) (fun hc => ?_) lk_n)))))) (fun hc => ?_)) <;> (first | (exfalso; omega) | skip))
      | (show Rch _ _ _ _ _ 88 _ _ _; refine Rch.blk' (Rn_mono mt _ _) bl_X3_isDone_88 (i_aload_n rfl (i_gfs rfl (i_iload_n rfl (i_iload rfl (i_iload rfl (i_aload_n rfl (i_iload_n rfl (i_iconst k_4 (i_iadd (t_cv2 (Rn_mono mt _ _) 104 rfl (Nat.le_of_ble_eq_true rfl) ?_)))))))))))
      | (show Rch _ _ _ _ _ 104 _ _ _; refine Rch.blk' (Rn_mono mt _ _) bl_X3_isDone_104 (t_cv5 (Rn_mono mt _ _) 107 rfl (Nat.le_of_ble_eq_true rfl) ?_))
      | (show Rch _ _ _ _ _ 107 _ _ _; refine Rch.blk' (Rn_mono mt _ _) bl_X3_isDone_107 (t_zret (by omega) ?_))
      | (show Rch _ _ _ _ _ 108 _ _ _; refine Rch.blk' (Rn_mono mt _ _) bl_X3_isDone_108 (i_aload_n rfl (i_gfs rfl (i_iload_n rfl (i_aload_n rfl (i_iload_n rfl (i_iconst k_2 (i_iadd (t_cv2 (Rn_mono mt _ _) 120 rfl (Nat.le_of_ble_eq_true rfl) ?_)))))))))
      | (show Rch _ _ _ _ _ 120 _ _ _; refine Rch.blk' (Rn_mono mt _ _) bl_X3_isDone_120 (t_cv3 (Rn_mono mt _ _) 123 rfl (Nat.le_of_ble_eq_true rfl) ?_))
      | (show Rch _ _ _ _ _ 123 _ _ _; refine Rch.blk' (Rn_mono mt _ _) bl_X3_isDone_123 (t_zret (by omega) ?_))
      | (show Rch _ _ _ _ _ 124 _ _ _; refine Rch.blk' (Rn_mono mt _ _) bl_X3_isDone_124 (i_aload_n rfl (i_gfs rfl (i_iload_n rfl (t_cv2 (Rn_mono mt _ _) 132 rfl (Nat.le_of_ble_eq_true rfl) ?_)))))
      | (show Rch _ _ _ _ _ 132 _ _ _; refine Rch.blk' (Rn_mono mt _ _) bl_X3_isDone_132 (t_zret (by omega) ?_))
      | (show Rch _ _ _ _ _ 133 _ _ _; refine Rch.blk' (Rn_mono mt _ _) bl_X3_isDone_133 (i_aload_n rfl (i_gfs rfl (i_iload_n rfl (t_cv2 (Rn_mono mt _ _) 141 rfl (Nat.le_of_ble_eq_true rfl) ?_)))))
      | (show Rch _ _ _ _ _ 141 _ _ _; refine Rch.blk' (Rn_mono mt _ _) bl_X3_isDone_141 (t_zret (by omega) ?_))
      | (show Rch _ _ _ _ _ 142 _ _ _; refine Rch.blk' (Rn_mono mt _ _) bl_X3_isDone_142 (i_aload_n rfl (i_gfs rfl (i_iload_n rfl (i_iload rfl (i_iload rfl (t_cv4 (Rn_mono mt _ _) 154 rfl (Nat.le_of_ble_eq_true rfl) ?_)))))))
      | (show Rch _ _ _ _ _ 154 _ _ _; refine Rch.blk' (Rn_mono mt _ _) bl_X3_isDone_154 (t_zret (by omega) ?_))
      | (show Rch _ _ _ _ _ 155 _ _ _; refine Rch.blk' (Rn_mono mt _ _) bl_X3_isDone_155 (i_aload_n rfl (i_gfs rfl (i_aload_n rfl (i_iload_n rfl (i_iconst k_1 (i_iadd (t_cv2 (Rn_mono mt _ _) 166 rfl (Nat.le_of_ble_eq_true rfl) ?_))))))))
      | (show Rch _ _ _ _ _ 166 _ _ _; refine Rch.blk' (Rn_mono mt _ _) bl_X3_isDone_166 (t_cv2 (Rn_mono mt _ _) 169 rfl (Nat.le_of_ble_eq_true rfl) ?_))
      | (show Rch _ _ _ _ _ 169 _ _ _; refine Rch.blk' (Rn_mono mt _ _) bl_X3_isDone_169 (t_zret (by omega) ?_))
      | (show Rch _ _ _ _ _ 170 _ _ _; refine Rch.blk' (Rn_mono mt _ _) bl_X3_isDone_170 (i_iconst k_0 (t_zret (by omega) ?_))))
  · have eA : oA (el S z) i = el S z (i + 1) - 48 := if_neg (by omega)
    have kA : ∀ (a : Int) (h' : Mem), a = oA (el S z) i → (a = 0 ∨ a = 1) → RC h' 2 (sett V a) → FrC h h' 2 → Q (some (ai (I 1))) h' := fun a h' q1 c1 c6 c7 => h1 ⟨fun w => by omega, fun w => by omega, fun w => by omega, fun _ => by rw [← q1]; exact c1, fun w => by omega, fun w => by omega⟩ h' (by
      have : vTx (el S z) V i = sett V (oA (el S z) i) := (if_neg (by omega)).trans ((if_neg (by omega)).trans ((if_neg (by omega)).trans (if_pos hl)))
      rw [this, ← q1]; exact c6) c7
    have kB : ∀ (a : Int), a = oA (el S z) i → ¬ (a = 0 ∨ a = 1) → Q (some (ai (I 0))) h := fun a q1 c => h0 (fun w => c (by
      have := w.2.2.2.1 hl
      rw [← q1] at this
      exact this))
    clear h1 h0
    refine Rch.blk' (Rn_mono mt _ _) bl_X3_isDone_0 (i_aload_n rfl (i_iload_n rfl (i_iconst k_1 (i_iadd (t_cv2 (Rn_mono mt _ _) 7 rfl (Nat.le_of_ble_eq_true rfl) ?_)))))
    refine dA (by omega) (by omega) (fun v1 _ _ e1 => ?_)
    refine Rch.blk' (Rn_mono mt _ _) bl_X3_isDone_7 (i_istore3 trivial (i_aload_n rfl (i_iload_n rfl (i_iconst k_2 (i_iadd (t_cv2 (Rn_mono mt _ _) 15 rfl (Nat.le_of_ble_eq_true rfl) ?_))))))
    refine dA (by omega) (by omega) (fun v2 _ _ e2 => ?_)
    refine Rch.blk' (Rn_mono mt _ _) bl_X3_isDone_15 (i_istore4 trivial (i_aload_n rfl (i_iload_n rfl (i_iconst k_3 (i_iadd (t_cv2 (Rn_mono mt _ _) 24 rfl (Nat.le_of_ble_eq_true rfl) ?_))))))
    refine dA (by omega) (by omega) (fun v3 _ _ e3 => ?_)
    refine Rch.blk' (Rn_mono mt _ _) bl_X3_isDone_24 (i_istore5 trivial (i_aload_n rfl (i_iload_n rfl (t_cv2 (Rn_mono mt _ _) 31 rfl (Nat.le_of_ble_eq_true rfl) ?_))))
    refine c_X2_elementAt hS hK ⟨by omega, by omega⟩ z0 z1 hh (fun _ _ _ => ?_) (fun w => absurd ⟨i0, by omega⟩ w)
    clear dA
    repeat' (first
      | exact (kN (by assumption) (by assumption)).elim
      | ((with_reducible refine kA _ _ ?_ ?_ (by assumption) (by assumption)) <;> omega)
      | ((with_reducible refine kB v1 ?_ ?_) <;> omega)
      | (show Rn _ _ _ 43 _ _ _; refine c_X2_elementAt (by assumption) (by assumption) (by first | omega | exact hI_R) (by assumption) (by assumption) (by assumption) (fun _ _ _ => ?_) (fun _ => ?_))
      | (show Rn _ _ _ 10 _ _ _; refine c_X0_addPiece (by assumption) (by assumption) (by first | omega | exact hI_R) (by first | omega | exact hI_R) (by first | omega | exact hI_R) (by first | omega | exact hI_R) (fun _ _ _ _ _ _ _ _ _ _ => ?_) (fun _ => ?_))
      | (show Rn _ _ _ 13 _ _ _; refine c_X0_movePiece (by assumption) (by assumption) (by first | omega | exact hI_R) (by first | omega | exact hI_R) (fun _ _ _ _ _ _ _ _ => ?_) (fun _ => ?_))
      | (show Rn _ _ _ 12 _ _ _; refine c_X0_takeOff (by assumption) (by assumption) (by first | omega | exact hI_R) (fun _ _ _ _ _ _ => ?_) (fun _ => ?_))
      | (show Rn _ _ _ 15 _ _ _; refine c_X0_giveTurn (by assumption) (by first | omega | exact hI_R) (fun _ _ _ _ => ?_) (fun _ => ?_))
      | (show Rn _ _ _ 14 _ _ _; refine c_X0_turnInto (by assumption) (by assumption) (by first | omega | exact hI_R) (by first | omega | exact hI_R) (by first | omega | exact hI_R) (fun _ _ _ _ _ _ _ => ?_) (fun _ => ?_))
      | (show Rch _ _ _ _ _ 0 _ _ _; refine Rch.blk' (Rn_mono mt _ _) bl_X3_isDone_0 (i_aload_n rfl (i_iload_n rfl (i_iconst k_1 (i_iadd (t_cv2 (Rn_mono mt _ _) 7 rfl (Nat.le_of_ble_eq_true rfl) ?_))))))
      | (show Rch _ _ _ _ _ 7 _ _ _; refine Rch.blk' (Rn_mono mt _ _) bl_X3_isDone_7 (i_istore3 trivial (i_aload_n rfl (i_iload_n rfl (i_iconst k_2 (i_iadd (t_cv2 (Rn_mono mt _ _) 15 rfl (Nat.le_of_ble_eq_true rfl) ?_)))))))
      | (show Rch _ _ _ _ _ 15 _ _ _; refine Rch.blk' (Rn_mono mt _ _) bl_X3_isDone_15 (i_istore4 trivial (i_aload_n rfl (i_iload_n rfl (i_iconst k_3 (i_iadd (t_cv2 (Rn_mono mt _ _) 24 rfl (Nat.le_of_ble_eq_true rfl) ?_)))))))
      | (show Rch _ _ _ _ _ 24 _ _ _; refine Rch.blk' (Rn_mono mt _ _) bl_X3_isDone_24 (i_istore5 trivial (i_aload_n rfl (i_iload_n rfl (t_cv2 (Rn_mono mt _ _) 31 rfl (Nat.le_of_ble_eq_true rfl) ?_)))))
      | (show Rch _ _ _ _ _ 31 _ _ _; refine Rch.blk' (Rn_mono mt _ _) bl_X3_isDone_31 (t_lsw 170 rfl (lk_c 155 rfl rfl (by first | with_reducible exact hI_R | with_reducible exact lcm_R | with_reducible exact band_R | with_reducible exact bor_R | with_reducible exact bshr_R | with_reducible exact bshl_R | omega) (by omega) (fun hc => ?_) (lk_c 142 rfl rfl (by first | with_reducible exact hI_R | with_reducible exact lcm_R | with_reducible exact band_R | with_reducible exact bor_R | with_reducible exact bshr_R | with_reducible exact bshl_R | omega) (by omega) (fun hc => ?_) (lk_c 108 rfl rfl (by first | with_reducible exact hI_R | with_reducible exact lcm_R | with_reducible exact band_R | with_reducible exact bor_R | with_reducible exact bshr_R | with_reducible exact bshl_R | omega) (by omega) (fun hc => ?_) (lk_c 88 rfl rfl (by first | with_reducible exact hI_R | with_reducible exact lcm_R | with_reducible exact band_R | with_reducible exact bor_R | with_reducible exact bshr_R | with_reducible exact bshl_R | omega) (by omega) (fun hc => ?_) (lk_c 133 rfl rfl (by first | with_reducible exact hI_R | with_reducible exact lcm_R | with_reducible exact band_R | with_reducible exact bor_R | with_reducible exact bshr_R | with_reducible exact bshl_R | omega) (by omega) (fun hc => ?_) (lk_c 124 rfl rfl (by first | with_reducible exact hI_R | with_reducible exact lcm_R | with_reducible exact band_R | with_reducible exact bor_R | with_reducible exact bshr_R | with_reducible exact bshl_R | omega) (by omega) (fun hc => ?_) lk_n)))))) (fun hc => ?_)) <;> (first | (exfalso; omega) | skip))
      | (show Rch _ _ _ _ _ 88 _ _ _; refine Rch.blk' (Rn_mono mt _ _) bl_X3_isDone_88 (i_aload_n rfl (i_gfs rfl (i_iload_n rfl (i_iload rfl (i_iload rfl (i_aload_n rfl (i_iload_n rfl (i_iconst k_4 (i_iadd (t_cv2 (Rn_mono mt _ _) 104 rfl (Nat.le_of_ble_eq_true rfl) ?_)))))))))))
      | (show Rch _ _ _ _ _ 104 _ _ _; refine Rch.blk' (Rn_mono mt _ _) bl_X3_isDone_104 (t_cv5 (Rn_mono mt _ _) 107 rfl (Nat.le_of_ble_eq_true rfl) ?_))
      | (show Rch _ _ _ _ _ 107 _ _ _; refine Rch.blk' (Rn_mono mt _ _) bl_X3_isDone_107 (t_zret (by omega) ?_))
      | (show Rch _ _ _ _ _ 108 _ _ _; refine Rch.blk' (Rn_mono mt _ _) bl_X3_isDone_108 (i_aload_n rfl (i_gfs rfl (i_iload_n rfl (i_aload_n rfl (i_iload_n rfl (i_iconst k_2 (i_iadd (t_cv2 (Rn_mono mt _ _) 120 rfl (Nat.le_of_ble_eq_true rfl) ?_)))))))))
      | (show Rch _ _ _ _ _ 120 _ _ _; refine Rch.blk' (Rn_mono mt _ _) bl_X3_isDone_120 (t_cv3 (Rn_mono mt _ _) 123 rfl (Nat.le_of_ble_eq_true rfl) ?_))
      | (show Rch _ _ _ _ _ 123 _ _ _; refine Rch.blk' (Rn_mono mt _ _) bl_X3_isDone_123 (t_zret (by omega) ?_))
      | (show Rch _ _ _ _ _ 124 _ _ _; refine Rch.blk' (Rn_mono mt _ _) bl_X3_isDone_124 (i_aload_n rfl (i_gfs rfl (i_iload_n rfl (t_cv2 (Rn_mono mt _ _) 132 rfl (Nat.le_of_ble_eq_true rfl) ?_)))))
      | (show Rch _ _ _ _ _ 132 _ _ _; refine Rch.blk' (Rn_mono mt _ _) bl_X3_isDone_132 (t_zret (by omega) ?_))
      | (show Rch _ _ _ _ _ 133 _ _ _; refine Rch.blk' (Rn_mono mt _ _) bl_X3_isDone_133 (i_aload_n rfl (i_gfs rfl (i_iload_n rfl (t_cv2 (Rn_mono mt _ _) 141 rfl (Nat.le_of_ble_eq_true rfl) ?_)))))
      | (show Rch _ _ _ _ _ 141 _ _ _; refine Rch.blk' (Rn_mono mt _ _) bl_X3_isDone_141 (t_zret (by omega) ?_))
      | (show Rch _ _ _ _ _ 142 _ _ _; refine Rch.blk' (Rn_mono mt _ _) bl_X3_isDone_142 (i_aload_n rfl (i_gfs rfl (i_iload_n rfl (i_iload rfl (i_iload rfl (t_cv4 (Rn_mono mt _ _) 154 rfl (Nat.le_of_ble_eq_true rfl) ?_)))))))
      | (show Rch _ _ _ _ _ 154 _ _ _; refine Rch.blk' (Rn_mono mt _ _) bl_X3_isDone_154 (t_zret (by omega) ?_))
      | (show Rch _ _ _ _ _ 155 _ _ _; refine Rch.blk' (Rn_mono mt _ _) bl_X3_isDone_155 (i_aload_n rfl (i_gfs rfl (i_aload_n rfl (i_iload_n rfl (i_iconst k_1 (i_iadd (t_cv2 (Rn_mono mt _ _) 166 rfl (Nat.le_of_ble_eq_true rfl) ?_))))))))
      | (show Rch _ _ _ _ _ 166 _ _ _; refine Rch.blk' (Rn_mono mt _ _) bl_X3_isDone_166 (t_cv2 (Rn_mono mt _ _) 169 rfl (Nat.le_of_ble_eq_true rfl) ?_))
      | (show Rch _ _ _ _ _ 169 _ _ _; refine Rch.blk' (Rn_mono mt _ _) bl_X3_isDone_169 (t_zret (by omega) ?_))
      | (show Rch _ _ _ _ _ 170 _ _ _; refine Rch.blk' (Rn_mono mt _ _) bl_X3_isDone_170 (i_iconst k_0 (t_zret (by omega) ?_))))
  · have eA : oA (el S z) i = el S z (i + 1) - 48 := if_neg (by omega)
    have eB : oB (el S z) i = el S z (i + 2) - 48 := if_neg (by omega)
    have eE : oE (el S z) i = el S z (i + 3) - 48 := rfl
    have kA : ∀ (a b e : Int) (h' : Mem), a = oA (el S z) i → b = oB (el S z) i → e = oE (el S z) i → a < nn V → b < 8 → RC h' 2 (stk V a b e) → FrC h h' 2 → Q (some (ai (I 1))) h' := fun a b e h' q1 q2 q3 c1 c2 c6 c7 => h1 ⟨fun w => by omega, fun w => by omega, fun w => by omega, fun w => by omega, fun _ => by rw [← q1, ← q2]; exact ⟨c1, c2⟩, fun w => by omega⟩ h' (by
      have : vTx (el S z) V i = stk V (oA (el S z) i) (oB (el S z) i) (oE (el S z) i) := (if_neg (by omega)).trans ((if_neg (by omega)).trans ((if_neg (by omega)).trans ((if_neg (by omega)).trans (if_pos hl))))
      rw [this, ← q1, ← q2, ← q3]; exact c6) c7
    have kB : ∀ (a b e : Int), a = oA (el S z) i → b = oB (el S z) i → e = oE (el S z) i → ¬ ((0 ≤ a ∧ a < nn V) ∧ (0 ≤ b ∧ b < 8) ∧ (0 ≤ e ∧ e < 10)) → Q (some (ai (I 0))) h := fun a b e q1 q2 q3 c => h0 (fun w => c (by
      have := w.2.2.2.2.1 hl
      rw [← q1, ← q2] at this
      rw [← q1, ← q2, ← q3] at hR
      exact ⟨⟨hR.1, this.1⟩, ⟨(hR.2.2.2.2.1 hl).1.1, this.2⟩, (hR.2.2.2.2.1 hl).2⟩))
    clear h1 h0
    refine Rch.blk' (Rn_mono mt _ _) bl_X3_isDone_0 (i_aload_n rfl (i_iload_n rfl (i_iconst k_1 (i_iadd (t_cv2 (Rn_mono mt _ _) 7 rfl (Nat.le_of_ble_eq_true rfl) ?_)))))
    refine dA (by omega) (by omega) (fun v1 _ _ e1 => ?_)
    refine Rch.blk' (Rn_mono mt _ _) bl_X3_isDone_7 (i_istore3 trivial (i_aload_n rfl (i_iload_n rfl (i_iconst k_2 (i_iadd (t_cv2 (Rn_mono mt _ _) 15 rfl (Nat.le_of_ble_eq_true rfl) ?_))))))
    refine dA (by omega) (by omega) (fun v2 _ _ e2 => ?_)
    refine Rch.blk' (Rn_mono mt _ _) bl_X3_isDone_15 (i_istore4 trivial (i_aload_n rfl (i_iload_n rfl (i_iconst k_3 (i_iadd (t_cv2 (Rn_mono mt _ _) 24 rfl (Nat.le_of_ble_eq_true rfl) ?_))))))
    refine dA (by omega) (by omega) (fun v3 _ _ e3 => ?_)
    refine Rch.blk' (Rn_mono mt _ _) bl_X3_isDone_24 (i_istore5 trivial (i_aload_n rfl (i_iload_n rfl (t_cv2 (Rn_mono mt _ _) 31 rfl (Nat.le_of_ble_eq_true rfl) ?_))))
    refine c_X2_elementAt hS hK ⟨by omega, by omega⟩ z0 z1 hh (fun _ _ _ => ?_) (fun w => absurd ⟨i0, by omega⟩ w)
    clear dA
    repeat' (first
      | exact (kN (by assumption) (by assumption)).elim
      | ((with_reducible refine kA _ _ _ _ ?_ ?_ ?_ ?_ ?_ (by assumption) (by assumption)) <;> omega)
      | ((with_reducible refine kB v1 v2 v3 ?_ ?_ ?_ ?_) <;> omega)
      | (show Rn _ _ _ 43 _ _ _; refine c_X2_elementAt (by assumption) (by assumption) (by first | omega | exact hI_R) (by assumption) (by assumption) (by assumption) (fun _ _ _ => ?_) (fun _ => ?_))
      | (show Rn _ _ _ 10 _ _ _; refine c_X0_addPiece (by assumption) (by assumption) (by first | omega | exact hI_R) (by first | omega | exact hI_R) (by first | omega | exact hI_R) (by first | omega | exact hI_R) (fun _ _ _ _ _ _ _ _ _ _ => ?_) (fun _ => ?_))
      | (show Rn _ _ _ 13 _ _ _; refine c_X0_movePiece (by assumption) (by assumption) (by first | omega | exact hI_R) (by first | omega | exact hI_R) (fun _ _ _ _ _ _ _ _ => ?_) (fun _ => ?_))
      | (show Rn _ _ _ 12 _ _ _; refine c_X0_takeOff (by assumption) (by assumption) (by first | omega | exact hI_R) (fun _ _ _ _ _ _ => ?_) (fun _ => ?_))
      | (show Rn _ _ _ 15 _ _ _; refine c_X0_giveTurn (by assumption) (by first | omega | exact hI_R) (fun _ _ _ _ => ?_) (fun _ => ?_))
      | (show Rn _ _ _ 14 _ _ _; refine c_X0_turnInto (by assumption) (by assumption) (by first | omega | exact hI_R) (by first | omega | exact hI_R) (by first | omega | exact hI_R) (fun _ _ _ _ _ _ _ => ?_) (fun _ => ?_))
      | (show Rch _ _ _ _ _ 0 _ _ _; refine Rch.blk' (Rn_mono mt _ _) bl_X3_isDone_0 (i_aload_n rfl (i_iload_n rfl (i_iconst k_1 (i_iadd (t_cv2 (Rn_mono mt _ _) 7 rfl (Nat.le_of_ble_eq_true rfl) ?_))))))
      | (show Rch _ _ _ _ _ 7 _ _ _; refine Rch.blk' (Rn_mono mt _ _) bl_X3_isDone_7 (i_istore3 trivial (i_aload_n rfl (i_iload_n rfl (i_iconst k_2 (i_iadd (t_cv2 (Rn_mono mt _ _) 15 rfl (Nat.le_of_ble_eq_true rfl) ?_)))))))
      | (show Rch _ _ _ _ _ 15 _ _ _; refine Rch.blk' (Rn_mono mt _ _) bl_X3_isDone_15 (i_istore4 trivial (i_aload_n rfl (i_iload_n rfl (i_iconst k_3 (i_iadd (t_cv2 (Rn_mono mt _ _) 24 rfl (Nat.le_of_ble_eq_true rfl) ?_)))))))
      | (show Rch _ _ _ _ _ 24 _ _ _; refine Rch.blk' (Rn_mono mt _ _) bl_X3_isDone_24 (i_istore5 trivial (i_aload_n rfl (i_iload_n rfl (t_cv2 (Rn_mono mt _ _) 31 rfl (Nat.le_of_ble_eq_true rfl) ?_)))))
      | (show Rch _ _ _ _ _ 31 _ _ _; refine Rch.blk' (Rn_mono mt _ _) bl_X3_isDone_31 (t_lsw 170 rfl (lk_c 155 rfl rfl (by first | with_reducible exact hI_R | with_reducible exact lcm_R | with_reducible exact band_R | with_reducible exact bor_R | with_reducible exact bshr_R | with_reducible exact bshl_R | omega) (by omega) (fun hc => ?_) (lk_c 142 rfl rfl (by first | with_reducible exact hI_R | with_reducible exact lcm_R | with_reducible exact band_R | with_reducible exact bor_R | with_reducible exact bshr_R | with_reducible exact bshl_R | omega) (by omega) (fun hc => ?_) (lk_c 108 rfl rfl (by first | with_reducible exact hI_R | with_reducible exact lcm_R | with_reducible exact band_R | with_reducible exact bor_R | with_reducible exact bshr_R | with_reducible exact bshl_R | omega) (by omega) (fun hc => ?_) (lk_c 88 rfl rfl (by first | with_reducible exact hI_R | with_reducible exact lcm_R | with_reducible exact band_R | with_reducible exact bor_R | with_reducible exact bshr_R | with_reducible exact bshl_R | omega) (by omega) (fun hc => ?_) (lk_c 133 rfl rfl (by first | with_reducible exact hI_R | with_reducible exact lcm_R | with_reducible exact band_R | with_reducible exact bor_R | with_reducible exact bshr_R | with_reducible exact bshl_R | omega) (by omega) (fun hc => ?_) (lk_c 124 rfl rfl (by first | with_reducible exact hI_R | with_reducible exact lcm_R | with_reducible exact band_R | with_reducible exact bor_R | with_reducible exact bshr_R | with_reducible exact bshl_R | omega) (by omega) (fun hc => ?_) lk_n)))))) (fun hc => ?_)) <;> (first | (exfalso; omega) | skip))
      | (show Rch _ _ _ _ _ 88 _ _ _; refine Rch.blk' (Rn_mono mt _ _) bl_X3_isDone_88 (i_aload_n rfl (i_gfs rfl (i_iload_n rfl (i_iload rfl (i_iload rfl (i_aload_n rfl (i_iload_n rfl (i_iconst k_4 (i_iadd (t_cv2 (Rn_mono mt _ _) 104 rfl (Nat.le_of_ble_eq_true rfl) ?_)))))))))))
      | (show Rch _ _ _ _ _ 104 _ _ _; refine Rch.blk' (Rn_mono mt _ _) bl_X3_isDone_104 (t_cv5 (Rn_mono mt _ _) 107 rfl (Nat.le_of_ble_eq_true rfl) ?_))
      | (show Rch _ _ _ _ _ 107 _ _ _; refine Rch.blk' (Rn_mono mt _ _) bl_X3_isDone_107 (t_zret (by omega) ?_))
      | (show Rch _ _ _ _ _ 108 _ _ _; refine Rch.blk' (Rn_mono mt _ _) bl_X3_isDone_108 (i_aload_n rfl (i_gfs rfl (i_iload_n rfl (i_aload_n rfl (i_iload_n rfl (i_iconst k_2 (i_iadd (t_cv2 (Rn_mono mt _ _) 120 rfl (Nat.le_of_ble_eq_true rfl) ?_)))))))))
      | (show Rch _ _ _ _ _ 120 _ _ _; refine Rch.blk' (Rn_mono mt _ _) bl_X3_isDone_120 (t_cv3 (Rn_mono mt _ _) 123 rfl (Nat.le_of_ble_eq_true rfl) ?_))
      | (show Rch _ _ _ _ _ 123 _ _ _; refine Rch.blk' (Rn_mono mt _ _) bl_X3_isDone_123 (t_zret (by omega) ?_))
      | (show Rch _ _ _ _ _ 124 _ _ _; refine Rch.blk' (Rn_mono mt _ _) bl_X3_isDone_124 (i_aload_n rfl (i_gfs rfl (i_iload_n rfl (t_cv2 (Rn_mono mt _ _) 132 rfl (Nat.le_of_ble_eq_true rfl) ?_)))))
      | (show Rch _ _ _ _ _ 132 _ _ _; refine Rch.blk' (Rn_mono mt _ _) bl_X3_isDone_132 (t_zret (by omega) ?_))
      | (show Rch _ _ _ _ _ 133 _ _ _; refine Rch.blk' (Rn_mono mt _ _) bl_X3_isDone_133 (i_aload_n rfl (i_gfs rfl (i_iload_n rfl (t_cv2 (Rn_mono mt _ _) 141 rfl (Nat.le_of_ble_eq_true rfl) ?_)))))
      | (show Rch _ _ _ _ _ 141 _ _ _; refine Rch.blk' (Rn_mono mt _ _) bl_X3_isDone_141 (t_zret (by omega) ?_))
      | (show Rch _ _ _ _ _ 142 _ _ _; refine Rch.blk' (Rn_mono mt _ _) bl_X3_isDone_142 (i_aload_n rfl (i_gfs rfl (i_iload_n rfl (i_iload rfl (i_iload rfl (t_cv4 (Rn_mono mt _ _) 154 rfl (Nat.le_of_ble_eq_true rfl) ?_)))))))
      | (show Rch _ _ _ _ _ 154 _ _ _; refine Rch.blk' (Rn_mono mt _ _) bl_X3_isDone_154 (t_zret (by omega) ?_))
      | (show Rch _ _ _ _ _ 155 _ _ _; refine Rch.blk' (Rn_mono mt _ _) bl_X3_isDone_155 (i_aload_n rfl (i_gfs rfl (i_aload_n rfl (i_iload_n rfl (i_iconst k_1 (i_iadd (t_cv2 (Rn_mono mt _ _) 166 rfl (Nat.le_of_ble_eq_true rfl) ?_))))))))
      | (show Rch _ _ _ _ _ 166 _ _ _; refine Rch.blk' (Rn_mono mt _ _) bl_X3_isDone_166 (t_cv2 (Rn_mono mt _ _) 169 rfl (Nat.le_of_ble_eq_true rfl) ?_))
      | (show Rch _ _ _ _ _ 169 _ _ _; refine Rch.blk' (Rn_mono mt _ _) bl_X3_isDone_169 (t_zret (by omega) ?_))
      | (show Rch _ _ _ _ _ 170 _ _ _; refine Rch.blk' (Rn_mono mt _ _) bl_X3_isDone_170 (i_iconst k_0 (t_zret (by omega) ?_))))
  · have eA : oA (el S z) i = 10 * (el S z (i + 1) - 48) + (el S z (i + 1 + 1) - 48) := if_pos hl
    have kA : ∀ (a : Int) (h' : Mem), a = oA (el S z) i → 1 ≤ a → a ≤ 60 → dy V + a ≤ 999 → RC h' 2 (DN V no0 a) → FrC h h' 2 → Q (some (ai (I 1))) h' := fun a h' q1 c1 c2 c3 c6 c7 => h1 ⟨fun w => by omega, fun w => by omega, fun w => by omega, fun w => by omega, fun w => by omega, fun _ => by rw [← q1]; exact ⟨⟨c1, c2⟩, c3⟩⟩ h' (by
      have : vTx (el S z) V i = DN V no0 (oA (el S z) i) := (if_neg (by omega)).trans ((if_neg (by omega)).trans ((if_neg (by omega)).trans ((if_neg (by omega)).trans (if_neg (by omega)))))
      rw [this, ← q1]; exact c6) c7
    have kB : ∀ (a : Int), a = oA (el S z) i → ¬ (1 ≤ a ∧ a ≤ 60 ∧ dy V + a ≤ 999) → Q (some (ai (I 0))) h := fun a q1 c => h0 (fun w => c (by
      have := w.2.2.2.2.2 hl
      rw [← q1] at this
      exact ⟨this.1.1, this.1.2, this.2⟩))
    clear h1 h0
    refine Rch.blk' (Rn_mono mt _ _) bl_X3_isDone_0 (i_aload_n rfl (i_iload_n rfl (i_iconst k_1 (i_iadd (t_cv2 (Rn_mono mt _ _) 7 rfl (Nat.le_of_ble_eq_true rfl) ?_)))))
    refine dA (by omega) (by omega) (fun v1 _ _ e1 => ?_)
    refine Rch.blk' (Rn_mono mt _ _) bl_X3_isDone_7 (i_istore3 trivial (i_aload_n rfl (i_iload_n rfl (i_iconst k_2 (i_iadd (t_cv2 (Rn_mono mt _ _) 15 rfl (Nat.le_of_ble_eq_true rfl) ?_))))))
    refine dA (by omega) (by omega) (fun v2 _ _ e2 => ?_)
    refine Rch.blk' (Rn_mono mt _ _) bl_X3_isDone_15 (i_istore4 trivial (i_aload_n rfl (i_iload_n rfl (i_iconst k_3 (i_iadd (t_cv2 (Rn_mono mt _ _) 24 rfl (Nat.le_of_ble_eq_true rfl) ?_))))))
    refine dA (by omega) (by omega) (fun v3 _ _ e3 => ?_)
    refine Rch.blk' (Rn_mono mt _ _) bl_X3_isDone_24 (i_istore5 trivial (i_aload_n rfl (i_iload_n rfl (t_cv2 (Rn_mono mt _ _) 31 rfl (Nat.le_of_ble_eq_true rfl) ?_))))
    refine c_X2_elementAt hS hK ⟨by omega, by omega⟩ z0 z1 hh (fun _ _ _ => ?_) (fun w => absurd ⟨i0, by omega⟩ w)
    clear dA
    repeat' (first
      | exact (kN (by assumption) (by assumption)).elim
      | (show Rn _ _ _ 47 _ _ _; refine c_X2_twoDigitsAt hS hK z0 z1 hh (by omega) (by omega) ?_)
      | (show Rn _ _ _ 30 _ _ _; refine c_X0_passWithinLast hV hO ⟨by omega, by omega⟩ hd (fun _ _ _ _ _ _ => ?_) (fun _ => ?_))
      | ((with_reducible refine kA _ _ ?_ ?_ ?_ ?_ (by assumption) (by assumption)) <;> omega)
      | ((with_reducible refine kB (10 * (el S z (i + 1) - 48) + (el S z (i + 1 + 1) - 48)) ?_ ?_) <;> omega)
      | (show Rn _ _ _ 43 _ _ _; refine c_X2_elementAt (by assumption) (by assumption) (by first | omega | exact hI_R) (by assumption) (by assumption) (by assumption) (fun _ _ _ => ?_) (fun _ => ?_))
      | (show Rn _ _ _ 10 _ _ _; refine c_X0_addPiece (by assumption) (by assumption) (by first | omega | exact hI_R) (by first | omega | exact hI_R) (by first | omega | exact hI_R) (by first | omega | exact hI_R) (fun _ _ _ _ _ _ _ _ _ _ => ?_) (fun _ => ?_))
      | (show Rn _ _ _ 13 _ _ _; refine c_X0_movePiece (by assumption) (by assumption) (by first | omega | exact hI_R) (by first | omega | exact hI_R) (fun _ _ _ _ _ _ _ _ => ?_) (fun _ => ?_))
      | (show Rn _ _ _ 12 _ _ _; refine c_X0_takeOff (by assumption) (by assumption) (by first | omega | exact hI_R) (fun _ _ _ _ _ _ => ?_) (fun _ => ?_))
      | (show Rn _ _ _ 15 _ _ _; refine c_X0_giveTurn (by assumption) (by first | omega | exact hI_R) (fun _ _ _ _ => ?_) (fun _ => ?_))
      | (show Rn _ _ _ 14 _ _ _; refine c_X0_turnInto (by assumption) (by assumption) (by first | omega | exact hI_R) (by first | omega | exact hI_R) (by first | omega | exact hI_R) (fun _ _ _ _ _ _ _ => ?_) (fun _ => ?_))
      | (show Rch _ _ _ _ _ 0 _ _ _; refine Rch.blk' (Rn_mono mt _ _) bl_X3_isDone_0 (i_aload_n rfl (i_iload_n rfl (i_iconst k_1 (i_iadd (t_cv2 (Rn_mono mt _ _) 7 rfl (Nat.le_of_ble_eq_true rfl) ?_))))))
      | (show Rch _ _ _ _ _ 7 _ _ _; refine Rch.blk' (Rn_mono mt _ _) bl_X3_isDone_7 (i_istore3 trivial (i_aload_n rfl (i_iload_n rfl (i_iconst k_2 (i_iadd (t_cv2 (Rn_mono mt _ _) 15 rfl (Nat.le_of_ble_eq_true rfl) ?_)))))))
      | (show Rch _ _ _ _ _ 15 _ _ _; refine Rch.blk' (Rn_mono mt _ _) bl_X3_isDone_15 (i_istore4 trivial (i_aload_n rfl (i_iload_n rfl (i_iconst k_3 (i_iadd (t_cv2 (Rn_mono mt _ _) 24 rfl (Nat.le_of_ble_eq_true rfl) ?_)))))))
      | (show Rch _ _ _ _ _ 24 _ _ _; refine Rch.blk' (Rn_mono mt _ _) bl_X3_isDone_24 (i_istore5 trivial (i_aload_n rfl (i_iload_n rfl (t_cv2 (Rn_mono mt _ _) 31 rfl (Nat.le_of_ble_eq_true rfl) ?_)))))
      | (show Rch _ _ _ _ _ 31 _ _ _; refine Rch.blk' (Rn_mono mt _ _) bl_X3_isDone_31 (t_lsw 170 rfl (lk_c 155 rfl rfl (by first | with_reducible exact hI_R | with_reducible exact lcm_R | with_reducible exact band_R | with_reducible exact bor_R | with_reducible exact bshr_R | with_reducible exact bshl_R | omega) (by omega) (fun hc => ?_) (lk_c 142 rfl rfl (by first | with_reducible exact hI_R | with_reducible exact lcm_R | with_reducible exact band_R | with_reducible exact bor_R | with_reducible exact bshr_R | with_reducible exact bshl_R | omega) (by omega) (fun hc => ?_) (lk_c 108 rfl rfl (by first | with_reducible exact hI_R | with_reducible exact lcm_R | with_reducible exact band_R | with_reducible exact bor_R | with_reducible exact bshr_R | with_reducible exact bshl_R | omega) (by omega) (fun hc => ?_) (lk_c 88 rfl rfl (by first | with_reducible exact hI_R | with_reducible exact lcm_R | with_reducible exact band_R | with_reducible exact bor_R | with_reducible exact bshr_R | with_reducible exact bshl_R | omega) (by omega) (fun hc => ?_) (lk_c 133 rfl rfl (by first | with_reducible exact hI_R | with_reducible exact lcm_R | with_reducible exact band_R | with_reducible exact bor_R | with_reducible exact bshr_R | with_reducible exact bshl_R | omega) (by omega) (fun hc => ?_) (lk_c 124 rfl rfl (by first | with_reducible exact hI_R | with_reducible exact lcm_R | with_reducible exact band_R | with_reducible exact bor_R | with_reducible exact bshr_R | with_reducible exact bshl_R | omega) (by omega) (fun hc => ?_) lk_n)))))) (fun hc => ?_)) <;> (first | (exfalso; omega) | skip))
      | (show Rch _ _ _ _ _ 88 _ _ _; refine Rch.blk' (Rn_mono mt _ _) bl_X3_isDone_88 (i_aload_n rfl (i_gfs rfl (i_iload_n rfl (i_iload rfl (i_iload rfl (i_aload_n rfl (i_iload_n rfl (i_iconst k_4 (i_iadd (t_cv2 (Rn_mono mt _ _) 104 rfl (Nat.le_of_ble_eq_true rfl) ?_)))))))))))
      | (show Rch _ _ _ _ _ 104 _ _ _; refine Rch.blk' (Rn_mono mt _ _) bl_X3_isDone_104 (t_cv5 (Rn_mono mt _ _) 107 rfl (Nat.le_of_ble_eq_true rfl) ?_))
      | (show Rch _ _ _ _ _ 107 _ _ _; refine Rch.blk' (Rn_mono mt _ _) bl_X3_isDone_107 (t_zret (by omega) ?_))
      | (show Rch _ _ _ _ _ 108 _ _ _; refine Rch.blk' (Rn_mono mt _ _) bl_X3_isDone_108 (i_aload_n rfl (i_gfs rfl (i_iload_n rfl (i_aload_n rfl (i_iload_n rfl (i_iconst k_2 (i_iadd (t_cv2 (Rn_mono mt _ _) 120 rfl (Nat.le_of_ble_eq_true rfl) ?_)))))))))
      | (show Rch _ _ _ _ _ 120 _ _ _; refine Rch.blk' (Rn_mono mt _ _) bl_X3_isDone_120 (t_cv3 (Rn_mono mt _ _) 123 rfl (Nat.le_of_ble_eq_true rfl) ?_))
      | (show Rch _ _ _ _ _ 123 _ _ _; refine Rch.blk' (Rn_mono mt _ _) bl_X3_isDone_123 (t_zret (by omega) ?_))
      | (show Rch _ _ _ _ _ 124 _ _ _; refine Rch.blk' (Rn_mono mt _ _) bl_X3_isDone_124 (i_aload_n rfl (i_gfs rfl (i_iload_n rfl (t_cv2 (Rn_mono mt _ _) 132 rfl (Nat.le_of_ble_eq_true rfl) ?_)))))
      | (show Rch _ _ _ _ _ 132 _ _ _; refine Rch.blk' (Rn_mono mt _ _) bl_X3_isDone_132 (t_zret (by omega) ?_))
      | (show Rch _ _ _ _ _ 133 _ _ _; refine Rch.blk' (Rn_mono mt _ _) bl_X3_isDone_133 (i_aload_n rfl (i_gfs rfl (i_iload_n rfl (t_cv2 (Rn_mono mt _ _) 141 rfl (Nat.le_of_ble_eq_true rfl) ?_)))))
      | (show Rch _ _ _ _ _ 141 _ _ _; refine Rch.blk' (Rn_mono mt _ _) bl_X3_isDone_141 (t_zret (by omega) ?_))
      | (show Rch _ _ _ _ _ 142 _ _ _; refine Rch.blk' (Rn_mono mt _ _) bl_X3_isDone_142 (i_aload_n rfl (i_gfs rfl (i_iload_n rfl (i_iload rfl (i_iload rfl (t_cv4 (Rn_mono mt _ _) 154 rfl (Nat.le_of_ble_eq_true rfl) ?_)))))))
      | (show Rch _ _ _ _ _ 154 _ _ _; refine Rch.blk' (Rn_mono mt _ _) bl_X3_isDone_154 (t_zret (by omega) ?_))
      | (show Rch _ _ _ _ _ 155 _ _ _; refine Rch.blk' (Rn_mono mt _ _) bl_X3_isDone_155 (i_aload_n rfl (i_gfs rfl (i_aload_n rfl (i_iload_n rfl (i_iconst k_1 (i_iadd (t_cv2 (Rn_mono mt _ _) 166 rfl (Nat.le_of_ble_eq_true rfl) ?_))))))))
      | (show Rch _ _ _ _ _ 166 _ _ _; refine Rch.blk' (Rn_mono mt _ _) bl_X3_isDone_166 (t_cv2 (Rn_mono mt _ _) 169 rfl (Nat.le_of_ble_eq_true rfl) ?_))
      | (show Rch _ _ _ _ _ 169 _ _ _; refine Rch.blk' (Rn_mono mt _ _) bl_X3_isDone_169 (t_zret (by omega) ?_))
      | (show Rch _ _ _ _ _ 170 _ _ _; refine Rch.blk' (Rn_mono mt _ _) bl_X3_isDone_170 (i_iconst k_0 (t_zret (by omega) ?_))))
theorem c_X3_game (hG : RC h 0 G) (hO : OKB G) (hy : dy G ≤ 999) (hS : SC h S) (hK : OKS S) (hE : OKE S) {x : Int} (hx : inR x) (hq : ∀ v G' h', oGame G S x = (v, G') → RC h' 0 G' → (∀ t b k : Nat, ¬ ((t = 0 ∨ (4 ≤ t ∧ t ≤ 8)) ∧ (b = 0 ∨ b = 2)) → hI h' t b k = hI h t b k) → Q (some (ai (I v))) h') : Rn mt L (d + 8) 51 [ar 2 0, ai (I x)] h Q := by
  refine Rn.intro iX3_game rfl rfl ?_
  show Rch bX3_game _ _ _ _ 0 [some (ar 2 0), some (ai (I x)), none, none, none, none, none] [] _
  have e_s := fun a b => @SC.s _ _ x hS a b
  have k1 : ∀ u, u = rfu S x 2 → ¬ u = 0 → Q (some (ai (I u))) h := fun u e a => hq _ _ _ (by unfold oGame; rw [if_pos (by omega), e]) hG (fun _ _ _ _ => rfl)
  have k2 : ∀ u, u = -12 → rfu S x 2 = 0 → ¬ so S x = 0 → Q (some (ai (I u))) h := fun u e a c => hq _ _ _ (by unfold oGame; rw [if_neg (by omega), if_pos c, e]) hG (fun _ _ _ _ => rfl)
  have k3 : ∀ u, u = -1000 - wbS S x → rfu S x 2 = 0 → so S x = 0 → ¬ wbS S x = -4 → Q (some (ai (I u))) h := fun u e a c f => hq _ _ _ (by unfold oGame; rw [if_neg (by omega), if_neg (by omega), if_pos f, e]) hG (fun _ _ _ _ => rfl)
  have hW : -4 ≤ wbS S x ∧ (wbS S x ≤ sz S x ∨ wbS S x = -4 ∨ wbS S x = 0) := by
    unfold wbS
    split
    · omega
    · by_cases c : 0 ≤ sz S x
      · have := wb_R (c := el S x) c 101 0 (-4) (by omega)
        omega
      · have e : wb (el S x) (sz S x) 101 0 (-4) = if (-4 : Int) = -4 then -4 else sz S x := if_pos (by omega)
        rw [e, if_pos rfl]
        omega
  have key : (0 ≤ x ∧ x < 8) → ho S x = 2 → so S x = 0 → wbS S x = -4 → ∀ (f : Nat) (i k : Int) (V : Bd) (h' : Mem), 0 ≤ i → i ≤ sz S x → sz S x - i ≤ (f : Int) → WB (el S x) (sz S x) (-4) i (-4) → k + ns (el S x) (sz S x) f i = ns (el S x) (sz S x) 101 0 → rn (el S x) (sz S x) 101 G 0 = rn (el S x) (sz S x) f V i → OKB V → dy V ≤ 999 → RC h' 2 V → FrC h h' 2 → 0 ≤ k → k ≤ 101 - (f : Int) → RH L bX3_game (d + 7) Q 69 [some (ar 2 0), some (ai (I x)), some (ar 1 x.toNat), some (ai (I 0)), some (ai (I (-4))), some (ai (I k)), some (ai (I i))] h' := by
    rintro ⟨x0, x1⟩ hh hso hw
    have r0 : rfu S x 2 = 0 := by unfold rfu; rw [if_pos ⟨x0, x1⟩, if_neg (by omega), if_pos hh]
    have g := (hK x x0 x1).2.2 hh
    have hEx := hE x x0 x1 hh hso
    intro f
    induction f with
    | zero =>
      intro i k V h' i0 i1 hf hB hns hrn hOV hdV hR hF hk0 hk1
      have hS' : SC h' S := hS.fr (fun t b j ht => hF t b j (by omega))
      have e_z := hS'.z x0 x1 hh
      have hns : k + 0 = ns (el S x) (sz S x) 101 0 := hns
      have hrn : rn (el S x) (sz S x) 101 G 0 = (0, V) := hrn
      have kk : ∀ h2, RC h2 0 V → FrC h' h2 0 → Q (some (ai (I k))) h2 := fun h2 a b => hq k V h2 (by
        unfold oGame
        rw [if_neg (by omega), if_neg (by omega), if_neg (by omega), hrn, if_pos rfl, ← hns, Int.add_zero]) a (fun t b' j hn => by rw [b t b' j (by omega), hF t b' j (by omega)])
      clear hq k1 k2 k3
      refine Rch.blk' (Rn_mono mt _ _) bl_X3_game_69 (i_iload rfl (i_aload_n rfl (i_gfi rfl (t_ic_ge 118 78 rfl rfl (by first | with_reducible exact hI_R | with_reducible exact lcm_R | with_reducible exact band_R | with_reducible exact bor_R | with_reducible exact bshr_R | with_reducible exact bshl_R | omega | (simp (disch := omega) only [e_z]; omega)) (by first | with_reducible exact hI_R | with_reducible exact lcm_R | with_reducible exact band_R | with_reducible exact bor_R | with_reducible exact bshr_R | with_reducible exact bshl_R | omega | (simp (disch := omega) only [e_z]; omega)) (fun hc => ?_) (fun hc => ?_))))) <;> (try (simp (disch := omega) only [e_z] at hc ⊢)) <;> (first | (exfalso; omega) | skip)
      repeat' (first
        | (show Rn _ _ _ 0 _ _ _; refine c_X0_becomes hR hOV (by decide) (fun _ _ _ => ?_))
        | exact kk _ (by assumption) (by assumption)
        | (show Rn _ _ _ 48 _ _ _; refine c_X3_shelfAt (by first | omega | exact hI_R) (fun _ _ => ?_) (fun _ => ?_))
        | (show Rn _ _ _ 49 _ _ _; refine c_X3_refusalUnless_n ?_)
        | (show Rn _ _ _ 49 _ _ _; refine c_X3_refusalUnless_s (by assumption) (by omega) (by assumption) (by assumption) (fun _ => ?_) (fun _ _ => ?_) (fun _ _ => ?_))
        | (show Rch _ _ _ _ _ 0 _ _ _; refine Rch.blk' (Rn_mono mt _ _) bl_X3_game_0 (i_aload_n rfl (i_iload_n rfl (t_cv2 (Rn_mono mt _ _) 5 rfl (Nat.le_of_ble_eq_true rfl) ?_))))
        | (show Rch _ _ _ _ _ 5 _ _ _; refine Rch.blk' (Rn_mono mt _ _) bl_X3_game_5 (i_astore2 trivial (i_aload_n rfl (i_iconst k_2 (t_cs2 (Rn_mono mt _ _) 11 rfl (Nat.le_of_ble_eq_true rfl) ?_)))))
        | (show Rch _ _ _ _ _ 11 _ _ _; refine Rch.blk' (Rn_mono mt _ _) bl_X3_game_11 (i_istore3 trivial (i_aload_n rfl (t_ifnull_n 20 rfl ?_))))
        | (show Rch _ _ _ _ _ 11 _ _ _; refine Rch.blk' (Rn_mono mt _ _) bl_X3_game_11 (i_istore3 trivial (i_aload_n rfl (t_ifnull_s 16 rfl ?_))))
        | (show Rch _ _ _ _ _ 16 _ _ _; refine Rch.blk' (Rn_mono mt _ _) bl_X3_game_16 (i_iload_n rfl (t_if_eq 22 20 rfl rfl (by first | with_reducible exact hI_R | with_reducible exact lcm_R | with_reducible exact band_R | with_reducible exact bor_R | with_reducible exact bshr_R | with_reducible exact bshl_R | omega) (fun hc => ?_) (fun hc => ?_))) <;> (first | (exfalso; omega) | skip))
        | (show Rch _ _ _ _ _ 20 _ _ _; refine Rch.blk' (Rn_mono mt _ _) bl_X3_game_20 (i_iload_n rfl (t_iret ?_)))
        | (show Rch _ _ _ _ _ 22 _ _ _; refine Rch.blk' (Rn_mono mt _ _) bl_X3_game_22 (i_aload_n rfl (i_gfi rfl (t_if_eq 32 29 rfl rfl (by first | with_reducible exact hI_R | with_reducible exact lcm_R | with_reducible exact band_R | with_reducible exact bor_R | with_reducible exact bshr_R | with_reducible exact bshl_R | omega) (fun hc => ?_) (fun hc => ?_)))) <;> (first | (exfalso; omega) | skip))
        | (show Rch _ _ _ _ _ 29 _ _ _; refine Rch.blk' (Rn_mono mt _ _) bl_X3_game_29 (i_bipush k_m12 (t_iret ?_)))
        | (show Rch _ _ _ _ _ 32 _ _ _; refine Rch.blk' (Rn_mono mt _ _) bl_X3_game_32 (i_aload_n rfl (t_cv1 (Rn_mono mt _ _) 36 rfl (Nat.le_of_ble_eq_true rfl) ?_)))
        | (show Rch _ _ _ _ _ 36 _ _ _; refine Rch.blk' (Rn_mono mt _ _) bl_X3_game_36 (i_istore4 trivial (i_iload rfl (i_bipush k_m4 (t_ic_eq 52 45 rfl rfl (by first | with_reducible exact hI_R | with_reducible exact lcm_R | with_reducible exact band_R | with_reducible exact bor_R | with_reducible exact bshr_R | with_reducible exact bshl_R | omega) (by first | with_reducible exact hI_R | with_reducible exact lcm_R | with_reducible exact band_R | with_reducible exact bor_R | with_reducible exact bshr_R | with_reducible exact bshl_R | omega) (fun hc => ?_) (fun hc => ?_))))) <;> (first | (exfalso; omega) | skip))
        | (show Rch _ _ _ _ _ 45 _ _ _; refine Rch.blk' (Rn_mono mt _ _) bl_X3_game_45 (i_sipush k_m1000 (i_iload rfl (i_isub (t_iret ?_)))))
        | (show Rch _ _ _ _ _ 52 _ _ _; refine Rch.blk' (Rn_mono mt _ _) bl_X3_game_52 (i_iconst k_0 (i_istore5 trivial (i_aload_n rfl (i_gfs rfl (i_aload_n rfl (i_gfs rfl (t_cv2 (Rn_mono mt _ _) 66 rfl (Nat.le_of_ble_eq_true rfl) ?_))))))))
        | (show Rch _ _ _ _ _ 66 _ _ _; refine Rch.blk' (Rn_mono mt _ _) bl_X3_game_66 (i_iconst k_0 (i_istore6 trivial (t_none ?_))))
        | (show Rch _ _ _ _ _ 78 _ _ _; refine Rch.blk' (Rn_mono mt _ _) bl_X3_game_78 (i_aload_n rfl (i_aload_n rfl (i_iload rfl (t_cv3 (Rn_mono mt _ _) 85 rfl (Nat.le_of_ble_eq_true rfl) ?_)))))
        | (show Rch _ _ _ _ _ 85 _ _ _; refine Rch.blk' (Rn_mono mt _ _) bl_X3_game_85 (t_if_ne 95 88 rfl rfl (by first | with_reducible exact hI_R | with_reducible exact lcm_R | with_reducible exact band_R | with_reducible exact bor_R | with_reducible exact bshr_R | with_reducible exact bshl_R | omega) (fun hc => ?_) (fun hc => ?_)) <;> (first | (exfalso; omega) | skip))
        | (show Rch _ _ _ _ _ 88 _ _ _; refine Rch.blk' (Rn_mono mt _ _) bl_X3_game_88 (i_sipush k_m2000 (i_iload rfl (i_isub (t_iret ?_)))))
        | (show Rch _ _ _ _ _ 95 _ _ _; refine Rch.blk' (Rn_mono mt _ _) bl_X3_game_95 (i_iinc5 trivial k_1 (i_iload rfl (i_iconst k_2 (i_iconst k_0 (i_aload_n rfl (i_iload rfl (t_cv2 (Rn_mono mt _ _) 108 rfl (Nat.le_of_ble_eq_true rfl) ?_))))))))
        | (show Rch _ _ _ _ _ 108 _ _ _; refine Rch.blk' (Rn_mono mt _ _) bl_X3_game_108 (i_max (by first | with_reducible exact hI_R | with_reducible exact lcm_R | with_reducible exact band_R | with_reducible exact bor_R | with_reducible exact bshr_R | with_reducible exact bshl_R | omega) (by first | with_reducible exact hI_R | with_reducible exact lcm_R | with_reducible exact band_R | with_reducible exact bor_R | with_reducible exact bshr_R | with_reducible exact bshl_R | omega) (Nat.le_of_ble_eq_true rfl) (i_iadd (i_iadd (i_istore6 trivial (t_goto 69 rfl ?_))))))
        | (show Rch _ _ _ _ _ 118 _ _ _; refine Rch.blk' (Rn_mono mt _ _) bl_X3_game_118 (i_aload_n rfl (i_gfs rfl (i_aload_n rfl (i_gfs rfl (t_cv2 (Rn_mono mt _ _) 129 rfl (Nat.le_of_ble_eq_true rfl) ?_))))))
        | (show Rch _ _ _ _ _ 129 _ _ _; refine Rch.blk' (Rn_mono mt _ _) bl_X3_game_129 (i_iload rfl (t_iret ?_))))
    | succ f ih =>
      intro i k V h' i0 i1 hf hB hns hrn hOV hdV hR hF hk0 hk1
      have hS' : SC h' S := hS.fr (fun t b j ht => hF t b j (by omega))
      have e_z := hS'.z x0 x1 hh
      have hns : k + (if sz S x ≤ i then 0 else 1 + ns (el S x) (sz S x) f (i + (2 + nd (el S x i)))) = ns (el S x) (sz S x) 101 0 := hns
      have hrn : rn (el S x) (sz S x) 101 G 0 = if sz S x ≤ i then (0, V) else ifp (okTx (el S x) V i) (rn (el S x) (sz S x) f (vTx (el S x) V i) (i + (2 + nd (el S x i)))) (-2000 - i, V) := hrn
      by_cases hi : sz S x ≤ i
      · rw [if_pos hi] at hns hrn
        have kk : ∀ h2, RC h2 0 V → FrC h' h2 0 → Q (some (ai (I k))) h2 := fun h2 a b => hq k V h2 (by
          unfold oGame
          rw [if_neg (by omega), if_neg (by omega), if_neg (by omega), hrn, if_pos rfl, ← hns, Int.add_zero]) a (fun t b' j hn => by rw [b t b' j (by omega), hF t b' j (by omega)])
        clear hq k1 k2 k3 ih
        refine Rch.blk' (Rn_mono mt _ _) bl_X3_game_69 (i_iload rfl (i_aload_n rfl (i_gfi rfl (t_ic_ge 118 78 rfl rfl (by first | with_reducible exact hI_R | with_reducible exact lcm_R | with_reducible exact band_R | with_reducible exact bor_R | with_reducible exact bshr_R | with_reducible exact bshl_R | omega | (simp (disch := omega) only [e_z]; omega)) (by first | with_reducible exact hI_R | with_reducible exact lcm_R | with_reducible exact band_R | with_reducible exact bor_R | with_reducible exact bshr_R | with_reducible exact bshl_R | omega | (simp (disch := omega) only [e_z]; omega)) (fun hc => ?_) (fun hc => ?_))))) <;> (try (simp (disch := omega) only [e_z] at hc ⊢)) <;> (first | (exfalso; omega) | skip)
        repeat' (first
          | (show Rn _ _ _ 0 _ _ _; refine c_X0_becomes hR hOV (by decide) (fun _ _ _ => ?_))
          | exact kk _ (by assumption) (by assumption)
          | (show Rn _ _ _ 48 _ _ _; refine c_X3_shelfAt (by first | omega | exact hI_R) (fun _ _ => ?_) (fun _ => ?_))
          | (show Rn _ _ _ 49 _ _ _; refine c_X3_refusalUnless_n ?_)
          | (show Rn _ _ _ 49 _ _ _; refine c_X3_refusalUnless_s (by assumption) (by omega) (by assumption) (by assumption) (fun _ => ?_) (fun _ _ => ?_) (fun _ _ => ?_))
          | (show Rch _ _ _ _ _ 0 _ _ _; refine Rch.blk' (Rn_mono mt _ _) bl_X3_game_0 (i_aload_n rfl (i_iload_n rfl (t_cv2 (Rn_mono mt _ _) 5 rfl (Nat.le_of_ble_eq_true rfl) ?_))))
          | (show Rch _ _ _ _ _ 5 _ _ _; refine Rch.blk' (Rn_mono mt _ _) bl_X3_game_5 (i_astore2 trivial (i_aload_n rfl (i_iconst k_2 (t_cs2 (Rn_mono mt _ _) 11 rfl (Nat.le_of_ble_eq_true rfl) ?_)))))
          | (show Rch _ _ _ _ _ 11 _ _ _; refine Rch.blk' (Rn_mono mt _ _) bl_X3_game_11 (i_istore3 trivial (i_aload_n rfl (t_ifnull_n 20 rfl ?_))))
          | (show Rch _ _ _ _ _ 11 _ _ _; refine Rch.blk' (Rn_mono mt _ _) bl_X3_game_11 (i_istore3 trivial (i_aload_n rfl (t_ifnull_s 16 rfl ?_))))
          | (show Rch _ _ _ _ _ 16 _ _ _; refine Rch.blk' (Rn_mono mt _ _) bl_X3_game_16 (i_iload_n rfl (t_if_eq 22 20 rfl rfl (by first | with_reducible exact hI_R | with_reducible exact lcm_R | with_reducible exact band_R | with_reducible exact bor_R | with_reducible exact bshr_R | with_reducible exact bshl_R | omega) (fun hc => ?_) (fun hc => ?_))) <;> (first | (exfalso; omega) | skip))
          | (show Rch _ _ _ _ _ 20 _ _ _; refine Rch.blk' (Rn_mono mt _ _) bl_X3_game_20 (i_iload_n rfl (t_iret ?_)))
          | (show Rch _ _ _ _ _ 22 _ _ _; refine Rch.blk' (Rn_mono mt _ _) bl_X3_game_22 (i_aload_n rfl (i_gfi rfl (t_if_eq 32 29 rfl rfl (by first | with_reducible exact hI_R | with_reducible exact lcm_R | with_reducible exact band_R | with_reducible exact bor_R | with_reducible exact bshr_R | with_reducible exact bshl_R | omega) (fun hc => ?_) (fun hc => ?_)))) <;> (first | (exfalso; omega) | skip))
          | (show Rch _ _ _ _ _ 29 _ _ _; refine Rch.blk' (Rn_mono mt _ _) bl_X3_game_29 (i_bipush k_m12 (t_iret ?_)))
          | (show Rch _ _ _ _ _ 32 _ _ _; refine Rch.blk' (Rn_mono mt _ _) bl_X3_game_32 (i_aload_n rfl (t_cv1 (Rn_mono mt _ _) 36 rfl (Nat.le_of_ble_eq_true rfl) ?_)))
          | (show Rch _ _ _ _ _ 36 _ _ _; refine Rch.blk' (Rn_mono mt _ _) bl_X3_game_36 (i_istore4 trivial (i_iload rfl (i_bipush k_m4 (t_ic_eq 52 45 rfl rfl (by first | with_reducible exact hI_R | with_reducible exact lcm_R | with_reducible exact band_R | with_reducible exact bor_R | with_reducible exact bshr_R | with_reducible exact bshl_R | omega) (by first | with_reducible exact hI_R | with_reducible exact lcm_R | with_reducible exact band_R | with_reducible exact bor_R | with_reducible exact bshr_R | with_reducible exact bshl_R | omega) (fun hc => ?_) (fun hc => ?_))))) <;> (first | (exfalso; omega) | skip))
          | (show Rch _ _ _ _ _ 45 _ _ _; refine Rch.blk' (Rn_mono mt _ _) bl_X3_game_45 (i_sipush k_m1000 (i_iload rfl (i_isub (t_iret ?_)))))
          | (show Rch _ _ _ _ _ 52 _ _ _; refine Rch.blk' (Rn_mono mt _ _) bl_X3_game_52 (i_iconst k_0 (i_istore5 trivial (i_aload_n rfl (i_gfs rfl (i_aload_n rfl (i_gfs rfl (t_cv2 (Rn_mono mt _ _) 66 rfl (Nat.le_of_ble_eq_true rfl) ?_))))))))
          | (show Rch _ _ _ _ _ 66 _ _ _; refine Rch.blk' (Rn_mono mt _ _) bl_X3_game_66 (i_iconst k_0 (i_istore6 trivial (t_none ?_))))
          | (show Rch _ _ _ _ _ 78 _ _ _; refine Rch.blk' (Rn_mono mt _ _) bl_X3_game_78 (i_aload_n rfl (i_aload_n rfl (i_iload rfl (t_cv3 (Rn_mono mt _ _) 85 rfl (Nat.le_of_ble_eq_true rfl) ?_)))))
          | (show Rch _ _ _ _ _ 85 _ _ _; refine Rch.blk' (Rn_mono mt _ _) bl_X3_game_85 (t_if_ne 95 88 rfl rfl (by first | with_reducible exact hI_R | with_reducible exact lcm_R | with_reducible exact band_R | with_reducible exact bor_R | with_reducible exact bshr_R | with_reducible exact bshl_R | omega) (fun hc => ?_) (fun hc => ?_)) <;> (first | (exfalso; omega) | skip))
          | (show Rch _ _ _ _ _ 88 _ _ _; refine Rch.blk' (Rn_mono mt _ _) bl_X3_game_88 (i_sipush k_m2000 (i_iload rfl (i_isub (t_iret ?_)))))
          | (show Rch _ _ _ _ _ 95 _ _ _; refine Rch.blk' (Rn_mono mt _ _) bl_X3_game_95 (i_iinc5 trivial k_1 (i_iload rfl (i_iconst k_2 (i_iconst k_0 (i_aload_n rfl (i_iload rfl (t_cv2 (Rn_mono mt _ _) 108 rfl (Nat.le_of_ble_eq_true rfl) ?_))))))))
          | (show Rch _ _ _ _ _ 108 _ _ _; refine Rch.blk' (Rn_mono mt _ _) bl_X3_game_108 (i_max (by first | with_reducible exact hI_R | with_reducible exact lcm_R | with_reducible exact band_R | with_reducible exact bor_R | with_reducible exact bshr_R | with_reducible exact bshl_R | omega) (by first | with_reducible exact hI_R | with_reducible exact lcm_R | with_reducible exact band_R | with_reducible exact bor_R | with_reducible exact bshr_R | with_reducible exact bshl_R | omega) (Nat.le_of_ble_eq_true rfl) (i_iadd (i_iadd (i_istore6 trivial (t_goto 69 rfl ?_))))))
          | (show Rch _ _ _ _ _ 118 _ _ _; refine Rch.blk' (Rn_mono mt _ _) bl_X3_game_118 (i_aload_n rfl (i_gfs rfl (i_aload_n rfl (i_gfs rfl (t_cv2 (Rn_mono mt _ _) 129 rfl (Nat.le_of_ble_eq_true rfl) ?_))))))
          | (show Rch _ _ _ _ _ 129 _ _ _; refine Rch.blk' (Rn_mono mt _ _) bl_X3_game_129 (i_iload rfl (t_iret ?_))))
      · rw [if_neg hi] at hns hrn
        obtain ⟨s1, s2, s3, s4⟩ := WB_st (by omega) i0 (by omega) hB
        have hst : stG (el S x) (sz S x) i := ⟨s1, s2, s3⟩
        have g_nd := @nd_R (el S x i)
        refine Rch.blk' (Rn_mono mt _ _) bl_X3_game_69 (i_iload rfl (i_aload_n rfl (i_gfi rfl (t_ic_ge 118 78 rfl rfl (by first | with_reducible exact hI_R | with_reducible exact lcm_R | with_reducible exact band_R | with_reducible exact bor_R | with_reducible exact bshr_R | with_reducible exact bshl_R | omega | (simp (disch := omega) only [e_z]; omega)) (by first | with_reducible exact hI_R | with_reducible exact lcm_R | with_reducible exact band_R | with_reducible exact bor_R | with_reducible exact bshr_R | with_reducible exact bshl_R | omega | (simp (disch := omega) only [e_z]; omega)) (fun hc => ?_) (fun hc => ?_))))) <;> (try (simp (disch := omega) only [e_z] at hc ⊢)) <;> (first | (exfalso; omega) | skip)
        refine Rch.blk' (Rn_mono mt _ _) bl_X3_game_78 (i_aload_n rfl (i_aload_n rfl (i_iload rfl (t_cv3 (Rn_mono mt _ _) 85 rfl (Nat.le_of_ble_eq_true rfl) ?_))))
        refine c_X3_isDone hR hOV hdV hS' hK x0 x1 hh hEx i0 hst (fun ok h2 hG2 hF2 => ?_) (fun ok => ?_)
        · rw [ifp_p ok] at hrn
          obtain ⟨o1, o2⟩ := vT_ok hOV hdV ok hst
          have hFa := hF.tr hF2
          have hS2 : SC h2 S := hS.fr (fun t b j ht => hFa t b j (by omega))
          have kk : ∀ w, w = i + (2 + nd (el S x i)) → RH L bX3_game (d + 7) Q 69 [some (ar 2 0), some (ai (I x)), some (ar 1 x.toNat), some (ai (I 0)), some (ai (I (-4))), some (ai (I (k + 1))), some (ai (I w))] h2 := fun w e => by
            rw [e]
            exact ih (i + (2 + nd (el S x i))) (k + 1) (vTx (el S x) V i) h2 (by omega) (by omega) (by omega) s4 (by omega) hrn o1 o2 hG2 hFa (by omega) (by omega)
          clear ih hq k1 k2 k3 hrn hns
          repeat' (first
            | (show Rn _ _ _ 44 _ _ _; refine c_X2_digitsBehind hS2 hK x0 x1 hh i0 (by omega) ?_)
            | ((with_reducible refine kk _ ?_) <;> omega)
            | (show Rn _ _ _ 48 _ _ _; refine c_X3_shelfAt (by first | omega | exact hI_R) (fun _ _ => ?_) (fun _ => ?_))
            | (show Rn _ _ _ 49 _ _ _; refine c_X3_refusalUnless_n ?_)
            | (show Rn _ _ _ 49 _ _ _; refine c_X3_refusalUnless_s (by assumption) (by omega) (by assumption) (by assumption) (fun _ => ?_) (fun _ _ => ?_) (fun _ _ => ?_))
            | (show Rch _ _ _ _ _ 0 _ _ _; refine Rch.blk' (Rn_mono mt _ _) bl_X3_game_0 (i_aload_n rfl (i_iload_n rfl (t_cv2 (Rn_mono mt _ _) 5 rfl (Nat.le_of_ble_eq_true rfl) ?_))))
            | (show Rch _ _ _ _ _ 5 _ _ _; refine Rch.blk' (Rn_mono mt _ _) bl_X3_game_5 (i_astore2 trivial (i_aload_n rfl (i_iconst k_2 (t_cs2 (Rn_mono mt _ _) 11 rfl (Nat.le_of_ble_eq_true rfl) ?_)))))
            | (show Rch _ _ _ _ _ 11 _ _ _; refine Rch.blk' (Rn_mono mt _ _) bl_X3_game_11 (i_istore3 trivial (i_aload_n rfl (t_ifnull_n 20 rfl ?_))))
            | (show Rch _ _ _ _ _ 11 _ _ _; refine Rch.blk' (Rn_mono mt _ _) bl_X3_game_11 (i_istore3 trivial (i_aload_n rfl (t_ifnull_s 16 rfl ?_))))
            | (show Rch _ _ _ _ _ 16 _ _ _; refine Rch.blk' (Rn_mono mt _ _) bl_X3_game_16 (i_iload_n rfl (t_if_eq 22 20 rfl rfl (by first | with_reducible exact hI_R | with_reducible exact lcm_R | with_reducible exact band_R | with_reducible exact bor_R | with_reducible exact bshr_R | with_reducible exact bshl_R | omega) (fun hc => ?_) (fun hc => ?_))) <;> (first | (exfalso; omega) | skip))
            | (show Rch _ _ _ _ _ 20 _ _ _; refine Rch.blk' (Rn_mono mt _ _) bl_X3_game_20 (i_iload_n rfl (t_iret ?_)))
            | (show Rch _ _ _ _ _ 22 _ _ _; refine Rch.blk' (Rn_mono mt _ _) bl_X3_game_22 (i_aload_n rfl (i_gfi rfl (t_if_eq 32 29 rfl rfl (by first | with_reducible exact hI_R | with_reducible exact lcm_R | with_reducible exact band_R | with_reducible exact bor_R | with_reducible exact bshr_R | with_reducible exact bshl_R | omega) (fun hc => ?_) (fun hc => ?_)))) <;> (first | (exfalso; omega) | skip))
            | (show Rch _ _ _ _ _ 29 _ _ _; refine Rch.blk' (Rn_mono mt _ _) bl_X3_game_29 (i_bipush k_m12 (t_iret ?_)))
            | (show Rch _ _ _ _ _ 32 _ _ _; refine Rch.blk' (Rn_mono mt _ _) bl_X3_game_32 (i_aload_n rfl (t_cv1 (Rn_mono mt _ _) 36 rfl (Nat.le_of_ble_eq_true rfl) ?_)))
            | (show Rch _ _ _ _ _ 36 _ _ _; refine Rch.blk' (Rn_mono mt _ _) bl_X3_game_36 (i_istore4 trivial (i_iload rfl (i_bipush k_m4 (t_ic_eq 52 45 rfl rfl (by first | with_reducible exact hI_R | with_reducible exact lcm_R | with_reducible exact band_R | with_reducible exact bor_R | with_reducible exact bshr_R | with_reducible exact bshl_R | omega) (by first | with_reducible exact hI_R | with_reducible exact lcm_R | with_reducible exact band_R | with_reducible exact bor_R | with_reducible exact bshr_R | with_reducible exact bshl_R | omega) (fun hc => ?_) (fun hc => ?_))))) <;> (first | (exfalso; omega) | skip))
            | (show Rch _ _ _ _ _ 45 _ _ _; refine Rch.blk' (Rn_mono mt _ _) bl_X3_game_45 (i_sipush k_m1000 (i_iload rfl (i_isub (t_iret ?_)))))
            | (show Rch _ _ _ _ _ 52 _ _ _; refine Rch.blk' (Rn_mono mt _ _) bl_X3_game_52 (i_iconst k_0 (i_istore5 trivial (i_aload_n rfl (i_gfs rfl (i_aload_n rfl (i_gfs rfl (t_cv2 (Rn_mono mt _ _) 66 rfl (Nat.le_of_ble_eq_true rfl) ?_))))))))
            | (show Rch _ _ _ _ _ 66 _ _ _; refine Rch.blk' (Rn_mono mt _ _) bl_X3_game_66 (i_iconst k_0 (i_istore6 trivial (t_none ?_))))
            | (show Rch _ _ _ _ _ 78 _ _ _; refine Rch.blk' (Rn_mono mt _ _) bl_X3_game_78 (i_aload_n rfl (i_aload_n rfl (i_iload rfl (t_cv3 (Rn_mono mt _ _) 85 rfl (Nat.le_of_ble_eq_true rfl) ?_)))))
            | (show Rch _ _ _ _ _ 85 _ _ _; refine Rch.blk' (Rn_mono mt _ _) bl_X3_game_85 (t_if_ne 95 88 rfl rfl (by first | with_reducible exact hI_R | with_reducible exact lcm_R | with_reducible exact band_R | with_reducible exact bor_R | with_reducible exact bshr_R | with_reducible exact bshl_R | omega) (fun hc => ?_) (fun hc => ?_)) <;> (first | (exfalso; omega) | skip))
            | (show Rch _ _ _ _ _ 88 _ _ _; refine Rch.blk' (Rn_mono mt _ _) bl_X3_game_88 (i_sipush k_m2000 (i_iload rfl (i_isub (t_iret ?_)))))
            | (show Rch _ _ _ _ _ 95 _ _ _; refine Rch.blk' (Rn_mono mt _ _) bl_X3_game_95 (i_iinc5 trivial k_1 (i_iload rfl (i_iconst k_2 (i_iconst k_0 (i_aload_n rfl (i_iload rfl (t_cv2 (Rn_mono mt _ _) 108 rfl (Nat.le_of_ble_eq_true rfl) ?_))))))))
            | (show Rch _ _ _ _ _ 108 _ _ _; refine Rch.blk' (Rn_mono mt _ _) bl_X3_game_108 (i_max (by first | with_reducible exact hI_R | with_reducible exact lcm_R | with_reducible exact band_R | with_reducible exact bor_R | with_reducible exact bshr_R | with_reducible exact bshl_R | omega) (by first | with_reducible exact hI_R | with_reducible exact lcm_R | with_reducible exact band_R | with_reducible exact bor_R | with_reducible exact bshr_R | with_reducible exact bshl_R | omega) (Nat.le_of_ble_eq_true rfl) (i_iadd (i_iadd (i_istore6 trivial (t_goto 69 rfl ?_))))))
            | (show Rch _ _ _ _ _ 118 _ _ _; refine Rch.blk' (Rn_mono mt _ _) bl_X3_game_118 (i_aload_n rfl (i_gfs rfl (i_aload_n rfl (i_gfs rfl (t_cv2 (Rn_mono mt _ _) 129 rfl (Nat.le_of_ble_eq_true rfl) ?_))))))
            | (show Rch _ _ _ _ _ 129 _ _ _; refine Rch.blk' (Rn_mono mt _ _) bl_X3_game_129 (i_iload rfl (t_iret ?_))))
        · rw [ifp_n ok] at hrn
          have kk : ∀ w, w = -2000 - i → Q (some (ai (I w))) h' := fun w e => hq w G h' (by
            unfold oGame
            rw [if_neg (by omega), if_neg (by omega), if_neg (by omega), hrn, if_neg (show ¬ (-2000 - i : Int) = 0 by omega), e]) (hG.fr hF (by decide)) (fun t b' j hn => hF t b' j (by omega))
          clear ih hq k1 k2 k3 hrn hns
          repeat' (first
            | ((with_reducible refine kk _ ?_) <;> omega)
            | (show Rn _ _ _ 48 _ _ _; refine c_X3_shelfAt (by first | omega | exact hI_R) (fun _ _ => ?_) (fun _ => ?_))
            | (show Rn _ _ _ 49 _ _ _; refine c_X3_refusalUnless_n ?_)
            | (show Rn _ _ _ 49 _ _ _; refine c_X3_refusalUnless_s (by assumption) (by omega) (by assumption) (by assumption) (fun _ => ?_) (fun _ _ => ?_) (fun _ _ => ?_))
            | (show Rch _ _ _ _ _ 0 _ _ _; refine Rch.blk' (Rn_mono mt _ _) bl_X3_game_0 (i_aload_n rfl (i_iload_n rfl (t_cv2 (Rn_mono mt _ _) 5 rfl (Nat.le_of_ble_eq_true rfl) ?_))))
            | (show Rch _ _ _ _ _ 5 _ _ _; refine Rch.blk' (Rn_mono mt _ _) bl_X3_game_5 (i_astore2 trivial (i_aload_n rfl (i_iconst k_2 (t_cs2 (Rn_mono mt _ _) 11 rfl (Nat.le_of_ble_eq_true rfl) ?_)))))
            | (show Rch _ _ _ _ _ 11 _ _ _; refine Rch.blk' (Rn_mono mt _ _) bl_X3_game_11 (i_istore3 trivial (i_aload_n rfl (t_ifnull_n 20 rfl ?_))))
            | (show Rch _ _ _ _ _ 11 _ _ _; refine Rch.blk' (Rn_mono mt _ _) bl_X3_game_11 (i_istore3 trivial (i_aload_n rfl (t_ifnull_s 16 rfl ?_))))
            | (show Rch _ _ _ _ _ 16 _ _ _; refine Rch.blk' (Rn_mono mt _ _) bl_X3_game_16 (i_iload_n rfl (t_if_eq 22 20 rfl rfl (by first | with_reducible exact hI_R | with_reducible exact lcm_R | with_reducible exact band_R | with_reducible exact bor_R | with_reducible exact bshr_R | with_reducible exact bshl_R | omega) (fun hc => ?_) (fun hc => ?_))) <;> (first | (exfalso; omega) | skip))
            | (show Rch _ _ _ _ _ 20 _ _ _; refine Rch.blk' (Rn_mono mt _ _) bl_X3_game_20 (i_iload_n rfl (t_iret ?_)))
            | (show Rch _ _ _ _ _ 22 _ _ _; refine Rch.blk' (Rn_mono mt _ _) bl_X3_game_22 (i_aload_n rfl (i_gfi rfl (t_if_eq 32 29 rfl rfl (by first | with_reducible exact hI_R | with_reducible exact lcm_R | with_reducible exact band_R | with_reducible exact bor_R | with_reducible exact bshr_R | with_reducible exact bshl_R | omega) (fun hc => ?_) (fun hc => ?_)))) <;> (first | (exfalso; omega) | skip))
            | (show Rch _ _ _ _ _ 29 _ _ _; refine Rch.blk' (Rn_mono mt _ _) bl_X3_game_29 (i_bipush k_m12 (t_iret ?_)))
            | (show Rch _ _ _ _ _ 32 _ _ _; refine Rch.blk' (Rn_mono mt _ _) bl_X3_game_32 (i_aload_n rfl (t_cv1 (Rn_mono mt _ _) 36 rfl (Nat.le_of_ble_eq_true rfl) ?_)))
            | (show Rch _ _ _ _ _ 36 _ _ _; refine Rch.blk' (Rn_mono mt _ _) bl_X3_game_36 (i_istore4 trivial (i_iload rfl (i_bipush k_m4 (t_ic_eq 52 45 rfl rfl (by first | with_reducible exact hI_R | with_reducible exact lcm_R | with_reducible exact band_R | with_reducible exact bor_R | with_reducible exact bshr_R | with_reducible exact bshl_R | omega) (by first | with_reducible exact hI_R | with_reducible exact lcm_R | with_reducible exact band_R | with_reducible exact bor_R | with_reducible exact bshr_R | with_reducible exact bshl_R | omega) (fun hc => ?_) (fun hc => ?_))))) <;> (first | (exfalso; omega) | skip))
            | (show Rch _ _ _ _ _ 45 _ _ _; refine Rch.blk' (Rn_mono mt _ _) bl_X3_game_45 (i_sipush k_m1000 (i_iload rfl (i_isub (t_iret ?_)))))
            | (show Rch _ _ _ _ _ 52 _ _ _; refine Rch.blk' (Rn_mono mt _ _) bl_X3_game_52 (i_iconst k_0 (i_istore5 trivial (i_aload_n rfl (i_gfs rfl (i_aload_n rfl (i_gfs rfl (t_cv2 (Rn_mono mt _ _) 66 rfl (Nat.le_of_ble_eq_true rfl) ?_))))))))
            | (show Rch _ _ _ _ _ 66 _ _ _; refine Rch.blk' (Rn_mono mt _ _) bl_X3_game_66 (i_iconst k_0 (i_istore6 trivial (t_none ?_))))
            | (show Rch _ _ _ _ _ 78 _ _ _; refine Rch.blk' (Rn_mono mt _ _) bl_X3_game_78 (i_aload_n rfl (i_aload_n rfl (i_iload rfl (t_cv3 (Rn_mono mt _ _) 85 rfl (Nat.le_of_ble_eq_true rfl) ?_)))))
            | (show Rch _ _ _ _ _ 85 _ _ _; refine Rch.blk' (Rn_mono mt _ _) bl_X3_game_85 (t_if_ne 95 88 rfl rfl (by first | with_reducible exact hI_R | with_reducible exact lcm_R | with_reducible exact band_R | with_reducible exact bor_R | with_reducible exact bshr_R | with_reducible exact bshl_R | omega) (fun hc => ?_) (fun hc => ?_)) <;> (first | (exfalso; omega) | skip))
            | (show Rch _ _ _ _ _ 88 _ _ _; refine Rch.blk' (Rn_mono mt _ _) bl_X3_game_88 (i_sipush k_m2000 (i_iload rfl (i_isub (t_iret ?_)))))
            | (show Rch _ _ _ _ _ 95 _ _ _; refine Rch.blk' (Rn_mono mt _ _) bl_X3_game_95 (i_iinc5 trivial k_1 (i_iload rfl (i_iconst k_2 (i_iconst k_0 (i_aload_n rfl (i_iload rfl (t_cv2 (Rn_mono mt _ _) 108 rfl (Nat.le_of_ble_eq_true rfl) ?_))))))))
            | (show Rch _ _ _ _ _ 108 _ _ _; refine Rch.blk' (Rn_mono mt _ _) bl_X3_game_108 (i_max (by first | with_reducible exact hI_R | with_reducible exact lcm_R | with_reducible exact band_R | with_reducible exact bor_R | with_reducible exact bshr_R | with_reducible exact bshl_R | omega) (by first | with_reducible exact hI_R | with_reducible exact lcm_R | with_reducible exact band_R | with_reducible exact bor_R | with_reducible exact bshr_R | with_reducible exact bshl_R | omega) (Nat.le_of_ble_eq_true rfl) (i_iadd (i_iadd (i_istore6 trivial (t_goto 69 rfl ?_))))))
            | (show Rch _ _ _ _ _ 118 _ _ _; refine Rch.blk' (Rn_mono mt _ _) bl_X3_game_118 (i_aload_n rfl (i_gfs rfl (i_aload_n rfl (i_gfs rfl (t_cv2 (Rn_mono mt _ _) 129 rfl (Nat.le_of_ble_eq_true rfl) ?_))))))
            | (show Rch _ _ _ _ _ 129 _ _ _; refine Rch.blk' (Rn_mono mt _ _) bl_X3_game_129 (i_iload rfl (t_iret ?_))))
  have kw : (0 ≤ x ∧ x < 8) → ho S x = 2 → so S x = 0 → wbS S x = -4 → ∀ h', RC h' 2 G → FrC h h' 2 → RH L bX3_game (d + 7) Q 69 [some (ar 2 0), some (ai (I x)), some (ar 1 x.toNat), some (ai (I 0)), some (ai (I (-4))), some (ai (I 0)), some (ai (I 0))] h' := fun a b c e h' f1 f2 => by
    have g := (hK x a.1 a.2).2.2 b
    have hB : WB (el S x) (sz S x) (-4) 0 (-4) := ⟨101, by omega, by
      unfold wbS at e
      split at e
      · omega
      · exact e.symm⟩
    exact key a b c e 101 0 0 G h' (by omega) (by omega) (by omega) hB (by omega) rfl hO hy f1 f2 (by omega) (by omega)
  have hEx := hE x
  have g9 := hK x
  clear key hq
  by_cases cw : wbS S x = -4
  · skip
    repeat' (first
      | (show Rn _ _ _ 45 _ _ _; refine c_X2_wrongByte hS hK (by omega) (by omega) (by assumption) (hEx (by omega) (by omega) (by assumption) (by omega)) ?_; rw [cw])
      | (show Rn _ _ _ 0 _ _ _; refine c_X0_becomes hG hO (by decide) (fun _ _ _ => ?_))
      | exact kw (by omega) (by omega) (by omega) cw _ (by assumption) (by assumption)
      | ((with_reducible refine k1 _ ?_ ?_) <;> (first | omega | (unfold rfu; omega)))
      | ((with_reducible refine k2 _ ?_ ?_ ?_) <;> (first | omega | (unfold rfu; omega)))
      | (show Rn _ _ _ 48 _ _ _; refine c_X3_shelfAt (by first | omega | exact hI_R) (fun _ _ => ?_) (fun _ => ?_))
      | (show Rn _ _ _ 49 _ _ _; refine c_X3_refusalUnless_n ?_)
      | (show Rn _ _ _ 49 _ _ _; refine c_X3_refusalUnless_s (by assumption) (by omega) (by assumption) (by assumption) (fun _ => ?_) (fun _ _ => ?_) (fun _ _ => ?_))
      | (show Rch _ _ _ _ _ 0 _ _ _; refine Rch.blk' (Rn_mono mt _ _) bl_X3_game_0 (i_aload_n rfl (i_iload_n rfl (t_cv2 (Rn_mono mt _ _) 5 rfl (Nat.le_of_ble_eq_true rfl) ?_))))
      | (show Rch _ _ _ _ _ 5 _ _ _; refine Rch.blk' (Rn_mono mt _ _) bl_X3_game_5 (i_astore2 trivial (i_aload_n rfl (i_iconst k_2 (t_cs2 (Rn_mono mt _ _) 11 rfl (Nat.le_of_ble_eq_true rfl) ?_)))))
      | (show Rch _ _ _ _ _ 11 _ _ _; refine Rch.blk' (Rn_mono mt _ _) bl_X3_game_11 (i_istore3 trivial (i_aload_n rfl (t_ifnull_n 20 rfl ?_))))
      | (show Rch _ _ _ _ _ 11 _ _ _; refine Rch.blk' (Rn_mono mt _ _) bl_X3_game_11 (i_istore3 trivial (i_aload_n rfl (t_ifnull_s 16 rfl ?_))))
      | (show Rch _ _ _ _ _ 16 _ _ _; refine Rch.blk' (Rn_mono mt _ _) bl_X3_game_16 (i_iload_n rfl (t_if_eq 22 20 rfl rfl (by first | with_reducible exact hI_R | with_reducible exact lcm_R | with_reducible exact band_R | with_reducible exact bor_R | with_reducible exact bshr_R | with_reducible exact bshl_R | omega | (simp (disch := omega) only [e_s]; omega)) (fun hc => ?_) (fun hc => ?_))) <;> (first | (exfalso; omega) | skip))
      | (show Rch _ _ _ _ _ 20 _ _ _; refine Rch.blk' (Rn_mono mt _ _) bl_X3_game_20 (i_iload_n rfl (t_iret ?_)))
      | (show Rch _ _ _ _ _ 22 _ _ _; refine Rch.blk' (Rn_mono mt _ _) bl_X3_game_22 (i_aload_n rfl (i_gfi rfl (t_if_eq 32 29 rfl rfl (by first | with_reducible exact hI_R | with_reducible exact lcm_R | with_reducible exact band_R | with_reducible exact bor_R | with_reducible exact bshr_R | with_reducible exact bshl_R | omega | (simp (disch := omega) only [e_s]; omega)) (fun hc => ?_) (fun hc => ?_)))) <;> (try (simp (disch := omega) only [e_s] at hc ⊢)) <;> (first | (exfalso; omega) | skip))
      | (show Rch _ _ _ _ _ 29 _ _ _; refine Rch.blk' (Rn_mono mt _ _) bl_X3_game_29 (i_bipush k_m12 (t_iret ?_)))
      | (show Rch _ _ _ _ _ 32 _ _ _; refine Rch.blk' (Rn_mono mt _ _) bl_X3_game_32 (i_aload_n rfl (t_cv1 (Rn_mono mt _ _) 36 rfl (Nat.le_of_ble_eq_true rfl) ?_)))
      | (show Rch _ _ _ _ _ 36 _ _ _; refine Rch.blk' (Rn_mono mt _ _) bl_X3_game_36 (i_istore4 trivial (i_iload rfl (i_bipush k_m4 (t_ic_eq 52 45 rfl rfl (by first | with_reducible exact hI_R | with_reducible exact lcm_R | with_reducible exact band_R | with_reducible exact bor_R | with_reducible exact bshr_R | with_reducible exact bshl_R | omega | (simp (disch := omega) only [e_s]; omega)) (by first | with_reducible exact hI_R | with_reducible exact lcm_R | with_reducible exact band_R | with_reducible exact bor_R | with_reducible exact bshr_R | with_reducible exact bshl_R | omega | (simp (disch := omega) only [e_s]; omega)) (fun hc => ?_) (fun hc => ?_))))) <;> (first | (exfalso; omega) | skip))
      | (show Rch _ _ _ _ _ 45 _ _ _; refine Rch.blk' (Rn_mono mt _ _) bl_X3_game_45 (i_sipush k_m1000 (i_iload rfl (i_isub (t_iret ?_)))))
      | (show Rch _ _ _ _ _ 52 _ _ _; refine Rch.blk' (Rn_mono mt _ _) bl_X3_game_52 (i_iconst k_0 (i_istore5 trivial (i_aload_n rfl (i_gfs rfl (i_aload_n rfl (i_gfs rfl (t_cv2 (Rn_mono mt _ _) 66 rfl (Nat.le_of_ble_eq_true rfl) ?_))))))) <;> (try (simp (disch := omega) only [e_s])))
      | (show Rch _ _ _ _ _ 66 _ _ _; refine Rch.blk' (Rn_mono mt _ _) bl_X3_game_66 (i_iconst k_0 (i_istore6 trivial (t_none ?_))))
      | (show Rch _ _ _ _ _ 78 _ _ _; refine Rch.blk' (Rn_mono mt _ _) bl_X3_game_78 (i_aload_n rfl (i_aload_n rfl (i_iload rfl (t_cv3 (Rn_mono mt _ _) 85 rfl (Nat.le_of_ble_eq_true rfl) ?_)))))
      | (show Rch _ _ _ _ _ 85 _ _ _; refine Rch.blk' (Rn_mono mt _ _) bl_X3_game_85 (t_if_ne 95 88 rfl rfl (by first | with_reducible exact hI_R | with_reducible exact lcm_R | with_reducible exact band_R | with_reducible exact bor_R | with_reducible exact bshr_R | with_reducible exact bshl_R | omega | (simp (disch := omega) only [e_s]; omega)) (fun hc => ?_) (fun hc => ?_)) <;> (first | (exfalso; omega) | skip))
      | (show Rch _ _ _ _ _ 88 _ _ _; refine Rch.blk' (Rn_mono mt _ _) bl_X3_game_88 (i_sipush k_m2000 (i_iload rfl (i_isub (t_iret ?_)))))
      | (show Rch _ _ _ _ _ 95 _ _ _; refine Rch.blk' (Rn_mono mt _ _) bl_X3_game_95 (i_iinc5 trivial k_1 (i_iload rfl (i_iconst k_2 (i_iconst k_0 (i_aload_n rfl (i_iload rfl (t_cv2 (Rn_mono mt _ _) 108 rfl (Nat.le_of_ble_eq_true rfl) ?_))))))))
      | (show Rch _ _ _ _ _ 108 _ _ _; refine Rch.blk' (Rn_mono mt _ _) bl_X3_game_108 (i_max (by first | with_reducible exact hI_R | with_reducible exact lcm_R | with_reducible exact band_R | with_reducible exact bor_R | with_reducible exact bshr_R | with_reducible exact bshl_R | omega | (simp (disch := omega) only [e_s]; omega)) (by first | with_reducible exact hI_R | with_reducible exact lcm_R | with_reducible exact band_R | with_reducible exact bor_R | with_reducible exact bshr_R | with_reducible exact bshl_R | omega | (simp (disch := omega) only [e_s]; omega)) (Nat.le_of_ble_eq_true rfl) (i_iadd (i_iadd (i_istore6 trivial (t_goto 69 rfl ?_))))))
      | (show Rch _ _ _ _ _ 118 _ _ _; refine Rch.blk' (Rn_mono mt _ _) bl_X3_game_118 (i_aload_n rfl (i_gfs rfl (i_aload_n rfl (i_gfs rfl (t_cv2 (Rn_mono mt _ _) 129 rfl (Nat.le_of_ble_eq_true rfl) ?_))))) <;> (try (simp (disch := omega) only [e_s])))
      | (show Rch _ _ _ _ _ 129 _ _ _; refine Rch.blk' (Rn_mono mt _ _) bl_X3_game_129 (i_iload rfl (t_iret ?_))))
  · skip
    repeat' (first
      | (show Rn _ _ _ 45 _ _ _; refine c_X2_wrongByte hS hK (by omega) (by omega) (by assumption) (hEx (by omega) (by omega) (by assumption) (by omega)) ?_)
      | ((with_reducible refine k1 _ ?_ ?_) <;> (first | omega | (unfold rfu; omega)))
      | ((with_reducible refine k2 _ ?_ ?_ ?_) <;> (first | omega | (unfold rfu; omega)))
      | ((with_reducible refine k3 _ ?_ ?_ ?_ ?_) <;> (first | omega | (unfold rfu; omega)))
      | (show Rn _ _ _ 48 _ _ _; refine c_X3_shelfAt (by first | omega | exact hI_R) (fun _ _ => ?_) (fun _ => ?_))
      | (show Rn _ _ _ 49 _ _ _; refine c_X3_refusalUnless_n ?_)
      | (show Rn _ _ _ 49 _ _ _; refine c_X3_refusalUnless_s (by assumption) (by omega) (by assumption) (by assumption) (fun _ => ?_) (fun _ _ => ?_) (fun _ _ => ?_))
      | (show Rch _ _ _ _ _ 0 _ _ _; refine Rch.blk' (Rn_mono mt _ _) bl_X3_game_0 (i_aload_n rfl (i_iload_n rfl (t_cv2 (Rn_mono mt _ _) 5 rfl (Nat.le_of_ble_eq_true rfl) ?_))))
      | (show Rch _ _ _ _ _ 5 _ _ _; refine Rch.blk' (Rn_mono mt _ _) bl_X3_game_5 (i_astore2 trivial (i_aload_n rfl (i_iconst k_2 (t_cs2 (Rn_mono mt _ _) 11 rfl (Nat.le_of_ble_eq_true rfl) ?_)))))
      | (show Rch _ _ _ _ _ 11 _ _ _; refine Rch.blk' (Rn_mono mt _ _) bl_X3_game_11 (i_istore3 trivial (i_aload_n rfl (t_ifnull_n 20 rfl ?_))))
      | (show Rch _ _ _ _ _ 11 _ _ _; refine Rch.blk' (Rn_mono mt _ _) bl_X3_game_11 (i_istore3 trivial (i_aload_n rfl (t_ifnull_s 16 rfl ?_))))
      | (show Rch _ _ _ _ _ 16 _ _ _; refine Rch.blk' (Rn_mono mt _ _) bl_X3_game_16 (i_iload_n rfl (t_if_eq 22 20 rfl rfl (by first | with_reducible exact hI_R | with_reducible exact lcm_R | with_reducible exact band_R | with_reducible exact bor_R | with_reducible exact bshr_R | with_reducible exact bshl_R | omega | (simp (disch := omega) only [e_s]; omega)) (fun hc => ?_) (fun hc => ?_))) <;> (first | (exfalso; omega) | skip))
      | (show Rch _ _ _ _ _ 20 _ _ _; refine Rch.blk' (Rn_mono mt _ _) bl_X3_game_20 (i_iload_n rfl (t_iret ?_)))
      | (show Rch _ _ _ _ _ 22 _ _ _; refine Rch.blk' (Rn_mono mt _ _) bl_X3_game_22 (i_aload_n rfl (i_gfi rfl (t_if_eq 32 29 rfl rfl (by first | with_reducible exact hI_R | with_reducible exact lcm_R | with_reducible exact band_R | with_reducible exact bor_R | with_reducible exact bshr_R | with_reducible exact bshl_R | omega | (simp (disch := omega) only [e_s]; omega)) (fun hc => ?_) (fun hc => ?_)))) <;> (try (simp (disch := omega) only [e_s] at hc ⊢)) <;> (first | (exfalso; omega) | skip))
      | (show Rch _ _ _ _ _ 29 _ _ _; refine Rch.blk' (Rn_mono mt _ _) bl_X3_game_29 (i_bipush k_m12 (t_iret ?_)))
      | (show Rch _ _ _ _ _ 32 _ _ _; refine Rch.blk' (Rn_mono mt _ _) bl_X3_game_32 (i_aload_n rfl (t_cv1 (Rn_mono mt _ _) 36 rfl (Nat.le_of_ble_eq_true rfl) ?_)))
      | (show Rch _ _ _ _ _ 36 _ _ _; refine Rch.blk' (Rn_mono mt _ _) bl_X3_game_36 (i_istore4 trivial (i_iload rfl (i_bipush k_m4 (t_ic_eq 52 45 rfl rfl (by first | with_reducible exact hI_R | with_reducible exact lcm_R | with_reducible exact band_R | with_reducible exact bor_R | with_reducible exact bshr_R | with_reducible exact bshl_R | omega | (simp (disch := omega) only [e_s]; omega)) (by first | with_reducible exact hI_R | with_reducible exact lcm_R | with_reducible exact band_R | with_reducible exact bor_R | with_reducible exact bshr_R | with_reducible exact bshl_R | omega | (simp (disch := omega) only [e_s]; omega)) (fun hc => ?_) (fun hc => ?_))))) <;> (first | (exfalso; omega) | skip))
      | (show Rch _ _ _ _ _ 45 _ _ _; refine Rch.blk' (Rn_mono mt _ _) bl_X3_game_45 (i_sipush k_m1000 (i_iload rfl (i_isub (t_iret ?_)))))
      | (show Rch _ _ _ _ _ 52 _ _ _; refine Rch.blk' (Rn_mono mt _ _) bl_X3_game_52 (i_iconst k_0 (i_istore5 trivial (i_aload_n rfl (i_gfs rfl (i_aload_n rfl (i_gfs rfl (t_cv2 (Rn_mono mt _ _) 66 rfl (Nat.le_of_ble_eq_true rfl) ?_))))))) <;> (try (simp (disch := omega) only [e_s])))
      | (show Rch _ _ _ _ _ 66 _ _ _; refine Rch.blk' (Rn_mono mt _ _) bl_X3_game_66 (i_iconst k_0 (i_istore6 trivial (t_none ?_))))
      | (show Rch _ _ _ _ _ 78 _ _ _; refine Rch.blk' (Rn_mono mt _ _) bl_X3_game_78 (i_aload_n rfl (i_aload_n rfl (i_iload rfl (t_cv3 (Rn_mono mt _ _) 85 rfl (Nat.le_of_ble_eq_true rfl) ?_)))))
      | (show Rch _ _ _ _ _ 85 _ _ _; refine Rch.blk' (Rn_mono mt _ _) bl_X3_game_85 (t_if_ne 95 88 rfl rfl (by first | with_reducible exact hI_R | with_reducible exact lcm_R | with_reducible exact band_R | with_reducible exact bor_R | with_reducible exact bshr_R | with_reducible exact bshl_R | omega | (simp (disch := omega) only [e_s]; omega)) (fun hc => ?_) (fun hc => ?_)) <;> (first | (exfalso; omega) | skip))
      | (show Rch _ _ _ _ _ 88 _ _ _; refine Rch.blk' (Rn_mono mt _ _) bl_X3_game_88 (i_sipush k_m2000 (i_iload rfl (i_isub (t_iret ?_)))))
      | (show Rch _ _ _ _ _ 95 _ _ _; refine Rch.blk' (Rn_mono mt _ _) bl_X3_game_95 (i_iinc5 trivial k_1 (i_iload rfl (i_iconst k_2 (i_iconst k_0 (i_aload_n rfl (i_iload rfl (t_cv2 (Rn_mono mt _ _) 108 rfl (Nat.le_of_ble_eq_true rfl) ?_))))))))
      | (show Rch _ _ _ _ _ 108 _ _ _; refine Rch.blk' (Rn_mono mt _ _) bl_X3_game_108 (i_max (by first | with_reducible exact hI_R | with_reducible exact lcm_R | with_reducible exact band_R | with_reducible exact bor_R | with_reducible exact bshr_R | with_reducible exact bshl_R | omega | (simp (disch := omega) only [e_s]; omega)) (by first | with_reducible exact hI_R | with_reducible exact lcm_R | with_reducible exact band_R | with_reducible exact bor_R | with_reducible exact bshr_R | with_reducible exact bshl_R | omega | (simp (disch := omega) only [e_s]; omega)) (Nat.le_of_ble_eq_true rfl) (i_iadd (i_iadd (i_istore6 trivial (t_goto 69 rfl ?_))))))
      | (show Rch _ _ _ _ _ 118 _ _ _; refine Rch.blk' (Rn_mono mt _ _) bl_X3_game_118 (i_aload_n rfl (i_gfs rfl (i_aload_n rfl (i_gfs rfl (t_cv2 (Rn_mono mt _ _) 129 rfl (Nat.le_of_ble_eq_true rfl) ?_))))) <;> (try (simp (disch := omega) only [e_s])))
      | (show Rch _ _ _ _ _ 129 _ _ _; refine Rch.blk' (Rn_mono mt _ _) bl_X3_game_129 (i_iload rfl (t_iret ?_))))
end C41


