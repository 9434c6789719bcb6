/-! SHELVES: the reference; copy on both sides -/
def wrf (S : Sv) (x o : Int) : Int := if rfu S x 2 = 0 ∧ 0 ≤ o ∧ ¬ so S x = o then -12 else rfu S x 2
noncomputable def oCopy (S : Sv) (x i y j n : Int) : Int × Sv := if ¬ ((0 ≤ x ∧ x < 8) ∧ 0 ≤ y ∧ y < 8) then (-1, S) else if ho S x = 0 ∨ ho S y = 0 then (-11, S) else if ¬ (ho S x = 2 ∧ ho S y = 2 ∧ so S x = so S y) then (-12, S) else if ¬ (0 ≤ n ∧ 0 ≤ i ∧ 0 ≤ j ∧ i + n ≤ sz S x ∧ j + n ≤ sz S y) then (-13, S) else (n, (ho S, sk S, sf S, so S, sz S, fun a q => if a = y ∧ j ≤ q ∧ q < j + n then el S x (i + (q - j)) else el S a q))
section C12
variable {d : Nat} {h : Mem} {Q : Option AV → Mem → Prop} {S : Sv}
theorem c_X4_isShelf {x : Int} (hx : inR x) (h1 : 0 ≤ x → x < 8 → Q (some (ai (I 1))) h) (h0 : ¬ (0 ≤ x ∧ x < 8) → Q (some (ai (I 0))) h) : Rn mt (d + 2) 145 [ai (I x)] h Q := by
  refine Rn.intro iX4_isShelf rfl rfl ?_
  show Rch bX4_isShelf _ _ _ _ 0 [some (ai (I x))] [] _
  repeat' (first
    | exact h1 (by omega) (by omega)
    | exact h0 (by omega)
    | (show Rn _ _ 105 _ _ _; refine c_X4_isIn (by first | omega | exact hI_R) (by first | omega | exact hI_R) (by first | omega | exact hI_R) (fun _ _ => ?_) (fun _ => ?_))
    | (show Rch _ _ _ _ _ 0 _ _ _; refine Rch.blk' (Rn_mono mt _) bl_X4_isShelf_0 (i_iload_n rfl (i_iconst k_0 (i_bipush k_7 (t_cs3 (Rn_mono mt _) 7 rfl (Nat.le_of_ble_eq_true rfl) ?_)))))
    | (show Rch _ _ _ _ _ 7 _ _ _; refine Rch.blk' (Rn_mono mt _) bl_X4_isShelf_7 (t_zret (by omega) ?_)))
theorem c_X4_wrongRow (hS : SR h S) {x o : Int} (hx : inR x) (hoR : inR o) (hq : ∀ v, v = wrf S x o → -12 ≤ v → v ≤ 0 → Q (some (ai (I v))) h) : Rn mt (d + 3) 146 [ar 3 0, ai (I x), ai (I o)] h Q := by
  refine Rn.intro iX4_wrongRow rfl rfl ?_
  show Rch bX4_wrongRow _ _ _ _ 0 [some (ar 3 0), some (ai (I x)), some (ai (I o))] [] _
  have e_h := fun a b => @SR.h _ _ x hS a b
  have e_s := fun a b => @SR.s _ _ x hS a b
  repeat' (first
    | exact hq _ (by unfold wrf rfu; omega) (by omega) (by omega)
    | (show Rn _ _ 145 _ _ _; refine c_X4_isShelf (by first | omega | exact hI_R) (fun _ _ => ?_) (fun _ => ?_))
    | (show Rch _ _ _ _ _ 0 _ _ _; refine Rch.blk' (Rn_mono mt _) bl_X4_wrongRow_0 (i_iload_n rfl (t_cs1 (Rn_mono mt _) 4 rfl (Nat.le_of_ble_eq_true rfl) ?_)))
    | (show Rch _ _ _ _ _ 4 _ _ _; refine Rch.blk' (Rn_mono mt _) bl_X4_wrongRow_4 (t_if_ne 11 7 rfl rfl (by first | exact hI_R | exact band_R | exact bor_R | exact bshr_R | exact lcm_R | omega | (simp (disch := omega) only [e_h, e_s]; omega)) (fun hc => ?_) (fun hc => ?_)) <;> (first | (exfalso; omega) | skip))
    | (show Rch _ _ _ _ _ 7 _ _ _; refine Rch.blk' (Rn_mono mt _) bl_X4_wrongRow_7 (i_iconst k_m1 (t_goto 55 rfl ?_)))
    | (show Rch _ _ _ _ _ 11 _ _ _; refine Rch.blk' (Rn_mono mt _) bl_X4_wrongRow_11 (i_aload_n rfl (i_gfs rfl (i_iload_n rfl (i_iald (n := 8) rfl (by first | omega | (simp (disch := omega) only [e_h, e_s]; omega)) (by first | omega | (simp (disch := omega) only [e_h, e_s]; omega)) (by first | omega | (simp (disch := omega) only [e_h, e_s]; omega)) (t_if_ne 25 20 rfl rfl (by first | exact hI_R | exact band_R | exact bor_R | exact bshr_R | exact lcm_R | omega | (simp (disch := omega) only [e_h, e_s]; omega)) (fun hc => ?_) (fun hc => ?_)))))) <;> (try (simp (disch := omega) only [e_h, e_s] at hc ⊢)) <;> (first | (exfalso; omega) | skip))
    | (show Rch _ _ _ _ _ 20 _ _ _; refine Rch.blk' (Rn_mono mt _) bl_X4_wrongRow_20 (i_bipush k_m11 (t_goto 55 rfl ?_)))
    | (show Rch _ _ _ _ _ 25 _ _ _; refine Rch.blk' (Rn_mono mt _) bl_X4_wrongRow_25 (i_aload_n rfl (i_gfs rfl (i_iload_n rfl (i_iald (n := 8) rfl (by first | omega | (simp (disch := omega) only [e_h, e_s]; omega)) (by first | omega | (simp (disch := omega) only [e_h, e_s]; omega)) (by first | omega | (simp (disch := omega) only [e_h, e_s]; omega)) (i_iconst k_2 (t_ic_ne 49 35 rfl rfl (by first | exact hI_R | exact band_R | exact bor_R | exact bshr_R | exact lcm_R | omega | (simp (disch := omega) only [e_h, e_s]; omega)) (by first | exact hI_R | exact band_R | exact bor_R | exact bshr_R | exact lcm_R | omega | (simp (disch := omega) only [e_h, e_s]; omega)) (fun hc => ?_) (fun hc => ?_))))))) <;> (try (simp (disch := omega) only [e_h, e_s] at hc ⊢)) <;> (first | (exfalso; omega) | skip))
    | (show Rch _ _ _ _ _ 35 _ _ _; refine Rch.blk' (Rn_mono mt _) bl_X4_wrongRow_35 (i_iload_n rfl (t_if_lt 54 39 rfl rfl (by first | exact hI_R | exact band_R | exact bor_R | exact bshr_R | exact lcm_R | omega | (simp (disch := omega) only [e_h, e_s]; omega)) (fun hc => ?_) (fun hc => ?_))) <;> (first | (exfalso; omega) | skip))
    | (show Rch _ _ _ _ _ 39 _ _ _; refine Rch.blk' (Rn_mono mt _) bl_X4_wrongRow_39 (i_aload_n rfl (i_gfs rfl (i_iload_n rfl (i_iald (n := 8) rfl (by first | omega | (simp (disch := omega) only [e_h, e_s]; omega)) (by first | omega | (simp (disch := omega) only [e_h, e_s]; omega)) (by first | omega | (simp (disch := omega) only [e_h, e_s]; omega)) (i_iload_n rfl (t_ic_eq 54 49 rfl rfl (by first | exact hI_R | exact band_R | exact bor_R | exact bshr_R | exact lcm_R | omega | (simp (disch := omega) only [e_h, e_s]; omega)) (by first | exact hI_R | exact band_R | exact bor_R | exact bshr_R | exact lcm_R | omega | (simp (disch := omega) only [e_h, e_s]; omega)) (fun hc => ?_) (fun hc => ?_))))))) <;> (try (simp (disch := omega) only [e_h, e_s] at hc ⊢)) <;> (first | (exfalso; omega) | skip))
    | (show Rch _ _ _ _ _ 49 _ _ _; refine Rch.blk' (Rn_mono mt _) bl_X4_wrongRow_49 (i_bipush k_m12 (t_goto 55 rfl ?_)))
    | (show Rch _ _ _ _ _ 54 _ _ _; refine Rch.blk' (Rn_mono mt _) bl_X4_wrongRow_54 (i_iconst k_0 (t_none ?_)))
    | (show Rch _ _ _ _ _ 55 _ _ _; refine Rch.blk' (Rn_mono mt _) bl_X4_wrongRow_55 (t_iret ?_)))
theorem c_X4_wrongKept (hS : SR h S) (hK : OKS S) {x : Int} (hx : inR x) (hq : ∀ v, v = rfu S x 1 → -12 ≤ v → v ≤ 0 → Q (some (ai (I v))) h) : Rn mt (d + 3) 151 [ar 3 0, ai (I x)] h Q := by
  refine Rn.intro iX4_wrongKept rfl rfl ?_
  show Rch bX4_wrongKept _ _ _ _ 0 [some (ar 3 0), some (ai (I x))] [] _
  have e_h := fun a b => @SR.h _ _ x hS a b
  have g := hK x
  repeat' (first
    | exact hq _ (by unfold rfu; omega) (by omega) (by omega)
    | (show Rn _ _ 145 _ _ _; refine c_X4_isShelf (by first | omega | exact hI_R) (fun _ _ => ?_) (fun _ => ?_))
    | (show Rch _ _ _ _ _ 0 _ _ _; refine Rch.blk' (Rn_mono mt _) bl_X4_wrongKept_0 (i_iload_n rfl (t_cs1 (Rn_mono mt _) 4 rfl (Nat.le_of_ble_eq_true rfl) ?_)))
    | (show Rch _ _ _ _ _ 4 _ _ _; refine Rch.blk' (Rn_mono mt _) bl_X4_wrongKept_4 (t_if_ne 11 7 rfl rfl (by first | exact hI_R | exact band_R | exact bor_R | exact bshr_R | exact lcm_R | omega | (simp (disch := omega) only [e_h]; omega)) (fun hc => ?_) (fun hc => ?_)) <;> (first | (exfalso; omega) | skip))
    | (show Rch _ _ _ _ _ 7 _ _ _; refine Rch.blk' (Rn_mono mt _) bl_X4_wrongKept_7 (i_iconst k_m1 (t_goto 41 rfl ?_)))
    | (show Rch _ _ _ _ _ 11 _ _ _; refine Rch.blk' (Rn_mono mt _) bl_X4_wrongKept_11 (i_aload_n rfl (i_gfs rfl (i_iload_n rfl (i_iald (n := 8) rfl (by first | omega | (simp (disch := omega) only [e_h]; omega)) (by first | omega | (simp (disch := omega) only [e_h]; omega)) (by first | omega | (simp (disch := omega) only [e_h]; omega)) (t_if_ne 25 20 rfl rfl (by first | exact hI_R | exact band_R | exact bor_R | exact bshr_R | exact lcm_R | omega | (simp (disch := omega) only [e_h]; omega)) (fun hc => ?_) (fun hc => ?_)))))) <;> (try (simp (disch := omega) only [e_h] at hc ⊢)) <;> (first | (exfalso; omega) | skip))
    | (show Rch _ _ _ _ _ 20 _ _ _; refine Rch.blk' (Rn_mono mt _) bl_X4_wrongKept_20 (i_bipush k_m11 (t_goto 41 rfl ?_)))
    | (show Rch _ _ _ _ _ 25 _ _ _; refine Rch.blk' (Rn_mono mt _) bl_X4_wrongKept_25 (i_aload_n rfl (i_gfs rfl (i_iload_n rfl (i_iald (n := 8) rfl (by first | omega | (simp (disch := omega) only [e_h]; omega)) (by first | omega | (simp (disch := omega) only [e_h]; omega)) (by first | omega | (simp (disch := omega) only [e_h]; omega)) (i_iconst k_2 (t_ic_ne 40 35 rfl rfl (by first | exact hI_R | exact band_R | exact bor_R | exact bshr_R | exact lcm_R | omega | (simp (disch := omega) only [e_h]; omega)) (by first | exact hI_R | exact band_R | exact bor_R | exact bshr_R | exact lcm_R | omega | (simp (disch := omega) only [e_h]; omega)) (fun hc => ?_) (fun hc => ?_))))))) <;> (try (simp (disch := omega) only [e_h] at hc ⊢)) <;> (first | (exfalso; omega) | skip))
    | (show Rch _ _ _ _ _ 35 _ _ _; refine Rch.blk' (Rn_mono mt _) bl_X4_wrongKept_35 (i_bipush k_m12 (t_goto 41 rfl ?_)))
    | (show Rch _ _ _ _ _ 40 _ _ _; refine Rch.blk' (Rn_mono mt _) bl_X4_wrongKept_40 (i_iconst k_0 (t_none ?_)))
    | (show Rch _ _ _ _ _ 41 _ _ _; refine Rch.blk' (Rn_mono mt _) bl_X4_wrongKept_41 (t_iret ?_)))
theorem c_X4_cost (hS : SR h S) (hK : OKS S) {z : Int} (hz : inR z) (hq : ∀ v h', v = vCost S z → JY h h' → Q (some (ai (I v))) h') : Rn mt (d + 20) 206 [ar 3 0, ai (I z)] h Q := by
  refine Rn.intro iX4_cost rfl rfl ?_
  show Rch bX4_cost _ _ _ _ 0 [some (ar 3 0), some (ai (I z)), none] [] _
  have e_k := fun a b => @SR.k _ _ z hS a b
  have e_f := fun a b => @SR.f _ _ z hS a b
  have g := hK z
  have r1 : rfu S z 1 = 0 → (0 ≤ z ∧ z < 8) ∧ ho S z = 1 := fun e => by unfold rfu at e; omega
  repeat' (first
    | exact hq _ _ (by unfold vCost; omega) JY.rf
    | (show Rn _ _ 151 _ _ _; refine c_X4_wrongKept (by assumption) (by assumption) (by assumption) (fun _ _ _ _ => ?_))
    | (show Rn _ _ 205 _ _ _; refine c_X4_costBy (by omega) (by omega) (by omega) (fun _ _ => ?_))
    | (show Rch _ _ _ _ _ 0 _ _ _; refine Rch.blk' (Rn_mono mt _) bl_X4_cost_0 (i_aload_n rfl (i_iload_n rfl (t_cv2 (Rn_mono mt _) 5 rfl (Nat.le_of_ble_eq_true rfl) ?_))))
    | (show Rch _ _ _ _ _ 5 _ _ _; refine Rch.blk' (Rn_mono mt _) bl_X4_cost_5 (i_istore2 trivial (i_iload_n rfl (t_if_eq 14 10 rfl rfl (by first | exact hI_R | exact band_R | exact bor_R | exact bshr_R | exact lcm_R | omega | (simp (disch := omega) only [e_k, e_f]; omega)) (fun hc => ?_) (fun hc => ?_)))) <;> (first | (exfalso; omega) | skip))
    | (show Rch _ _ _ _ _ 10 _ _ _; refine Rch.blk' (Rn_mono mt _) bl_X4_cost_10 (i_iload_n rfl (t_goto 29 rfl ?_)))
    | (show Rch _ _ _ _ _ 14 _ _ _; refine Rch.blk' (Rn_mono mt _) bl_X4_cost_14 (i_aload_n rfl (i_gfs rfl (i_iload_n rfl (i_iald (n := 8) rfl (by first | omega | (simp (disch := omega) only [e_k, e_f]; omega)) (by first | omega | (simp (disch := omega) only [e_k, e_f]; omega)) (by first | omega | (simp (disch := omega) only [e_k, e_f]; omega)) (i_aload_n rfl (i_gfs rfl (i_iload_n rfl (i_iald (n := 8) rfl (by first | omega | (simp (disch := omega) only [e_k, e_f]; omega)) (by first | omega | (simp (disch := omega) only [e_k, e_f]; omega)) (by first | omega | (simp (disch := omega) only [e_k, e_f]; omega)) (t_cs2 (Rn_mono mt _) 29 rfl (Nat.le_of_ble_eq_true rfl) ?_))))))))) <;> (try (simp (disch := omega) only [e_k, e_f])))
    | (show Rch _ _ _ _ _ 29 _ _ _; refine Rch.blk' (Rn_mono mt _) bl_X4_cost_29 (t_iret ?_)))
theorem c_X4_keep (hS : SR h S) {z w k f : Int} (hz : inR z) (hw : inR w) (hk : inR k) (hf : inR f) (hq : ∀ v S' h', oKeep S z w k f = (v, S') → SR h' S' → FrT h h' → Q (some (ai (I v))) h') : Rn mt (d + 20) 200 [ar 3 0, ai (I z), ai (I w), ai (I k), ai (I f)] h Q := by
  refine Rn.intro iX4_keep rfl rfl ?_
  show Rch bX4_keep _ _ _ _ 0 [some (ar 3 0), some (ai (I z)), some (ai (I w)), some (ai (I k)), some (ai (I f))] [] _
  have kk : ∀ S', (0 ≤ z ∧ z < 8) → (w = 0 ∨ w = 1) → S' = (fu (ho S) z w, (if w = 0 then sk S else fu (sk S) z k), (if w = 0 then sf S else fu (sf S) z f), so S, sz S, el S) → SR (mset (mset (mset h 14 0 z.toNat (I w)) 15 0 z.toNat (I k)) 16 0 z.toNat (I f)) S' := by
    intro S' a b e
    subst e
    intro c c0 c1
    obtain ⟨p, q, r⟩ := hS c c0 c1
    by_cases e : c = z
    · subst e
      refine ⟨?_, fun e => ?_, fun e => ?_⟩
      · rw [hI_nt (by omega), hI_nt (by omega), hI_eq hw]; exact fu_s.symm
      · have e : fu (ho S) c w c = 1 := e
        rw [fu_s] at e
        subst e
        refine ⟨?_, ?_⟩
        · rw [hI_nt (by omega), hI_eq hk]; exact fu_s.symm
        · rw [hI_eq hf]; exact fu_s.symm
      · have e : fu (ho S) c w c = 2 := e
        rw [fu_s] at e; omega
    · have e0 : ∀ t, hI (mset (mset (mset h 14 0 z.toNat (I w)) 15 0 z.toNat (I k)) 16 0 z.toNat (I f)) t 0 c.toNat = hI h t 0 c.toNat := fun t => by rw [hI_nk (by omega), hI_nk (by omega), hI_nk (by omega)]
      have e9 : ∀ j, hI (mset (mset (mset h 14 0 z.toNat (I w)) 15 0 z.toNat (I k)) 16 0 z.toNat (I f)) 19 0 j = hI h 19 0 j := fun j => by rw [hI_nt (by omega), hI_nt (by omega), hI_nt (by omega)]
      refine ⟨?_, fun e2 => ⟨?_, ?_⟩, fun e2 => ⟨?_, ?_, fun i i0 i1 => ?_⟩⟩
      · rw [e0, p]; exact (fu_o e).symm
      · have e2 : fu (ho S) z w c = 1 := e2
        rw [fu_o e] at e2
        rw [e0, (q e2).1]
        show _ = (if w = 0 then sk S else fu (sk S) z k) c
        split
        · rfl
        · exact (fu_o e).symm
      · have e2 : fu (ho S) z w c = 1 := e2
        rw [fu_o e] at e2
        rw [e0, (q e2).2]
        show _ = (if w = 0 then sf S else fu (sf S) z f) c
        split
        · rfl
        · exact (fu_o e).symm
      · have e2 : fu (ho S) z w c = 2 := e2
        rw [fu_o e] at e2
        rw [e0]; exact (r e2).1
      · have e2 : fu (ho S) z w c = 2 := e2
        rw [fu_o e] at e2
        rw [e0]; exact (r e2).2.1
      · have e2 : fu (ho S) z w c = 2 := e2
        rw [fu_o e] at e2
        rw [e9]; exact (r e2).2.2 i i0 i1
  have k0 : (0 ≤ z ∧ z < 8) → w = 0 → Q (some (ai (I 0))) (mset (mset (mset h 14 0 z.toNat (I w)) 15 0 z.toNat (I k)) 16 0 z.toNat (I f)) := fun a b => hq _ (fu (ho S) z 0, sk S, sf S, so S, sz S, el S) _ (by unfold oKeep; rw [if_pos ⟨a, b⟩]) (kk _ a (Or.inl b) (by subst b; rfl)) (((FrT.rf.ms (by omega)).ms (by omega)).ms (by omega))
  have k1 : (0 ≤ z ∧ z < 8) → w = 1 → (0 ≤ k ∧ k < 8) → (0 ≤ f ∧ f < 10) → Q (some (ai (I 0))) (mset (mset (mset h 14 0 z.toNat (I w)) 15 0 z.toNat (I k)) 16 0 z.toNat (I f)) := fun a b c1 c2 => hq _ (fu (ho S) z 1, fu (sk S) z k, fu (sf S) z f, so S, sz S, el S) _ (by unfold oKeep; rw [if_neg (by omega), if_pos ⟨a, b, c1, c2⟩]) (kk _ a (Or.inr b) (by subst b; rfl)) (((FrT.rf.ms (by omega)).ms (by omega)).ms (by omega))
  have k2 : ¬ ((0 ≤ z ∧ z < 8) ∧ w = 0) → ¬ ((0 ≤ z ∧ z < 8) ∧ w = 1 ∧ (0 ≤ k ∧ k < 8) ∧ 0 ≤ f ∧ f < 10) → Q (some (ai (I (-1)))) h := fun a b => hq _ _ _ (by unfold oKeep; rw [if_neg a, if_neg b]) hS FrT.rf
  repeat' (first
    | exact k0 (by omega) (by omega)
    | exact k1 (by omega) (by omega) (by omega) (by omega)
    | exact k2 (by omega) (by omega)
    | (show Rn _ _ 145 _ _ _; refine c_X4_isShelf (by first | omega | exact hI_R) (fun _ _ => ?_) (fun _ => ?_))
    | (show Rn _ _ 105 _ _ _; refine c_X4_isIn (by first | omega | exact hI_R) (by first | omega | exact hI_R) (by first | omega | exact hI_R) (fun _ _ => ?_) (fun _ => ?_))
    | (show Rch _ _ _ _ _ 0 _ _ _; refine Rch.blk' (Rn_mono mt _) bl_X4_keep_0 (i_iload_n rfl (t_cs1 (Rn_mono mt _) 4 rfl (Nat.le_of_ble_eq_true rfl) ?_)))
    | (show Rch _ _ _ _ _ 4 _ _ _; refine Rch.blk' (Rn_mono mt _) bl_X4_keep_4 (t_if_eq 42 7 rfl rfl (by first | exact hI_R | exact band_R | exact bor_R | exact bshr_R | exact lcm_R | omega) (fun hc => ?_) (fun hc => ?_)) <;> (first | (exfalso; omega) | skip))
    | (show Rch _ _ _ _ _ 7 _ _ _; refine Rch.blk' (Rn_mono mt _) bl_X4_keep_7 (i_iload_n rfl (i_iconst k_0 (i_iconst k_1 (t_cs3 (Rn_mono mt _) 13 rfl (Nat.le_of_ble_eq_true rfl) ?_)))))
    | (show Rch _ _ _ _ _ 13 _ _ _; refine Rch.blk' (Rn_mono mt _) bl_X4_keep_13 (t_if_eq 42 16 rfl rfl (by first | exact hI_R | exact band_R | exact bor_R | exact bshr_R | exact lcm_R | omega) (fun hc => ?_) (fun hc => ?_)) <;> (first | (exfalso; omega) | skip))
    | (show Rch _ _ _ _ _ 16 _ _ _; refine Rch.blk' (Rn_mono mt _) bl_X4_keep_16 (i_iload_n rfl (i_iconst k_1 (t_ic_ne 44 21 rfl rfl (by first | exact hI_R | exact band_R | exact bor_R | exact bshr_R | exact lcm_R | omega) (by first | exact hI_R | exact band_R | exact bor_R | exact bshr_R | exact lcm_R | omega) (fun hc => ?_) (fun hc => ?_)))) <;> (first | (exfalso; omega) | skip))
    | (show Rch _ _ _ _ _ 21 _ _ _; refine Rch.blk' (Rn_mono mt _) bl_X4_keep_21 (i_iload_n rfl (i_iconst k_0 (i_bipush k_7 (t_cs3 (Rn_mono mt _) 28 rfl (Nat.le_of_ble_eq_true rfl) ?_)))))
    | (show Rch _ _ _ _ _ 28 _ _ _; refine Rch.blk' (Rn_mono mt _) bl_X4_keep_28 (t_if_eq 42 31 rfl rfl (by first | exact hI_R | exact band_R | exact bor_R | exact bshr_R | exact lcm_R | omega) (fun hc => ?_) (fun hc => ?_)) <;> (first | (exfalso; omega) | skip))
    | (show Rch _ _ _ _ _ 31 _ _ _; refine Rch.blk' (Rn_mono mt _) bl_X4_keep_31 (i_iload rfl (i_iconst k_0 (i_bipush k_9 (t_cs3 (Rn_mono mt _) 39 rfl (Nat.le_of_ble_eq_true rfl) ?_)))))
    | (show Rch _ _ _ _ _ 39 _ _ _; refine Rch.blk' (Rn_mono mt _) bl_X4_keep_39 (t_if_ne 44 42 rfl rfl (by first | exact hI_R | exact band_R | exact bor_R | exact bshr_R | exact lcm_R | omega) (fun hc => ?_) (fun hc => ?_)) <;> (first | (exfalso; omega) | skip))
    | (show Rch _ _ _ _ _ 42 _ _ _; refine Rch.blk' (Rn_mono mt _) bl_X4_keep_42 (i_iconst k_m1 (t_iret ?_)))
    | (show Rch _ _ _ _ _ 44 _ _ _; refine Rch.blk' (Rn_mono mt _) bl_X4_keep_44 (i_aload_n rfl (i_gfs rfl (i_iload_n rfl (i_iload_n rfl (i_iast (n := 8) rfl rfl (by omega) (by omega) (by omega) (i_aload_n rfl (i_gfs rfl (i_iload_n rfl (i_iload_n rfl (i_iast (n := 8) rfl rfl (by omega) (by omega) (by omega) (i_aload_n rfl (i_gfs rfl (i_iload_n rfl (i_iload rfl (i_iast (n := 8) rfl rfl (by omega) (by omega) (by omega) (i_iconst k_0 (t_iret ?_)))))))))))))))))))
theorem c_X4_row (hS : SR h S) {z s n : Int} (hz : inR z) (hs : inR s) (hn : inR n) (hq : ∀ v S' h', oRow S z s n = (v, S') → SR h' S' → FrT h h' → Q (some (ai (I v))) h') : Rn mt (d + 20) 201 [ar 3 0, ai (I z), ai (I s), ai (I n)] h Q := by
  refine Rn.intro iX4_row rfl rfl ?_
  show Rch bX4_row _ _ _ _ 0 [some (ar 3 0), some (ai (I z)), some (ai (I s)), some (ai (I n)), none] [] _
  have k1 : ((0 ≤ z ∧ z < 8) ∧ (0 ≤ s ∧ s ≤ 2) ∧ n ≤ 100) → n < 0 → Q (some (ai (I (-14)))) h := fun a b => hq _ _ _ (by unfold oRow; rw [if_pos a, if_pos b]) hS FrT.rf
  have k2 : ¬ ((0 ≤ z ∧ z < 8) ∧ (0 ≤ s ∧ s ≤ 2) ∧ n ≤ 100) → Q (some (ai (I (-1)))) h := fun a => hq _ _ _ (by unfold oRow; rw [if_neg a]) hS FrT.rf
  have key : ((0 ≤ z ∧ z < 8) ∧ (0 ≤ s ∧ s ≤ 2) ∧ n ≤ 100) → ¬ n < 0 → ∀ k : Int, k ≤ 100 → 0 ≤ k → ∀ h', (∀ i : Int, 0 ≤ i → i < k → hI h' 19 0 (100 * z + i).toNat = 0) → (∀ a i : Int, 0 ≤ a → ¬ a = z → 0 ≤ i → i < 100 → hI h' 19 0 (100 * a + i).toNat = hI h 19 0 (100 * a + i).toNat) → (∀ t b j : Nat, ¬ t = 19 → hI h' t b j = hI (mset (mset (mset h 14 0 z.toNat (I 2)) 17 0 z.toNat (I s)) 18 0 z.toNat (I n)) t b j) → RH bX4_row (d + 19) Q 55 [some (ar 3 0), some (ai (I z)), some (ai (I s)), some (ai (I n)), some (ai (I k))] h' := by
    intro a b
    refine up_ind (fun k hk ih hk0 h' hj hF hG => ?_)
    by_cases hk1 : k < 100
    · have ih := ih hk1 (by omega) (mset h' 19 0 (100 * z + k).toNat (I 0)) (fun i i0 i1 => by
        by_cases e : i = k
        · subst e; rw [hI_eq ⟨by omega, by omega⟩]
        · rw [hI_nk (by omega)]; exact hj i i0 (by omega)) (fun c i c0 cz i0 i1 => by
        rw [hI_nk (by omega)]; exact hF c i c0 cz i0 i1) (fun t b j hn => by rw [hI_nt hn]; exact hG t b j hn)
      refine Rch.blk' (Rn_mono mt _) bl_X4_row_55 (i_iload rfl (i_bipush k_100 (t_ic_ge 81 62 rfl rfl (by first | exact hI_R | exact band_R | exact bor_R | exact bshr_R | exact lcm_R | omega) (by first | exact hI_R | exact band_R | exact bor_R | exact bshr_R | exact lcm_R | omega) (fun hc => ?_) (fun hc => ?_)))) <;> (first | (exfalso; omega) | skip)
      repeat' (first
        | exact ih
        | (show Rn _ _ 145 _ _ _; refine c_X4_isShelf (by first | omega | exact hI_R) (fun _ _ => ?_) (fun _ => ?_))
        | (show Rn _ _ 105 _ _ _; refine c_X4_isIn (by first | omega | exact hI_R) (by first | omega | exact hI_R) (by first | omega | exact hI_R) (fun _ _ => ?_) (fun _ => ?_))
        | (show Rch _ _ _ _ _ 0 _ _ _; refine Rch.blk' (Rn_mono mt _) bl_X4_row_0 (i_iload_n rfl (t_cs1 (Rn_mono mt _) 4 rfl (Nat.le_of_ble_eq_true rfl) ?_)))
        | (show Rch _ _ _ _ _ 4 _ _ _; refine Rch.blk' (Rn_mono mt _) bl_X4_row_4 (t_if_eq 22 7 rfl rfl (by first | exact hI_R | exact band_R | exact bor_R | exact bshr_R | exact lcm_R | omega) (fun hc => ?_) (fun hc => ?_)) <;> (first | (exfalso; omega) | skip))
        | (show Rch _ _ _ _ _ 7 _ _ _; refine Rch.blk' (Rn_mono mt _) bl_X4_row_7 (i_iload_n rfl (i_iconst k_0 (i_iconst k_2 (t_cs3 (Rn_mono mt _) 13 rfl (Nat.le_of_ble_eq_true rfl) ?_)))))
        | (show Rch _ _ _ _ _ 13 _ _ _; refine Rch.blk' (Rn_mono mt _) bl_X4_row_13 (t_if_eq 22 16 rfl rfl (by first | exact hI_R | exact band_R | exact bor_R | exact bshr_R | exact lcm_R | omega) (fun hc => ?_) (fun hc => ?_)) <;> (first | (exfalso; omega) | skip))
        | (show Rch _ _ _ _ _ 16 _ _ _; refine Rch.blk' (Rn_mono mt _) bl_X4_row_16 (i_iload_n rfl (i_bipush k_100 (t_ic_le 24 22 rfl rfl (by first | exact hI_R | exact band_R | exact bor_R | exact bshr_R | exact lcm_R | omega) (by first | exact hI_R | exact band_R | exact bor_R | exact bshr_R | exact lcm_R | omega) (fun hc => ?_) (fun hc => ?_)))) <;> (first | (exfalso; omega) | skip))
        | (show Rch _ _ _ _ _ 22 _ _ _; refine Rch.blk' (Rn_mono mt _) bl_X4_row_22 (i_iconst k_m1 (t_iret ?_)))
        | (show Rch _ _ _ _ _ 24 _ _ _; refine Rch.blk' (Rn_mono mt _) bl_X4_row_24 (i_iload_n rfl (t_if_ge 31 28 rfl rfl (by first | exact hI_R | exact band_R | exact bor_R | exact bshr_R | exact lcm_R | omega) (fun hc => ?_) (fun hc => ?_))) <;> (first | (exfalso; omega) | skip))
        | (show Rch _ _ _ _ _ 28 _ _ _; refine Rch.blk' (Rn_mono mt _) bl_X4_row_28 (i_bipush k_m14 (t_iret ?_)))
        | (show Rch _ _ _ _ _ 31 _ _ _; refine Rch.blk' (Rn_mono mt _) bl_X4_row_31 (i_aload_n rfl (i_gfs rfl (i_iload_n rfl (i_iconst k_2 (i_iast (n := 8) rfl rfl (by omega) (by omega) (by omega) (i_aload_n rfl (i_gfs rfl (i_iload_n rfl (i_iload_n rfl (i_iast (n := 8) rfl rfl (by omega) (by omega) (by omega) (i_aload_n rfl (i_gfs rfl (i_iload_n rfl (i_iload_n rfl (i_iast (n := 8) rfl rfl (by omega) (by omega) (by omega) (i_iconst k_0 (i_istore4 trivial (t_none ?_)))))))))))))))))))
        | (show Rch _ _ _ _ _ 62 _ _ _; refine Rch.blk' (Rn_mono mt _) bl_X4_row_62 (i_aload_n rfl (i_gfs rfl (i_bipush k_100 (i_iload_n rfl (i_imul (i_iload rfl (i_iadd (i_iconst k_0 (i_iast (n := 800) rfl rfl (by omega) (by omega) (by omega) (i_iinc4 trivial k_1 (t_goto 55 rfl ?_))))))))))))
        | (show Rch _ _ _ _ _ 81 _ _ _; refine Rch.blk' (Rn_mono mt _) bl_X4_row_81 (i_iconst k_0 (t_iret ?_))))
    · obtain rfl : k = 100 := by omega
      have kq : Q (some (ai (I 0))) h' := by
        refine hq _ _ h' (by unfold oRow; rw [if_pos a, if_neg b]) (fun c c0 c1 => ?_) (fun t b j hn => ?_)
        · obtain ⟨p, q, r⟩ := hS c c0 c1
          by_cases e : c = z
          · subst e
            refine ⟨?_, fun e => ?_, fun _ => ⟨?_, ?_, fun i i0 i1 => ?_⟩⟩
            · rw [hG _ _ _ (by omega), hI_nt (by omega), hI_nt (by omega), hI_eq ⟨by omega, by omega⟩]; exact fu_s.symm
            · have e : fu (ho S) c 2 c = 1 := e
              rw [fu_s] at e; omega
            · rw [hG _ _ _ (by omega), hI_nt (by omega), hI_eq hs]; exact fu_s.symm
            · rw [hG _ _ _ (by omega), hI_eq hn]; exact fu_s.symm
            · rw [hj i i0 i1]; exact (if_pos rfl).symm
          · have e0 : ∀ t, ¬ t = 19 → hI h' t 0 c.toNat = hI h t 0 c.toNat := fun t ht => by rw [hG _ _ _ ht, hI_nk (by omega), hI_nk (by omega), hI_nk (by omega)]
            refine ⟨?_, fun e2 => ⟨?_, ?_⟩, fun e2 => ⟨?_, ?_, fun i i0 i1 => ?_⟩⟩
            · rw [e0 _ (by omega), p]; exact (fu_o e).symm
            · have e2 : fu (ho S) z 2 c = 1 := e2
              rw [fu_o e] at e2
              rw [e0 _ (by omega)]; exact (q e2).1
            · have e2 : fu (ho S) z 2 c = 1 := e2
              rw [fu_o e] at e2
              rw [e0 _ (by omega)]; exact (q e2).2
            · have e2 : fu (ho S) z 2 c = 2 := e2
              rw [fu_o e] at e2
              rw [e0 _ (by omega), (r e2).1]; exact (fu_o e).symm
            · have e2 : fu (ho S) z 2 c = 2 := e2
              rw [fu_o e] at e2
              rw [e0 _ (by omega), (r e2).2.1]; exact (fu_o e).symm
            · have e2 : fu (ho S) z 2 c = 2 := e2
              rw [fu_o e] at e2
              rw [hF c i c0 e i0 i1, (r e2).2.2 i i0 i1]; exact (if_neg e).symm
        · rw [hG _ _ _ (by omega), hI_nt (by omega), hI_nt (by omega), hI_nt (by omega)]
      refine Rch.blk' (Rn_mono mt _) bl_X4_row_55 (i_iload rfl (i_bipush k_100 (t_ic_ge 81 62 rfl rfl (by first | exact hI_R | exact band_R | exact bor_R | exact bshr_R | exact lcm_R | omega) (by first | exact hI_R | exact band_R | exact bor_R | exact bshr_R | exact lcm_R | omega) (fun hc => ?_) (fun hc => ?_)))) <;> (first | (exfalso; omega) | skip)
      repeat' (first
        | exact kq
        | (show Rn _ _ 145 _ _ _; refine c_X4_isShelf (by first | omega | exact hI_R) (fun _ _ => ?_) (fun _ => ?_))
        | (show Rn _ _ 105 _ _ _; refine c_X4_isIn (by first | omega | exact hI_R) (by first | omega | exact hI_R) (by first | omega | exact hI_R) (fun _ _ => ?_) (fun _ => ?_))
        | (show Rch _ _ _ _ _ 0 _ _ _; refine Rch.blk' (Rn_mono mt _) bl_X4_row_0 (i_iload_n rfl (t_cs1 (Rn_mono mt _) 4 rfl (Nat.le_of_ble_eq_true rfl) ?_)))
        | (show Rch _ _ _ _ _ 4 _ _ _; refine Rch.blk' (Rn_mono mt _) bl_X4_row_4 (t_if_eq 22 7 rfl rfl (by first | exact hI_R | exact band_R | exact bor_R | exact bshr_R | exact lcm_R | omega) (fun hc => ?_) (fun hc => ?_)) <;> (first | (exfalso; omega) | skip))
        | (show Rch _ _ _ _ _ 7 _ _ _; refine Rch.blk' (Rn_mono mt _) bl_X4_row_7 (i_iload_n rfl (i_iconst k_0 (i_iconst k_2 (t_cs3 (Rn_mono mt _) 13 rfl (Nat.le_of_ble_eq_true rfl) ?_)))))
        | (show Rch _ _ _ _ _ 13 _ _ _; refine Rch.blk' (Rn_mono mt _) bl_X4_row_13 (t_if_eq 22 16 rfl rfl (by first | exact hI_R | exact band_R | exact bor_R | exact bshr_R | exact lcm_R | omega) (fun hc => ?_) (fun hc => ?_)) <;> (first | (exfalso; omega) | skip))
        | (show Rch _ _ _ _ _ 16 _ _ _; refine Rch.blk' (Rn_mono mt _) bl_X4_row_16 (i_iload_n rfl (i_bipush k_100 (t_ic_le 24 22 rfl rfl (by first | exact hI_R | exact band_R | exact bor_R | exact bshr_R | exact lcm_R | omega) (by first | exact hI_R | exact band_R | exact bor_R | exact bshr_R | exact lcm_R | omega) (fun hc => ?_) (fun hc => ?_)))) <;> (first | (exfalso; omega) | skip))
        | (show Rch _ _ _ _ _ 22 _ _ _; refine Rch.blk' (Rn_mono mt _) bl_X4_row_22 (i_iconst k_m1 (t_iret ?_)))
        | (show Rch _ _ _ _ _ 24 _ _ _; refine Rch.blk' (Rn_mono mt _) bl_X4_row_24 (i_iload_n rfl (t_if_ge 31 28 rfl rfl (by first | exact hI_R | exact band_R | exact bor_R | exact bshr_R | exact lcm_R | omega) (fun hc => ?_) (fun hc => ?_))) <;> (first | (exfalso; omega) | skip))
        | (show Rch _ _ _ _ _ 28 _ _ _; refine Rch.blk' (Rn_mono mt _) bl_X4_row_28 (i_bipush k_m14 (t_iret ?_)))
        | (show Rch _ _ _ _ _ 31 _ _ _; refine Rch.blk' (Rn_mono mt _) bl_X4_row_31 (i_aload_n rfl (i_gfs rfl (i_iload_n rfl (i_iconst k_2 (i_iast (n := 8) rfl rfl (by omega) (by omega) (by omega) (i_aload_n rfl (i_gfs rfl (i_iload_n rfl (i_iload_n rfl (i_iast (n := 8) rfl rfl (by omega) (by omega) (by omega) (i_aload_n rfl (i_gfs rfl (i_iload_n rfl (i_iload_n rfl (i_iast (n := 8) rfl rfl (by omega) (by omega) (by omega) (i_iconst k_0 (i_istore4 trivial (t_none ?_)))))))))))))))))))
        | (show Rch _ _ _ _ _ 62 _ _ _; refine Rch.blk' (Rn_mono mt _) bl_X4_row_62 (i_aload_n rfl (i_gfs rfl (i_bipush k_100 (i_iload_n rfl (i_imul (i_iload rfl (i_iadd (i_iconst k_0 (i_iast (n := 800) rfl rfl (by omega) (by omega) (by omega) (i_iinc4 trivial k_1 (t_goto 55 rfl ?_))))))))))))
        | (show Rch _ _ _ _ _ 81 _ _ _; refine Rch.blk' (Rn_mono mt _) bl_X4_row_81 (i_iconst k_0 (t_iret ?_))))
  repeat' (first
    | exact key (by omega) (by omega) 0 (by omega) (by omega) _ (fun i _ _ => by omega) (fun a i _ _ _ _ => by rw [hI_nt (by omega), hI_nt (by omega), hI_nt (by omega)]) (fun _ _ _ _ => rfl)
    | exact k1 (by omega) (by omega)
    | exact k2 (by omega)
    | (show Rn _ _ 145 _ _ _; refine c_X4_isShelf (by first | omega | exact hI_R) (fun _ _ => ?_) (fun _ => ?_))
    | (show Rn _ _ 105 _ _ _; refine c_X4_isIn (by first | omega | exact hI_R) (by first | omega | exact hI_R) (by first | omega | exact hI_R) (fun _ _ => ?_) (fun _ => ?_))
    | (show Rch _ _ _ _ _ 0 _ _ _; refine Rch.blk' (Rn_mono mt _) bl_X4_row_0 (i_iload_n rfl (t_cs1 (Rn_mono mt _) 4 rfl (Nat.le_of_ble_eq_true rfl) ?_)))
    | (show Rch _ _ _ _ _ 4 _ _ _; refine Rch.blk' (Rn_mono mt _) bl_X4_row_4 (t_if_eq 22 7 rfl rfl (by first | exact hI_R | exact band_R | exact bor_R | exact bshr_R | exact lcm_R | omega) (fun hc => ?_) (fun hc => ?_)) <;> (first | (exfalso; omega) | skip))
    | (show Rch _ _ _ _ _ 7 _ _ _; refine Rch.blk' (Rn_mono mt _) bl_X4_row_7 (i_iload_n rfl (i_iconst k_0 (i_iconst k_2 (t_cs3 (Rn_mono mt _) 13 rfl (Nat.le_of_ble_eq_true rfl) ?_)))))
    | (show Rch _ _ _ _ _ 13 _ _ _; refine Rch.blk' (Rn_mono mt _) bl_X4_row_13 (t_if_eq 22 16 rfl rfl (by first | exact hI_R | exact band_R | exact bor_R | exact bshr_R | exact lcm_R | omega) (fun hc => ?_) (fun hc => ?_)) <;> (first | (exfalso; omega) | skip))
    | (show Rch _ _ _ _ _ 16 _ _ _; refine Rch.blk' (Rn_mono mt _) bl_X4_row_16 (i_iload_n rfl (i_bipush k_100 (t_ic_le 24 22 rfl rfl (by first | exact hI_R | exact band_R | exact bor_R | exact bshr_R | exact lcm_R | omega) (by first | exact hI_R | exact band_R | exact bor_R | exact bshr_R | exact lcm_R | omega) (fun hc => ?_) (fun hc => ?_)))) <;> (first | (exfalso; omega) | skip))
    | (show Rch _ _ _ _ _ 22 _ _ _; refine Rch.blk' (Rn_mono mt _) bl_X4_row_22 (i_iconst k_m1 (t_iret ?_)))
    | (show Rch _ _ _ _ _ 24 _ _ _; refine Rch.blk' (Rn_mono mt _) bl_X4_row_24 (i_iload_n rfl (t_if_ge 31 28 rfl rfl (by first | exact hI_R | exact band_R | exact bor_R | exact bshr_R | exact lcm_R | omega) (fun hc => ?_) (fun hc => ?_))) <;> (first | (exfalso; omega) | skip))
    | (show Rch _ _ _ _ _ 28 _ _ _; refine Rch.blk' (Rn_mono mt _) bl_X4_row_28 (i_bipush k_m14 (t_iret ?_)))
    | (show Rch _ _ _ _ _ 31 _ _ _; refine Rch.blk' (Rn_mono mt _) bl_X4_row_31 (i_aload_n rfl (i_gfs rfl (i_iload_n rfl (i_iconst k_2 (i_iast (n := 8) rfl rfl (by omega) (by omega) (by omega) (i_aload_n rfl (i_gfs rfl (i_iload_n rfl (i_iload_n rfl (i_iast (n := 8) rfl rfl (by omega) (by omega) (by omega) (i_aload_n rfl (i_gfs rfl (i_iload_n rfl (i_iload_n rfl (i_iast (n := 8) rfl rfl (by omega) (by omega) (by omega) (i_iconst k_0 (i_istore4 trivial (t_none ?_)))))))))))))))))))
    | (show Rch _ _ _ _ _ 62 _ _ _; refine Rch.blk' (Rn_mono mt _) bl_X4_row_62 (i_aload_n rfl (i_gfs rfl (i_bipush k_100 (i_iload_n rfl (i_imul (i_iload rfl (i_iadd (i_iconst k_0 (i_iast (n := 800) rfl rfl (by omega) (by omega) (by omega) (i_iinc4 trivial k_1 (t_goto 55 rfl ?_))))))))))))
    | (show Rch _ _ _ _ _ 81 _ _ _; refine Rch.blk' (Rn_mono mt _) bl_X4_row_81 (i_iconst k_0 (t_iret ?_))))
theorem SR_setE {S : Sv} (hS : SR h S) {z i v : Int} (z0 : 0 ≤ z) (i0 : 0 ≤ i) (i1 : i < 100) (hv : inR v) : SR (mset h 19 0 (100 * z + i).toNat (I v)) (setE S z i v) := by
  intro a a0 a1
  obtain ⟨p, q, r⟩ := hS a a0 a1
  refine ⟨(hI_nt (by omega)).trans p, fun e => ⟨(hI_nt (by omega)).trans (q e).1, (hI_nt (by omega)).trans (q e).2⟩, fun e => ⟨(hI_nt (by omega)).trans (r e).1, (hI_nt (by omega)).trans (r e).2.1, fun j j0 j1 => ?_⟩⟩
  show _ = if a = z ∧ j = i then v else el S a j
  by_cases c : a = z ∧ j = i
  · rw [if_pos c]; obtain ⟨c, c2⟩ := c; subst c; subst c2; rw [hI_eq hv]
  · rw [if_neg c, hI_nk (by omega)]; exact (r e).2.2 j j0 j1
theorem c_X4_put (hS : SR h S) (hK : OKS S) {z i v : Int} (hz : inR z) (hi : inR i) (hv : inR v) (hq : ∀ u S' h', oPut S z i v = (u, S') → SR h' S' → FrT h h' → Q (some (ai (I u))) h') : Rn mt (d + 20) 202 [ar 3 0, ai (I z), ai (I i), ai (I v)] h Q := by
  refine Rn.intro iX4_put rfl rfl ?_
  show Rch bX4_put _ _ _ _ 0 [some (ar 3 0), some (ai (I z)), some (ai (I i)), some (ai (I v)), none] [] _
  have e_s := fun a b => @SR.s _ _ z hS a b
  have e_z := fun a b => @SR.z _ _ z hS a b
  have g := hK z
  have r1 : rfu S z 2 = 0 → (0 ≤ z ∧ z < 8) ∧ ho S z = 2 := fun e => by unfold rfu at e; omega
  have r2 : wrf S z (-1) = rfu S z 2 := by unfold wrf; rw [if_neg (by omega)]
  have k0 : ∀ y, y = nar (so S z) v → rfu S z 2 = 0 → (0 ≤ i ∧ i < sz S z) → Q (some (ai (I 0))) (mset h 19 0 (100 * z + i).toNat (I y)) := fun y e a b => hq _ _ _ (by unfold oPut; rw [if_pos a, if_pos b]) (by rw [e]; exact SR_setE hS (by omega) b.1 (by omega) (nar_R hv)) (FrT.rf.ms (by omega))
  have k1 : rfu S z 2 = 0 → ¬ (0 ≤ i ∧ i < sz S z) → Q (some (ai (I (-13)))) h := fun a b => hq _ _ _ (by unfold oPut; rw [if_pos a, if_neg b]) hS FrT.rf
  have k2 : ∀ u, u = rfu S z 2 → ¬ u = 0 → Q (some (ai (I u))) h := fun u e a => hq _ _ _ (by unfold oPut; rw [if_neg (by omega), e]) hS FrT.rf
  repeat' (first
    | exact k0 _ (by unfold nar; omega) (by omega) (by omega)
    | exact k1 (by omega) (by omega)
    | exact k2 _ (by omega) (by omega)
    | (show Rn _ _ 146 _ _ _; refine c_X4_wrongRow (by assumption) (by assumption) (by omega) (fun _ _ _ _ => ?_))
    | (show Rn _ _ 105 _ _ _; refine c_X4_isIn (by first | omega | exact hI_R) (by first | omega | exact hI_R) (by first | omega | exact hI_R) (fun _ _ => ?_) (fun _ => ?_))
    | (show Rch _ _ _ _ _ 0 _ _ _; refine Rch.blk' (Rn_mono mt _) bl_X4_put_0 (i_aload_n rfl (i_iload_n rfl (i_iconst k_m1 (t_cv3 (Rn_mono mt _) 6 rfl (Nat.le_of_ble_eq_true rfl) ?_)))))
    | (show Rch _ _ _ _ _ 6 _ _ _; refine Rch.blk' (Rn_mono mt _) bl_X4_put_6 (i_istore4 trivial (i_iload rfl (t_if_eq 16 13 rfl rfl (by first | exact hI_R | exact band_R | exact bor_R | exact bshr_R | exact lcm_R | omega | (simp (disch := omega) only [e_s, e_z]; omega)) (fun hc => ?_) (fun hc => ?_)))) <;> (first | (exfalso; omega) | skip))
    | (show Rch _ _ _ _ _ 13 _ _ _; refine Rch.blk' (Rn_mono mt _) bl_X4_put_13 (i_iload rfl (t_iret ?_)))
    | (show Rch _ _ _ _ _ 16 _ _ _; refine Rch.blk' (Rn_mono mt _) bl_X4_put_16 (i_iload_n rfl (i_iconst k_0 (i_aload_n rfl (i_gfs rfl (i_iload_n rfl (i_iald (n := 8) rfl (by first | omega | (simp (disch := omega) only [e_s, e_z]; omega)) (by first | omega | (simp (disch := omega) only [e_s, e_z]; omega)) (by first | omega | (simp (disch := omega) only [e_s, e_z]; omega)) (i_iconst k_1 (i_isub (t_cs3 (Rn_mono mt _) 29 rfl (Nat.le_of_ble_eq_true rfl) ?_))))))))) <;> (try (simp (disch := omega) only [e_s, e_z])))
    | (show Rch _ _ _ _ _ 29 _ _ _; refine Rch.blk' (Rn_mono mt _) bl_X4_put_29 (t_if_ne 35 32 rfl rfl (by first | exact hI_R | exact band_R | exact bor_R | exact bshr_R | exact lcm_R | omega | (simp (disch := omega) only [e_s, e_z]; omega)) (fun hc => ?_) (fun hc => ?_)) <;> (first | (exfalso; omega) | skip))
    | (show Rch _ _ _ _ _ 32 _ _ _; refine Rch.blk' (Rn_mono mt _) bl_X4_put_32 (i_bipush k_m13 (t_iret ?_)))
    | (show Rch _ _ _ _ _ 35 _ _ _; refine Rch.blk' (Rn_mono mt _) bl_X4_put_35 (i_aload_n rfl (i_gfs rfl (i_bipush k_100 (i_iload_n rfl (i_imul (i_iload_n rfl (i_iadd (i_aload_n rfl (i_gfs rfl (i_iload_n rfl (i_iald (n := 8) rfl (by first | omega | (simp (disch := omega) only [e_s, e_z]; omega)) (by first | omega | (simp (disch := omega) only [e_s, e_z]; omega)) (by first | omega | (simp (disch := omega) only [e_s, e_z]; omega)) (t_if_ne 59 54 rfl rfl (by first | exact hI_R | exact band_R | exact bor_R | exact bshr_R | exact lcm_R | omega | (simp (disch := omega) only [e_s, e_z]; omega)) (fun hc => ?_) (fun hc => ?_))))))))))))) <;> (try (simp (disch := omega) only [e_s, e_z] at hc ⊢)) <;> (first | (exfalso; omega) | skip))
    | (show Rch _ _ _ _ _ 54 _ _ _; refine Rch.blk' (Rn_mono mt _) bl_X4_put_54 (i_iload_n rfl (i_i2b (t_goto 75 rfl ?_))))
    | (show Rch _ _ _ _ _ 59 _ _ _; refine Rch.blk' (Rn_mono mt _) bl_X4_put_59 (i_aload_n rfl (i_gfs rfl (i_iload_n rfl (i_iald (n := 8) rfl (by first | omega | (simp (disch := omega) only [e_s, e_z]; omega)) (by first | omega | (simp (disch := omega) only [e_s, e_z]; omega)) (by first | omega | (simp (disch := omega) only [e_s, e_z]; omega)) (i_iconst k_1 (t_ic_ne 74 69 rfl rfl (by first | exact hI_R | exact band_R | exact bor_R | exact bshr_R | exact lcm_R | omega | (simp (disch := omega) only [e_s, e_z]; omega)) (by first | exact hI_R | exact band_R | exact bor_R | exact bshr_R | exact lcm_R | omega | (simp (disch := omega) only [e_s, e_z]; omega)) (fun hc => ?_) (fun hc => ?_))))))) <;> (try (simp (disch := omega) only [e_s, e_z] at hc ⊢)) <;> (first | (exfalso; omega) | skip))
    | (show Rch _ _ _ _ _ 69 _ _ _; refine Rch.blk' (Rn_mono mt _) bl_X4_put_69 (i_iload_n rfl (i_i2s (t_goto 75 rfl ?_))))
    | (show Rch _ _ _ _ _ 74 _ _ _; refine Rch.blk' (Rn_mono mt _) bl_X4_put_74 (i_iload_n rfl (t_none ?_)))
    | (show Rch _ _ _ _ _ 75 _ _ _; refine Rch.blk' (Rn_mono mt _) bl_X4_put_75 (i_iast rfl rfl (by first | omega | (simp (disch := omega) only [e_s, e_z]; omega)) (by simp only [aln]; omega) (by simp only [aln]; omega) (i_iconst k_0 (t_iret ?_)))))
end C12

