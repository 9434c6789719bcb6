/-! FALLS: the class's falls -/
theorem fst_P {P : Int → Prop} {n : Int} (h : 0 ≤ fst1 P n) : P (fst1 P n) := by
  unfold fst1 at h ⊢
  by_cases e : ∃ k : Int, 0 ≤ k ∧ k < n ∧ P k ∧ ∀ j : Int, 0 ≤ j → j < k → ¬ P j
  · rw [dif_pos e] at h ⊢
    exact (Classical.choose_spec e).2.2.1
  · rw [dif_neg e] at h; omega
theorem GB_is2 {C : Int → Prop} {w : Int → Int} {p n : Int} (p0 : 0 ≤ p) (hC : C p) (hl : ∀ q : Int, 0 ≤ q → q < p → C q → w q < w p) (hg : ∀ q : Int, p < q → q < n → C q → w q ≤ w p) : ∀ k : Int, 0 ≤ k → k ≤ n → (k ≤ p → GB C w k < 0 ∨ (GB C w k < k ∧ 0 ≤ GB C w k ∧ w (GB C w k) < w p)) ∧ (p < k → GB C w k = p) := by
  refine ind0 (fun _ => ⟨fun _ => Or.inl (by rw [GB_0]; omega), fun h => by omega⟩) (fun k k0 ih hkn => ⟨fun hk => ?_, fun hk => ?_⟩)
  · rw [GB_up k0]
    have i1 := (ih (by omega)).1 (by omega)
    by_cases c : C k ∧ (GB C w k < 0 ∨ w (GB C w k) < w k)
    · rw [ifp_p c]; exact Or.inr ⟨by omega, k0, hl k k0 (by omega) c.1⟩
    · rw [ifp_n c]
      rcases i1 with i1 | ⟨a, b, e⟩
      · exact Or.inl i1
      · exact Or.inr ⟨by omega, b, e⟩
  · rw [GB_up k0]
    by_cases e : k = p
    · subst e
      have i1 := (ih (by omega)).1 (by omega)
      have c : C k ∧ (GB C w k < 0 ∨ w (GB C w k) < w k) := ⟨hC, i1.elim Or.inl (fun z => Or.inr z.2.2)⟩
      rw [ifp_p c]
    · have i1 := (ih (by omega)).2 (by omega)
      rw [i1]
      rw [ifp_n]
      rintro ⟨a, b⟩
      have := hg k (by omega) (by omega) a
      rcases b with b | b <;> omega
section C22
variable {d L : Nat} {h : Mem} {Q : Option AV → Mem → Prop} {G : Bd}
theorem c_X3_firstToFall (hG : RC h 0 G) (hO : OKB G) (hy : dy G ≤ 999) (hq : ∀ h', FrC h h' 2 → Q (some (ai (I (FF G)))) h') : Rn mt L (d + 6) 61 [ar 2 0] h Q := by
  refine Rn.intro iX3_firstToFall rfl rfl ?_
  show Rch bX3_firstToFall _ _ _ _ 0 [some (ar 2 0), none, none] [] _
  have g_n := hO.n
  have key : ∀ n : Int, n ≤ 60 → 0 ≤ n → (∀ q : Int, 0 ≤ q → q < nn G → sq G q < 36 → ∀ j : Int, 0 ≤ j → j < n + 1 → ¬ sq (DN G no0 j) q = 36) → ∀ (u : Option AV) (h' : Mem), RC h' 2 (DN G no0 n) → FrC h h' 2 → RH L bX3_firstToFall (d + 5) Q 13 [some (ar 2 0), some (ai (I n)), u] h' := by
    refine up_ind (fun n hn ih n0 hj u h' hR hF => ?_)
    obtain ⟨hOk, hnk, hdk, -⟩ := DN_f (M := no0) hO n n0
    by_cases hn1 : n < 60
    · have ih := ih hn1 (by omega)
      obtain ⟨hOm, hnm, -, -⟩ := DN_f (M := no0) hO (n + 1) (by omega)
      refine Rch.blk' (Rn_mono mt _ _) bl_X3_firstToFall_13 (i_iload_n rfl (i_bipush k_60 (t_ic_ge 78 19 rfl rfl (by first | exact hI_R | exact band_R | exact bor_R | exact bshr_R | exact lcm_R | omega) (by first | exact hI_R | exact band_R | exact bor_R | exact bshr_R | exact lcm_R | omega) (fun hc => ?_) (fun hc => ?_)))) <;> (first | (exfalso; omega) | skip)
      refine Rch.blk' (Rn_mono mt _ _) bl_X3_firstToFall_19 (i_aload_n rfl (i_gfs rfl (i_iconst k_0 (i_iconst k_0 (t_cv3 (Rn_mono mt _ _) 28 rfl (Nat.le_of_ble_eq_true rfl) ?_)))))
      refine c_X0_passDay0 hR hOk (by omega) (by omega) (fun h2 hG2 hF2 v _ => ?_)
      rw [← DN_up n0] at hG2
      have hFa := hF.tr hF2
      have hG0 := hG.fr hFa (by decide)
      have e_n := hG0.n
      have inner : ∀ k : Int, k ≤ nn G → 0 ≤ k → (∀ q : Int, 0 ≤ q → q < k → sq G q < 36 → ¬ sq (DN G no0 (n + 1)) q = 36) → RH L bX3_firstToFall (d + 5) Q 31 [some (ar 2 0), some (ai (I n)), some (ai (I k))] h2 := by
        refine up_ind (fun k hk ik k0 hi => ?_)
        have g_m : k < nn G → 0 ≤ sq (DN G no0 (n + 1)) k ∧ sq (DN G no0 (n + 1)) k ≤ 36 := fun a => (hOm.pc k k0 (by rw [hnm]; exact a)).2.2.2
        have kH : k < nn G → sq G k < 36 → sq (DN G no0 (n + 1)) k = 36 → Q (some (ai (I k))) h2 := by
          intro a b c
          have eF : FO G k = n + 1 := fst_is (by omega) (by omega) c (fun j j0 j1 => hj k k0 a b j j0 j1)
          have e : FF G = k := by
            refine (GB_is2 (n := nn G) (C := FC G) (w := fun p => - FO G p) (p := k) k0 ⟨b, by omega⟩ (fun q q0 q1 hC => ?_) (fun q q1 q2 hC => ?_) (nn G) g_n.1 (Int.le_refl _)).2 a
            · show - FO G q < - FO G k
              have hP := fst_P (P := fun n => sq (DN G no0 n) q = 36) (n := 61) hC.2
              have hP : sq (DN G no0 (FO G q)) q = 36 := hP
              have h9 : ¬ FO G q < n + 1 := fun z => hj q q0 (by omega) hC.1 _ hC.2 z hP
              have h8 : ¬ FO G q = n + 1 := fun z => hi q q0 q1 hC.1 (by rw [← z]; exact hP)
              omega
            · show - FO G q ≤ - FO G k
              have hP : sq (DN G no0 (FO G q)) q = 36 := fst_P (P := fun n => sq (DN G no0 n) q = 36) (n := 61) hC.2
              have h9 : ¬ FO G q < n + 1 := fun z => hj q (by omega) q2 hC.1 _ hC.2 z hP
              omega
          rw [← e]
          exact hq h2 hFa
        have ik2 : k < nn G → (sq G k < 36 → ¬ sq (DN G no0 (n + 1)) k = 36) → RH L bX3_firstToFall (d + 5) Q 31 [some (ar 2 0), some (ai (I n)), some (ai (I (k + 1)))] h2 := fun a b => ik a (by omega) (fun q q0 q1 q2 => by
          by_cases e : q = k
          · subst e; exact b q2
          · exact hi q q0 (by omega) q2)
        have kE : nn G ≤ k → RH L bX3_firstToFall (d + 5) Q 13 [some (ar 2 0), some (ai (I (n + 1))), some (ai (I k))] h2 := fun a => ih (fun q q0 q1 q2 j j0 j1 => by
          by_cases e : j = n + 1
          · subst e; exact hi q q0 (by omega) q2
          · exact hj q q0 q1 q2 j j0 (by omega)) _ h2 hG2 hFa
        clear ik hi ih hj
        refine Rch.blk' (Rn_mono mt _ _) bl_X3_firstToFall_31 (i_iload_n rfl (i_aload_n rfl (i_gfs rfl (i_gfi rfl (t_ic_ge 72 42 rfl rfl (by first | exact hI_R | exact band_R | exact bor_R | exact bshr_R | exact lcm_R | omega | (simp (disch := omega) only [e_n]; omega)) (by first | exact hI_R | exact band_R | exact bor_R | exact bshr_R | exact lcm_R | omega | (simp (disch := omega) only [e_n]; omega)) (fun hc => ?_) (fun hc => ?_)))))) <;> (try (simp (disch := omega) only [e_n] at hc ⊢)) <;> (first | (exfalso; omega) | skip)
        repeat' (first
          | exact kE (by omega)
          | exact kH (by omega) (by omega) (by omega)
          | exact ik2 (by omega) (by omega)
          | (show Rn _ _ _ 2 _ _ _; refine c_X0_isThere (by assumption) (by assumption) (by first | omega | exact hI_R) (fun _ _ _ _ => ?_) (fun _ => ?_))
          | (show Rch _ _ _ _ _ 0 _ _ _; refine Rch.blk' (Rn_mono mt _ _) bl_X3_firstToFall_0 (i_aload_n rfl (i_gfs rfl (i_aload_n rfl (i_gfs rfl (t_cv2 (Rn_mono mt _ _) 11 rfl (Nat.le_of_ble_eq_true rfl) ?_))))))
          | (show Rch _ _ _ _ _ 11 _ _ _; refine Rch.blk' (Rn_mono mt _ _) bl_X3_firstToFall_11 (i_iconst k_0 (i_istore1 trivial (t_none ?_))))
          | (show Rch _ _ _ _ _ 19 _ _ _; refine Rch.blk' (Rn_mono mt _ _) bl_X3_firstToFall_19 (i_aload_n rfl (i_gfs rfl (i_iconst k_0 (i_iconst k_0 (t_cv3 (Rn_mono mt _ _) 28 rfl (Nat.le_of_ble_eq_true rfl) ?_))))))
          | (show Rch _ _ _ _ _ 28 _ _ _; refine Rch.blk' (Rn_mono mt _ _) bl_X3_firstToFall_28 (i_pop rfl (i_iconst k_0 (i_istore2 trivial (t_none ?_)))))
          | (show Rch _ _ _ _ _ 42 _ _ _; refine Rch.blk' (Rn_mono mt _ _) bl_X3_firstToFall_42 (i_aload_n rfl (i_gfs rfl (i_iload_n rfl (t_cv2 (Rn_mono mt _ _) 50 rfl (Nat.le_of_ble_eq_true rfl) ?_)))))
          | (show Rch _ _ _ _ _ 50 _ _ _; refine Rch.blk' (Rn_mono mt _ _) bl_X3_firstToFall_50 (t_if_eq 66 53 rfl rfl (by first | exact hI_R | exact band_R | exact bor_R | exact bshr_R | exact lcm_R | omega) (fun hc => ?_) (fun hc => ?_)) <;> (first | (exfalso; omega) | skip))
          | (show Rch _ _ _ _ _ 53 _ _ _; refine Rch.blk' (Rn_mono mt _ _) bl_X3_firstToFall_53 (i_aload_n rfl (i_gfs rfl (i_iload_n rfl (t_cv2 (Rn_mono mt _ _) 61 rfl (Nat.le_of_ble_eq_true rfl) ?_)))))
          | (show Rch _ _ _ _ _ 61 _ _ _; refine Rch.blk' (Rn_mono mt _ _) bl_X3_firstToFall_61 (t_if_ne 66 64 rfl rfl (by first | exact hI_R | exact band_R | exact bor_R | exact bshr_R | exact lcm_R | omega) (fun hc => ?_) (fun hc => ?_)) <;> (first | (exfalso; omega) | skip))
          | (show Rch _ _ _ _ _ 64 _ _ _; refine Rch.blk' (Rn_mono mt _ _) bl_X3_firstToFall_64 (i_iload_n rfl (t_iret ?_)))
          | (show Rch _ _ _ _ _ 66 _ _ _; refine Rch.blk' (Rn_mono mt _ _) bl_X3_firstToFall_66 (i_iinc2 trivial k_1 (t_goto 31 rfl ?_)))
          | (show Rch _ _ _ _ _ 72 _ _ _; refine Rch.blk' (Rn_mono mt _ _) bl_X3_firstToFall_72 (i_iinc1 trivial k_1 (t_goto 13 rfl ?_)))
          | (show Rch _ _ _ _ _ 78 _ _ _; refine Rch.blk' (Rn_mono mt _ _) bl_X3_firstToFall_78 (i_bipush k_m4 (t_iret ?_))))
      have i0 := inner 0 (by omega) (by omega) (fun q a b => by omega)
      repeat' (first
        | exact i0
        | (show Rn _ _ _ 2 _ _ _; refine c_X0_isThere (by assumption) (by assumption) (by first | omega | exact hI_R) (fun _ _ _ _ => ?_) (fun _ => ?_))
        | (show Rch _ _ _ _ _ 0 _ _ _; refine Rch.blk' (Rn_mono mt _ _) bl_X3_firstToFall_0 (i_aload_n rfl (i_gfs rfl (i_aload_n rfl (i_gfs rfl (t_cv2 (Rn_mono mt _ _) 11 rfl (Nat.le_of_ble_eq_true rfl) ?_))))))
        | (show Rch _ _ _ _ _ 11 _ _ _; refine Rch.blk' (Rn_mono mt _ _) bl_X3_firstToFall_11 (i_iconst k_0 (i_istore1 trivial (t_none ?_))))
        | (show Rch _ _ _ _ _ 19 _ _ _; refine Rch.blk' (Rn_mono mt _ _) bl_X3_firstToFall_19 (i_aload_n rfl (i_gfs rfl (i_iconst k_0 (i_iconst k_0 (t_cv3 (Rn_mono mt _ _) 28 rfl (Nat.le_of_ble_eq_true rfl) ?_))))))
        | (show Rch _ _ _ _ _ 28 _ _ _; refine Rch.blk' (Rn_mono mt _ _) bl_X3_firstToFall_28 (i_pop rfl (i_iconst k_0 (i_istore2 trivial (t_none ?_)))))
        | (show Rch _ _ _ _ _ 42 _ _ _; refine Rch.blk' (Rn_mono mt _ _) bl_X3_firstToFall_42 (i_aload_n rfl (i_gfs rfl (i_iload_n rfl (t_cv2 (Rn_mono mt _ _) 50 rfl (Nat.le_of_ble_eq_true rfl) ?_)))))
        | (show Rch _ _ _ _ _ 50 _ _ _; refine Rch.blk' (Rn_mono mt _ _) bl_X3_firstToFall_50 (t_if_eq 66 53 rfl rfl (by first | exact hI_R | exact band_R | exact bor_R | exact bshr_R | exact lcm_R | omega) (fun hc => ?_) (fun hc => ?_)) <;> (first | (exfalso; omega) | skip))
        | (show Rch _ _ _ _ _ 53 _ _ _; refine Rch.blk' (Rn_mono mt _ _) bl_X3_firstToFall_53 (i_aload_n rfl (i_gfs rfl (i_iload_n rfl (t_cv2 (Rn_mono mt _ _) 61 rfl (Nat.le_of_ble_eq_true rfl) ?_)))))
        | (show Rch _ _ _ _ _ 61 _ _ _; refine Rch.blk' (Rn_mono mt _ _) bl_X3_firstToFall_61 (t_if_ne 66 64 rfl rfl (by first | exact hI_R | exact band_R | exact bor_R | exact bshr_R | exact lcm_R | omega) (fun hc => ?_) (fun hc => ?_)) <;> (first | (exfalso; omega) | skip))
        | (show Rch _ _ _ _ _ 64 _ _ _; refine Rch.blk' (Rn_mono mt _ _) bl_X3_firstToFall_64 (i_iload_n rfl (t_iret ?_)))
        | (show Rch _ _ _ _ _ 66 _ _ _; refine Rch.blk' (Rn_mono mt _ _) bl_X3_firstToFall_66 (i_iinc2 trivial k_1 (t_goto 31 rfl ?_)))
        | (show Rch _ _ _ _ _ 72 _ _ _; refine Rch.blk' (Rn_mono mt _ _) bl_X3_firstToFall_72 (i_iinc1 trivial k_1 (t_goto 13 rfl ?_)))
        | (show Rch _ _ _ _ _ 78 _ _ _; refine Rch.blk' (Rn_mono mt _ _) bl_X3_firstToFall_78 (i_bipush k_m4 (t_iret ?_))))
    · obtain rfl : n = 60 := by omega
      have e : FF G = -4 := GB_no (n := nn G) (fun q q0 q1 hC => by
        have hP : sq (DN G no0 (FO G q)) q = 36 := fst_P (P := fun n => sq (DN G no0 n) q = 36) (n := 61) hC.2
        have hR : FO G q = -4 ∨ (0 ≤ FO G q ∧ FO G q < 61) := fst_R
        exact hj q q0 q1 hC.1 _ hC.2 (by have := hC.2; omega) hP) (nn G) g_n.1 (by omega)
      have kk := hq h' hF
      rw [e] at kk
      refine Rch.blk' (Rn_mono mt _ _) bl_X3_firstToFall_13 (i_iload_n rfl (i_bipush k_60 (t_ic_ge 78 19 rfl rfl (by first | exact hI_R | exact band_R | exact bor_R | exact bshr_R | exact lcm_R | omega) (by first | exact hI_R | exact band_R | exact bor_R | exact bshr_R | exact lcm_R | omega) (fun hc => ?_) (fun hc => ?_)))) <;> (first | (exfalso; omega) | skip)
      repeat' (first
        | exact kk
        | (show Rn _ _ _ 2 _ _ _; refine c_X0_isThere (by assumption) (by assumption) (by first | omega | exact hI_R) (fun _ _ _ _ => ?_) (fun _ => ?_))
        | (show Rch _ _ _ _ _ 0 _ _ _; refine Rch.blk' (Rn_mono mt _ _) bl_X3_firstToFall_0 (i_aload_n rfl (i_gfs rfl (i_aload_n rfl (i_gfs rfl (t_cv2 (Rn_mono mt _ _) 11 rfl (Nat.le_of_ble_eq_true rfl) ?_))))))
        | (show Rch _ _ _ _ _ 11 _ _ _; refine Rch.blk' (Rn_mono mt _ _) bl_X3_firstToFall_11 (i_iconst k_0 (i_istore1 trivial (t_none ?_))))
        | (show Rch _ _ _ _ _ 19 _ _ _; refine Rch.blk' (Rn_mono mt _ _) bl_X3_firstToFall_19 (i_aload_n rfl (i_gfs rfl (i_iconst k_0 (i_iconst k_0 (t_cv3 (Rn_mono mt _ _) 28 rfl (Nat.le_of_ble_eq_true rfl) ?_))))))
        | (show Rch _ _ _ _ _ 28 _ _ _; refine Rch.blk' (Rn_mono mt _ _) bl_X3_firstToFall_28 (i_pop rfl (i_iconst k_0 (i_istore2 trivial (t_none ?_)))))
        | (show Rch _ _ _ _ _ 31 _ _ _; refine Rch.blk' (Rn_mono mt _ _) bl_X3_firstToFall_31 (i_iload_n rfl (i_aload_n rfl (i_gfs rfl (i_gfi rfl (t_ic_ge 72 42 rfl rfl (by first | exact hI_R | exact band_R | exact bor_R | exact bshr_R | exact lcm_R | omega) (by first | exact hI_R | exact band_R | exact bor_R | exact bshr_R | exact lcm_R | omega) (fun hc => ?_) (fun hc => ?_)))))) <;> (first | (exfalso; omega) | skip))
        | (show Rch _ _ _ _ _ 42 _ _ _; refine Rch.blk' (Rn_mono mt _ _) bl_X3_firstToFall_42 (i_aload_n rfl (i_gfs rfl (i_iload_n rfl (t_cv2 (Rn_mono mt _ _) 50 rfl (Nat.le_of_ble_eq_true rfl) ?_)))))
        | (show Rch _ _ _ _ _ 50 _ _ _; refine Rch.blk' (Rn_mono mt _ _) bl_X3_firstToFall_50 (t_if_eq 66 53 rfl rfl (by first | exact hI_R | exact band_R | exact bor_R | exact bshr_R | exact lcm_R | omega) (fun hc => ?_) (fun hc => ?_)) <;> (first | (exfalso; omega) | skip))
        | (show Rch _ _ _ _ _ 53 _ _ _; refine Rch.blk' (Rn_mono mt _ _) bl_X3_firstToFall_53 (i_aload_n rfl (i_gfs rfl (i_iload_n rfl (t_cv2 (Rn_mono mt _ _) 61 rfl (Nat.le_of_ble_eq_true rfl) ?_)))))
        | (show Rch _ _ _ _ _ 61 _ _ _; refine Rch.blk' (Rn_mono mt _ _) bl_X3_firstToFall_61 (t_if_ne 66 64 rfl rfl (by first | exact hI_R | exact band_R | exact bor_R | exact bshr_R | exact lcm_R | omega) (fun hc => ?_) (fun hc => ?_)) <;> (first | (exfalso; omega) | skip))
        | (show Rch _ _ _ _ _ 64 _ _ _; refine Rch.blk' (Rn_mono mt _ _) bl_X3_firstToFall_64 (i_iload_n rfl (t_iret ?_)))
        | (show Rch _ _ _ _ _ 66 _ _ _; refine Rch.blk' (Rn_mono mt _ _) bl_X3_firstToFall_66 (i_iinc2 trivial k_1 (t_goto 31 rfl ?_)))
        | (show Rch _ _ _ _ _ 72 _ _ _; refine Rch.blk' (Rn_mono mt _ _) bl_X3_firstToFall_72 (i_iinc1 trivial k_1 (t_goto 13 rfl ?_)))
        | (show Rch _ _ _ _ _ 78 _ _ _; refine Rch.blk' (Rn_mono mt _ _) bl_X3_firstToFall_78 (i_bipush k_m4 (t_iret ?_))))
  have kz : ∀ q : Int, 0 ≤ q → q < nn G → sq G q < 36 → ∀ j : Int, 0 ≤ j → j < 0 + 1 → ¬ sq (DN G no0 j) q = 36 := by
    intro q q0 q1 q2 j j0 j1
    have e : j = 0 := by omega
    subst e
    rw [DN_0]; omega
  repeat' (first
    | (show Rn _ _ _ 0 _ _ _; refine c_X0_becomes hG hO (by decide) (fun _ _ _ => ?_))
    | exact key 0 (by omega) (by omega) kz _ _ (by assumption) (by assumption)
    | (show Rn _ _ _ 2 _ _ _; refine c_X0_isThere (by assumption) (by assumption) (by first | omega | exact hI_R) (fun _ _ _ _ => ?_) (fun _ => ?_))
    | (show Rch _ _ _ _ _ 0 _ _ _; refine Rch.blk' (Rn_mono mt _ _) bl_X3_firstToFall_0 (i_aload_n rfl (i_gfs rfl (i_aload_n rfl (i_gfs rfl (t_cv2 (Rn_mono mt _ _) 11 rfl (Nat.le_of_ble_eq_true rfl) ?_))))))
    | (show Rch _ _ _ _ _ 11 _ _ _; refine Rch.blk' (Rn_mono mt _ _) bl_X3_firstToFall_11 (i_iconst k_0 (i_istore1 trivial (t_none ?_))))
    | (show Rch _ _ _ _ _ 19 _ _ _; refine Rch.blk' (Rn_mono mt _ _) bl_X3_firstToFall_19 (i_aload_n rfl (i_gfs rfl (i_iconst k_0 (i_iconst k_0 (t_cv3 (Rn_mono mt _ _) 28 rfl (Nat.le_of_ble_eq_true rfl) ?_))))))
    | (show Rch _ _ _ _ _ 28 _ _ _; refine Rch.blk' (Rn_mono mt _ _) bl_X3_firstToFall_28 (i_pop rfl (i_iconst k_0 (i_istore2 trivial (t_none ?_)))))
    | (show Rch _ _ _ _ _ 31 _ _ _; refine Rch.blk' (Rn_mono mt _ _) bl_X3_firstToFall_31 (i_iload_n rfl (i_aload_n rfl (i_gfs rfl (i_gfi rfl (t_ic_ge 72 42 rfl rfl (by first | exact hI_R | exact band_R | exact bor_R | exact bshr_R | exact lcm_R | omega) (by first | exact hI_R | exact band_R | exact bor_R | exact bshr_R | exact lcm_R | omega) (fun hc => ?_) (fun hc => ?_)))))) <;> (first | (exfalso; omega) | skip))
    | (show Rch _ _ _ _ _ 42 _ _ _; refine Rch.blk' (Rn_mono mt _ _) bl_X3_firstToFall_42 (i_aload_n rfl (i_gfs rfl (i_iload_n rfl (t_cv2 (Rn_mono mt _ _) 50 rfl (Nat.le_of_ble_eq_true rfl) ?_)))))
    | (show Rch _ _ _ _ _ 50 _ _ _; refine Rch.blk' (Rn_mono mt _ _) bl_X3_firstToFall_50 (t_if_eq 66 53 rfl rfl (by first | exact hI_R | exact band_R | exact bor_R | exact bshr_R | exact lcm_R | omega) (fun hc => ?_) (fun hc => ?_)) <;> (first | (exfalso; omega) | skip))
    | (show Rch _ _ _ _ _ 53 _ _ _; refine Rch.blk' (Rn_mono mt _ _) bl_X3_firstToFall_53 (i_aload_n rfl (i_gfs rfl (i_iload_n rfl (t_cv2 (Rn_mono mt _ _) 61 rfl (Nat.le_of_ble_eq_true rfl) ?_)))))
    | (show Rch _ _ _ _ _ 61 _ _ _; refine Rch.blk' (Rn_mono mt _ _) bl_X3_firstToFall_61 (t_if_ne 66 64 rfl rfl (by first | exact hI_R | exact band_R | exact bor_R | exact bshr_R | exact lcm_R | omega) (fun hc => ?_) (fun hc => ?_)) <;> (first | (exfalso; omega) | skip))
    | (show Rch _ _ _ _ _ 64 _ _ _; refine Rch.blk' (Rn_mono mt _ _) bl_X3_firstToFall_64 (i_iload_n rfl (t_iret ?_)))
    | (show Rch _ _ _ _ _ 66 _ _ _; refine Rch.blk' (Rn_mono mt _ _) bl_X3_firstToFall_66 (i_iinc2 trivial k_1 (t_goto 31 rfl ?_)))
    | (show Rch _ _ _ _ _ 72 _ _ _; refine Rch.blk' (Rn_mono mt _ _) bl_X3_firstToFall_72 (i_iinc1 trivial k_1 (t_goto 13 rfl ?_)))
    | (show Rch _ _ _ _ _ 78 _ _ _; refine Rch.blk' (Rn_mono mt _ _) bl_X3_firstToFall_78 (i_bipush k_m4 (t_iret ?_))))
end C22


