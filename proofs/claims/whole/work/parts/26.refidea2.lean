/-! the ideas' range; the reference's ideas -/
theorem sqO_R2 {q r c : Int} : sqO q r c = -4 ∨ (0 ≤ sqO q r c ∧ sqO q r c < 36) := by unfold sqO; omega
theorem ifp_C {P : Prop} {a b : Int} : (P ∧ ifp P a b = a) ∨ (¬ P ∧ ifp P a b = b) := by
  by_cases h : P
  · exact Or.inl ⟨h, ifp_p h⟩
  · exact Or.inr ⟨h, ifp_n h⟩
theorem pwi_R {G : Bd} {p : Int} : pwi G p = -4 ∨ (0 ≤ pwi G p ∧ pwi G p < 36) := by
  unfold pwi
  have a := @sqO_R2 (sq G p) (sg G p 1) 0
  have b := @sqO_R2 (sq G p) (sg G p 1) 1
  rcases @ifp_C (fre G (bk G p 1 0)) (bk G p 1 0) (ifp (hby G (bk G p 1 1) (1 - sd G p)) (bk G p 1 1) (-4)) with ⟨-, e⟩ | ⟨-, e⟩
  · rw [e]; exact a
  · rw [e]
    rcases @ifp_C (hby G (bk G p 1 1) (1 - sd G p)) (bk G p 1 1) (-4) with ⟨-, e⟩ | ⟨-, e⟩
    · rw [e]; exact b
    · rw [e]; exact Or.inl rfl
theorem kni_R {G : Bd} {p : Int} : kni G p = -4 ∨ (0 ≤ kni G p ∧ kni G p < 36) := by
  unfold kni
  have a := @sqO_R2 (sq G p) (sg G p 2) 1
  have b := @sqO_R2 (sq G p) (sg G p 2) (-1)
  rcases @ifp_C (¬ bk G p 2 1 = -4 ∧ ¬ hby G (bk G p 2 1) (sd G p)) (bk G p 2 1) (ifp (¬ bk G p 2 (-1) = -4 ∧ ¬ hby G (bk G p 2 (-1)) (sd G p)) (bk G p 2 (-1)) (-4)) with ⟨-, e⟩ | ⟨-, e⟩
  · rw [e]; exact a
  · rw [e]
    rcases @ifp_C (¬ bk G p 2 (-1) = -4 ∧ ¬ hby G (bk G p 2 (-1)) (sd G p)) (bk G p 2 (-1)) (-4) with ⟨-, e⟩ | ⟨-, e⟩
    · rw [e]; exact b
    · rw [e]; exact Or.inl rfl
theorem bii_R {G : Bd} {p y : Int} : bii G p y = -4 ∨ (0 ≤ bii G p y ∧ bii G p y < 36) := by
  unfold bii
  have a := @sqO_R2 (sq G p) (sg G p 1) 1
  rcases @ifp_C (¬ bk G p 1 1 = -4 ∧ ¬ hby G (bk G p 1 1) (sd G p) ∧ y % (fg G p + 2) = 0) (bk G p 1 1) (-4) with ⟨-, e⟩ | ⟨-, e⟩
  · rw [e]; exact a
  · rw [e]; exact Or.inl rfl
theorem kgi_R {G : Bd} {p : Int} : kgi G p = -4 ∨ (0 ≤ kgi G p ∧ kgi G p < 36) := by
  unfold kgi
  have a := @sqO_R2 (sq G p) (sg G p (-1)) 0
  rcases @ifp_C (fre G (bk G p (-1) 0) ∧ ∃ o, 0 ≤ o ∧ o < nn G ∧ sd G o = 1 - sd G p ∧ sq G o < 36 ∧ fr (sq G o) (sq G p) ≤ 1) (bk G p (-1) 0) (-4) with ⟨-, e⟩ | ⟨-, e⟩
  · rw [e]; exact a
  · rw [e]; exact Or.inl rfl
theorem sld_R {G : Bd} {p r c : Int} : ∀ (m : Nat) (k f : Int), (f = -4 ∨ (0 ≤ f ∧ f < 36)) → sld G p r c m k f = -4 ∨ (0 ≤ sld G p r c m k f ∧ sld G p r c m k f < 36)
  | 0, k, f, hf => hf
  | m + 1, k, f, hf => by
    rw [sld]
    have a := @sqO_R2 (sq G p) (sg G p (k * r)) (k * c)
    by_cases h1 : hby G (bk G p (k * r) (k * c)) (1 - sd G p)
    · rw [ifp_p h1]; exact a
    · rw [ifp_n h1]
      by_cases h2 : fre G (bk G p (k * r) (k * c))
      · rw [ifp_p h2]; exact sld_R m (k + 1) _ a
      · rw [ifp_n h2]; exact hf
theorem sli_R {G : Bd} {p r c : Int} : sli G p r c = -4 ∨ (0 ≤ sli G p r c ∧ sli G p r c < 36) := sld_R _ _ _ (Or.inl rfl)
theorem ide_R {G : Bd} {p y : Int} : ide G p y = -4 ∨ (0 ≤ ide G p y ∧ ide G p y < 36) := by
  unfold ide
  have h1 := @kni_R G p
  have h2 := @sli_R G p 1 0
  have h3 := @sli_R G p 0 1
  have h4 := @bii_R G p y
  have h5 := @kgi_R G p
  have h6 := @pwi_R G p
  have h7 := @sqO_R2 (sq G p) (sg G p 0) (-1)
  have h8 : ifp (fre G (bk G p 0 (-1))) (bk G p 0 (-1)) (bii G p y) = -4 ∨ (0 ≤ ifp (fre G (bk G p 0 (-1))) (bk G p 0 (-1)) (bii G p y) ∧ ifp (fre G (bk G p 0 (-1))) (bk G p 0 (-1)) (bii G p y) < 36) := by
    by_cases h : fre G (bk G p 0 (-1))
    · rw [ifp_p h]; exact h7
    · rw [ifp_n h]; exact h4
  omega
theorem sg_s (G : Bd) (p : Int) : ∃ s : Int, sg G p 1 = s ∧ sg G p 2 = 2 * s ∧ sg G p (-1) = -s ∧ sg G p 0 = 0 ∧ (s = 1 ∨ s = -1) := by
  refine ⟨sg G p 1, rfl, ?_, ?_, ?_, ?_⟩ <;> (unfold sg; omega)
section C4
variable {d : Nat} {h : Mem} {Q : Option AV → Mem → Prop} {b : Nat} {G : Bd} {M : Int → Prop} {ra : Int}
theorem c_X4_forward2 (hG : RR h b G M ra) (hO : OKB G) {z s : Int} (z0 : 0 ≤ z) (z1 : z < nn G) (hs : sg G z 1 = s) (hq : Q (some (ai (I s))) h) : Rn mt (d + 2) 122 [ar 12 b, ai (I z)] h Q := by
  refine c_X4_forward hG hO z0 z1 (fun _ e => ?_) (fun _ e => ?_)
  · rw [← e, hs]; exact hq
  · rw [← e, hs]; exact hq
theorem c_X4_pawnIdea (hG : RR h b G M ra) (hO : OKB G) {z : Int} (h0 : 0 ≤ z) (h1 : z < nn G) (h2 : 0 ≤ sq G z) (h3 : sq G z < 36) (hq : ∀ v, v = pwi G z → -4 ≤ v → v < 36 → Q (some (ai (I v))) h) : Rn mt (d + 4) 123 [ar 12 b, ai (I z)] h Q := by
  refine Rn.intro iX4_pawnIdea rfl rfl ?_
  show Rch bX4_pawnIdea _ _ _ _ 0 [some (ar 12 b), some (ai (I z)), none, none, none] [] _
  have e_q := @RR.q _ _ _ _ _ hG
  have e_s := @RR.s _ _ _ _ _ hG
  have g_n := hO.n
  have g_p := hO.pc z h0 h1
  have g_4 := m4_p h3
  obtain ⟨s, s1, s2, sm, s0, hs⟩ := sg_s G z
  have q1 : (0 ≤ sqO (sq G z) s 0 ∧ sqO (sq G z) s 0 < 36 ∧ ons G (sqO (sq G z) s 0) = -4) → pwi G z = sqO (sq G z) s 0 := by rw [← s1]; exact fun a => ifp_p a
  have q2 : ¬ (0 ≤ sqO (sq G z) s 0 ∧ sqO (sq G z) s 0 < 36 ∧ ons G (sqO (sq G z) s 0) = -4) → (0 ≤ sqO (sq G z) s 1 ∧ sqO (sq G z) s 1 < 36 ∧ 0 ≤ ons G (sqO (sq G z) s 1) ∧ sd G (ons G (sqO (sq G z) s 1)) = 1 - sd G z) → pwi G z = sqO (sq G z) s 1 := by rw [← s1]; exact fun a b => (ifp_n a).trans (ifp_p b)
  have q3 : ¬ (0 ≤ sqO (sq G z) s 0 ∧ sqO (sq G z) s 0 < 36 ∧ ons G (sqO (sq G z) s 0) = -4) → ¬ (0 ≤ sqO (sq G z) s 1 ∧ sqO (sq G z) s 1 < 36 ∧ 0 ≤ ons G (sqO (sq G z) s 1) ∧ sd G (ons G (sqO (sq G z) s 1)) = 1 - sd G z) → pwi G z = -4 := by rw [← s1]; exact fun a b => (ifp_n a).trans (ifp_n b)
  repeat' (first
    | (show Rn _ _ 122 _ _ _; refine c_X4_forward2 (by assumption) (by assumption) (by omega) (by omega) (by assumption) ?_)
    | exact hq _ (q1 (by omega)).symm (by omega) (by omega)
    | exact hq _ (q2 (by omega) (by omega)).symm (by omega) (by omega)
    | exact hq _ (q3 (by omega) (by omega)).symm (by omega) (by omega)
    | (show Rn _ _ 109 _ _ _; refine c_X4_of ?_)
    | (show Rn _ _ 122 _ _ _; refine c_X4_forward (by assumption) (by assumption) (by omega) (by omega) (fun _ _ => ?_) (fun _ _ => ?_))
    | (show Rn _ _ 118 _ _ _; refine c_X4_squareOn (by omega) (by omega) (by omega) (by omega) (fun _ _ => ?_) (fun _ => ?_))
    | (show Rn _ _ 119 _ _ _; refine c_X4_isFree (by assumption) (by assumption) (by omega) (by omega) (fun _ _ _ => ?_) (fun _ => ?_))
    | (show Rn _ _ 120 _ _ _; refine c_X4_isOfSide (by assumption) (by assumption) (by omega) (by first | omega | exact hI_R) (by omega) (fun _ _ _ _ _ => ?_) (fun _ => ?_))
    | (show Rch _ _ _ _ _ 0 _ _ _; refine Rch.blk' (Rn_mono mt _) bl_X4_pawnIdea_0 (i_aload_n rfl (i_iload_n rfl (i_iconst k_3 (t_cs2 (Rn_mono mt _) 6 rfl (Nat.le_of_ble_eq_true rfl) ?_)))))
    | (show Rch _ _ _ _ _ 6 _ _ _; refine Rch.blk' (Rn_mono mt _) bl_X4_pawnIdea_6 (i_iald rfl (by first | omega | (simp (disch := omega) only [e_q, e_s, g_4]; omega)) (by simp only [aln]; omega) (by simp only [aln]; omega) (i_istore2 trivial (i_iload_n rfl (i_aload_n rfl (i_iload_n rfl (t_cs2 (Rn_mono mt _) 14 rfl (Nat.le_of_ble_eq_true rfl) ?_)))))) <;> (try (simp (disch := omega) only [e_q, e_s, g_4])))
    | (show Rch _ _ _ _ _ 14 _ _ _; refine Rch.blk' (Rn_mono mt _) bl_X4_pawnIdea_14 (i_iconst k_0 (t_cs3 (Rn_mono mt _) 18 rfl (Nat.le_of_ble_eq_true rfl) ?_)))
    | (show Rch _ _ _ _ _ 18 _ _ _; refine Rch.blk' (Rn_mono mt _) bl_X4_pawnIdea_18 (i_istore3 trivial (i_iload_n rfl (i_aload_n rfl (i_iload_n rfl (t_cs2 (Rn_mono mt _) 25 rfl (Nat.le_of_ble_eq_true rfl) ?_))))))
    | (show Rch _ _ _ _ _ 25 _ _ _; refine Rch.blk' (Rn_mono mt _) bl_X4_pawnIdea_25 (i_iconst k_1 (t_cs3 (Rn_mono mt _) 29 rfl (Nat.le_of_ble_eq_true rfl) ?_)))
    | (show Rch _ _ _ _ _ 29 _ _ _; refine Rch.blk' (Rn_mono mt _) bl_X4_pawnIdea_29 (i_istore4 trivial (i_aload_n rfl (i_iload_n rfl (t_cs2 (Rn_mono mt _) 36 rfl (Nat.le_of_ble_eq_true rfl) ?_)))))
    | (show Rch _ _ _ _ _ 36 _ _ _; refine Rch.blk' (Rn_mono mt _) bl_X4_pawnIdea_36 (t_if_eq 43 39 rfl rfl (by first | exact hI_R | exact band_R | exact bor_R | exact bshr_R | exact lcm_R | omega | (simp (disch := omega) only [e_q, e_s, g_4]; omega)) (fun hc => ?_) (fun hc => ?_)) <;> (first | (exfalso; omega) | skip))
    | (show Rch _ _ _ _ _ 39 _ _ _; refine Rch.blk' (Rn_mono mt _) bl_X4_pawnIdea_39 (i_iload_n rfl (t_goto 68 rfl ?_)))
    | (show Rch _ _ _ _ _ 43 _ _ _; refine Rch.blk' (Rn_mono mt _) bl_X4_pawnIdea_43 (i_aload_n rfl (i_iload rfl (i_iconst k_1 (i_aload_n rfl (i_iload_n rfl (i_iconst k_2 (t_cs2 (Rn_mono mt _) 53 rfl (Nat.le_of_ble_eq_true rfl) ?_))))))))
    | (show Rch _ _ _ _ _ 53 _ _ _; refine Rch.blk' (Rn_mono mt _) bl_X4_pawnIdea_53 (i_iald rfl (by first | omega | (simp (disch := omega) only [e_q, e_s, g_4]; omega)) (by simp only [aln]; omega) (by simp only [aln]; omega) (i_isub (t_cs3 (Rn_mono mt _) 58 rfl (Nat.le_of_ble_eq_true rfl) ?_))) <;> (try (simp (disch := omega) only [e_q, e_s, g_4])))
    | (show Rch _ _ _ _ _ 58 _ _ _; refine Rch.blk' (Rn_mono mt _) bl_X4_pawnIdea_58 (t_if_eq 66 61 rfl rfl (by first | exact hI_R | exact band_R | exact bor_R | exact bshr_R | exact lcm_R | omega | (simp (disch := omega) only [e_q, e_s, g_4]; omega)) (fun hc => ?_) (fun hc => ?_)) <;> (first | (exfalso; omega) | skip))
    | (show Rch _ _ _ _ _ 61 _ _ _; refine Rch.blk' (Rn_mono mt _) bl_X4_pawnIdea_61 (i_iload rfl (t_goto 68 rfl ?_)))
    | (show Rch _ _ _ _ _ 66 _ _ _; refine Rch.blk' (Rn_mono mt _) bl_X4_pawnIdea_66 (i_bipush k_m4 (t_none ?_)))
    | (show Rch _ _ _ _ _ 68 _ _ _; refine Rch.blk' (Rn_mono mt _) bl_X4_pawnIdea_68 (t_iret ?_)))
theorem c_X4_knightIdea (hG : RR h b G M ra) (hO : OKB G) {z : Int} (h0 : 0 ≤ z) (h1 : z < nn G) (h2 : 0 ≤ sq G z) (h3 : sq G z < 36) (hq : ∀ v, v = kni G z → -4 ≤ v → v < 36 → Q (some (ai (I v))) h) : Rn mt (d + 4) 124 [ar 12 b, ai (I z)] h Q := by
  refine Rn.intro iX4_knightIdea rfl rfl ?_
  show Rch bX4_knightIdea _ _ _ _ 0 [some (ar 12 b), some (ai (I z)), none, none, none, none] [] _
  have e_q := @RR.q _ _ _ _ _ hG
  have e_s := @RR.s _ _ _ _ _ hG
  have g_n := hO.n
  have g_p := hO.pc z h0 h1
  have g_4 := m4_p h3
  obtain ⟨s, s1, s2, sm, s0, hs⟩ := sg_s G z
  have q1 : (¬ sqO (sq G z) (2 * s) 1 = -4 ∧ ¬ (0 ≤ sqO (sq G z) (2 * s) 1 ∧ sqO (sq G z) (2 * s) 1 < 36 ∧ 0 ≤ ons G (sqO (sq G z) (2 * s) 1) ∧ sd G (ons G (sqO (sq G z) (2 * s) 1)) = sd G z)) → kni G z = sqO (sq G z) (2 * s) 1 := by rw [← s2]; exact fun a => ifp_p a
  have q2 : ¬ (¬ sqO (sq G z) (2 * s) 1 = -4 ∧ ¬ (0 ≤ sqO (sq G z) (2 * s) 1 ∧ sqO (sq G z) (2 * s) 1 < 36 ∧ 0 ≤ ons G (sqO (sq G z) (2 * s) 1) ∧ sd G (ons G (sqO (sq G z) (2 * s) 1)) = sd G z)) → (¬ sqO (sq G z) (2 * s) (-1) = -4 ∧ ¬ (0 ≤ sqO (sq G z) (2 * s) (-1) ∧ sqO (sq G z) (2 * s) (-1) < 36 ∧ 0 ≤ ons G (sqO (sq G z) (2 * s) (-1)) ∧ sd G (ons G (sqO (sq G z) (2 * s) (-1))) = sd G z)) → kni G z = sqO (sq G z) (2 * s) (-1) := by rw [← s2]; exact fun a b => (ifp_n a).trans (ifp_p b)
  have q3 : ¬ (¬ sqO (sq G z) (2 * s) 1 = -4 ∧ ¬ (0 ≤ sqO (sq G z) (2 * s) 1 ∧ sqO (sq G z) (2 * s) 1 < 36 ∧ 0 ≤ ons G (sqO (sq G z) (2 * s) 1) ∧ sd G (ons G (sqO (sq G z) (2 * s) 1)) = sd G z)) → ¬ (¬ sqO (sq G z) (2 * s) (-1) = -4 ∧ ¬ (0 ≤ sqO (sq G z) (2 * s) (-1) ∧ sqO (sq G z) (2 * s) (-1) < 36 ∧ 0 ≤ ons G (sqO (sq G z) (2 * s) (-1)) ∧ sd G (ons G (sqO (sq G z) (2 * s) (-1))) = sd G z)) → kni G z = -4 := by rw [← s2]; exact fun a b => (ifp_n a).trans (ifp_n b)
  repeat' (first
    | (show Rn _ _ 122 _ _ _; refine c_X4_forward2 (by assumption) (by assumption) (by omega) (by omega) (by assumption) ?_)
    | exact hq _ (q1 (by omega)).symm (by omega) (by omega)
    | exact hq _ (q2 (by omega) (by omega)).symm (by omega) (by omega)
    | exact hq _ (q3 (by omega) (by omega)).symm (by omega) (by omega)
    | (show Rn _ _ 109 _ _ _; refine c_X4_of ?_)
    | (show Rn _ _ 122 _ _ _; refine c_X4_forward (by assumption) (by assumption) (by omega) (by omega) (fun _ _ => ?_) (fun _ _ => ?_))
    | (show Rn _ _ 118 _ _ _; refine c_X4_squareOn (by omega) (by omega) (by omega) (by omega) (fun _ _ => ?_) (fun _ => ?_))
    | (show Rn _ _ 120 _ _ _; refine c_X4_isOfSide (by assumption) (by assumption) (by omega) (by first | omega | exact hI_R) (by omega) (fun _ _ _ _ _ => ?_) (fun _ => ?_))
    | (show Rch _ _ _ _ _ 0 _ _ _; refine Rch.blk' (Rn_mono mt _) bl_X4_knightIdea_0 (i_aload_n rfl (i_iload_n rfl (i_iconst k_3 (t_cs2 (Rn_mono mt _) 6 rfl (Nat.le_of_ble_eq_true rfl) ?_)))))
    | (show Rch _ _ _ _ _ 6 _ _ _; refine Rch.blk' (Rn_mono mt _) bl_X4_knightIdea_6 (i_iald rfl (by first | omega | (simp (disch := omega) only [e_q, e_s, g_4]; omega)) (by simp only [aln]; omega) (by simp only [aln]; omega) (i_istore2 trivial (i_iload_n rfl (i_iconst k_2 (i_aload_n rfl (i_iload_n rfl (t_cs2 (Rn_mono mt _) 15 rfl (Nat.le_of_ble_eq_true rfl) ?_))))))) <;> (try (simp (disch := omega) only [e_q, e_s, g_4])))
    | (show Rch _ _ _ _ _ 15 _ _ _; refine Rch.blk' (Rn_mono mt _) bl_X4_knightIdea_15 (i_imul (i_iconst k_1 (t_cs3 (Rn_mono mt _) 20 rfl (Nat.le_of_ble_eq_true rfl) ?_))))
    | (show Rch _ _ _ _ _ 20 _ _ _; refine Rch.blk' (Rn_mono mt _) bl_X4_knightIdea_20 (i_istore3 trivial (i_iload_n rfl (i_iconst k_2 (i_aload_n rfl (i_iload_n rfl (t_cs2 (Rn_mono mt _) 28 rfl (Nat.le_of_ble_eq_true rfl) ?_)))))))
    | (show Rch _ _ _ _ _ 28 _ _ _; refine Rch.blk' (Rn_mono mt _) bl_X4_knightIdea_28 (i_imul (i_iconst k_m1 (t_cs3 (Rn_mono mt _) 33 rfl (Nat.le_of_ble_eq_true rfl) ?_))))
    | (show Rch _ _ _ _ _ 33 _ _ _; refine Rch.blk' (Rn_mono mt _) bl_X4_knightIdea_33 (i_istore4 trivial (i_aload_n rfl (i_iload_n rfl (i_iconst k_2 (t_cs2 (Rn_mono mt _) 41 rfl (Nat.le_of_ble_eq_true rfl) ?_))))))
    | (show Rch _ _ _ _ _ 41 _ _ _; refine Rch.blk' (Rn_mono mt _) bl_X4_knightIdea_41 (i_iald rfl (by first | omega | (simp (disch := omega) only [e_q, e_s, g_4]; omega)) (by simp only [aln]; omega) (by simp only [aln]; omega) (i_istore5 trivial (i_iload_n rfl (t_if_lt 62 48 rfl rfl (by first | exact hI_R | exact band_R | exact bor_R | exact bshr_R | exact lcm_R | omega | (simp (disch := omega) only [e_q, e_s, g_4]; omega)) (fun hc => ?_) (fun hc => ?_))))) <;> (try (simp (disch := omega) only [e_q, e_s, g_4] at hc ⊢)) <;> (first | (exfalso; omega) | skip))
    | (show Rch _ _ _ _ _ 48 _ _ _; refine Rch.blk' (Rn_mono mt _) bl_X4_knightIdea_48 (i_aload_n rfl (i_iload_n rfl (i_iload rfl (t_cs3 (Rn_mono mt _) 55 rfl (Nat.le_of_ble_eq_true rfl) ?_)))))
    | (show Rch _ _ _ _ _ 55 _ _ _; refine Rch.blk' (Rn_mono mt _) bl_X4_knightIdea_55 (t_if_ne 62 58 rfl rfl (by first | exact hI_R | exact band_R | exact bor_R | exact bshr_R | exact lcm_R | omega | (simp (disch := omega) only [e_q, e_s, g_4]; omega)) (fun hc => ?_) (fun hc => ?_)) <;> (first | (exfalso; omega) | skip))
    | (show Rch _ _ _ _ _ 58 _ _ _; refine Rch.blk' (Rn_mono mt _) bl_X4_knightIdea_58 (i_iload_n rfl (t_goto 85 rfl ?_)))
    | (show Rch _ _ _ _ _ 62 _ _ _; refine Rch.blk' (Rn_mono mt _) bl_X4_knightIdea_62 (i_iload rfl (t_if_lt 83 67 rfl rfl (by first | exact hI_R | exact band_R | exact bor_R | exact bshr_R | exact lcm_R | omega | (simp (disch := omega) only [e_q, e_s, g_4]; omega)) (fun hc => ?_) (fun hc => ?_))) <;> (first | (exfalso; omega) | skip))
    | (show Rch _ _ _ _ _ 67 _ _ _; refine Rch.blk' (Rn_mono mt _) bl_X4_knightIdea_67 (i_aload_n rfl (i_iload rfl (i_iload rfl (t_cs3 (Rn_mono mt _) 75 rfl (Nat.le_of_ble_eq_true rfl) ?_)))))
    | (show Rch _ _ _ _ _ 75 _ _ _; refine Rch.blk' (Rn_mono mt _) bl_X4_knightIdea_75 (t_if_ne 83 78 rfl rfl (by first | exact hI_R | exact band_R | exact bor_R | exact bshr_R | exact lcm_R | omega | (simp (disch := omega) only [e_q, e_s, g_4]; omega)) (fun hc => ?_) (fun hc => ?_)) <;> (first | (exfalso; omega) | skip))
    | (show Rch _ _ _ _ _ 78 _ _ _; refine Rch.blk' (Rn_mono mt _) bl_X4_knightIdea_78 (i_iload rfl (t_goto 85 rfl ?_)))
    | (show Rch _ _ _ _ _ 83 _ _ _; refine Rch.blk' (Rn_mono mt _) bl_X4_knightIdea_83 (i_bipush k_m4 (t_none ?_)))
    | (show Rch _ _ _ _ _ 85 _ _ _; refine Rch.blk' (Rn_mono mt _) bl_X4_knightIdea_85 (t_iret ?_)))
theorem c_X4_bishopIdea (hG : RR h b G M ra) (hO : OKB G) {z y : Int} (h0 : 0 ≤ z) (h1 : z < nn G) (h2 : 0 ≤ sq G z) (h3 : sq G z < 36) (h4 : 0 ≤ y) (h5 : y < 1000000) (hq : ∀ v, v = bii G z y → -4 ≤ v → v < 36 → Q (some (ai (I v))) h) : Rn mt (d + 4) 126 [ar 12 b, ai (I z), ai (I y)] h Q := by
  refine Rn.intro iX4_bishopIdea rfl rfl ?_
  show Rch bX4_bishopIdea _ _ _ _ 0 [some (ar 12 b), some (ai (I z)), some (ai (I y)), none] [] _
  have e_q := @RR.q _ _ _ _ _ hG
  have e_s := @RR.s _ _ _ _ _ hG
  have e_f := @RR.f _ _ _ _ _ hG
  have g_n := hO.n
  have g_p := hO.pc z h0 h1
  have g_4 := m4_p h3
  have g_m := Int.emod_lt_of_pos y (b := fg G z + 2) (by omega)
  have g_m2 := Int.emod_nonneg y (b := fg G z + 2) (by omega)
  obtain ⟨s, s1, s2, sm, s0, hs⟩ := sg_s G z
  have q1 : (¬ sqO (sq G z) s 1 = -4 ∧ ¬ (0 ≤ sqO (sq G z) s 1 ∧ sqO (sq G z) s 1 < 36 ∧ 0 ≤ ons G (sqO (sq G z) s 1) ∧ sd G (ons G (sqO (sq G z) s 1)) = sd G z) ∧ y % (fg G z + 2) = 0) → bii G z y = sqO (sq G z) s 1 := by rw [← s1]; exact fun a => ifp_p a
  have q2 : ¬ (¬ sqO (sq G z) s 1 = -4 ∧ ¬ (0 ≤ sqO (sq G z) s 1 ∧ sqO (sq G z) s 1 < 36 ∧ 0 ≤ ons G (sqO (sq G z) s 1) ∧ sd G (ons G (sqO (sq G z) s 1)) = sd G z) ∧ y % (fg G z + 2) = 0) → bii G z y = -4 := by rw [← s1]; exact fun a => ifp_n a
  repeat' (first
    | (show Rn _ _ 122 _ _ _; refine c_X4_forward2 (by assumption) (by assumption) (by omega) (by omega) (by assumption) ?_)
    | exact hq _ (q1 (by omega)).symm (by omega) (by omega)
    | exact hq _ (q2 (by omega)).symm (by omega) (by omega)
    | (show Rn _ _ 109 _ _ _; refine c_X4_of ?_)
    | (show Rn _ _ 122 _ _ _; refine c_X4_forward (by assumption) (by assumption) (by omega) (by omega) (fun _ _ => ?_) (fun _ _ => ?_))
    | (show Rn _ _ 118 _ _ _; refine c_X4_squareOn (by omega) (by omega) (by omega) (by omega) (fun _ _ => ?_) (fun _ => ?_))
    | (show Rn _ _ 120 _ _ _; refine c_X4_isOfSide (by assumption) (by assumption) (by omega) (by first | omega | exact hI_R) (by omega) (fun _ _ _ _ _ => ?_) (fun _ => ?_))
    | (show Rch _ _ _ _ _ 0 _ _ _; refine Rch.blk' (Rn_mono mt _) bl_X4_bishopIdea_0 (i_aload_n rfl (i_iload_n rfl (i_iconst k_3 (t_cs2 (Rn_mono mt _) 6 rfl (Nat.le_of_ble_eq_true rfl) ?_)))))
    | (show Rch _ _ _ _ _ 6 _ _ _; refine Rch.blk' (Rn_mono mt _) bl_X4_bishopIdea_6 (i_iald rfl (by first | omega | (simp (disch := omega) only [e_q, e_s, e_f, g_4]; omega)) (by simp only [aln]; omega) (by simp only [aln]; omega) (i_aload_n rfl (i_iload_n rfl (t_cs2 (Rn_mono mt _) 12 rfl (Nat.le_of_ble_eq_true rfl) ?_)))) <;> (try (simp (disch := omega) only [e_q, e_s, e_f, g_4])))
    | (show Rch _ _ _ _ _ 12 _ _ _; refine Rch.blk' (Rn_mono mt _) bl_X4_bishopIdea_12 (i_iconst k_1 (t_cs3 (Rn_mono mt _) 16 rfl (Nat.le_of_ble_eq_true rfl) ?_)))
    | (show Rch _ _ _ _ _ 16 _ _ _; refine Rch.blk' (Rn_mono mt _) bl_X4_bishopIdea_16 (i_istore3 trivial (i_iload_n rfl (t_if_lt 54 21 rfl rfl (by first | exact hI_R | exact band_R | exact bor_R | exact bshr_R | exact lcm_R | omega | (simp (disch := omega) only [e_q, e_s, e_f, g_4]; omega)) (fun hc => ?_) (fun hc => ?_)))) <;> (first | (exfalso; omega) | skip))
    | (show Rch _ _ _ _ _ 21 _ _ _; refine Rch.blk' (Rn_mono mt _) bl_X4_bishopIdea_21 (i_aload_n rfl (i_iload_n rfl (i_aload_n rfl (i_iload_n rfl (i_iconst k_2 (t_cs2 (Rn_mono mt _) 29 rfl (Nat.le_of_ble_eq_true rfl) ?_)))))))
    | (show Rch _ _ _ _ _ 29 _ _ _; refine Rch.blk' (Rn_mono mt _) bl_X4_bishopIdea_29 (i_iald rfl (by first | omega | (simp (disch := omega) only [e_q, e_s, e_f, g_4]; omega)) (by simp only [aln]; omega) (by simp only [aln]; omega) (t_cs3 (Rn_mono mt _) 33 rfl (Nat.le_of_ble_eq_true rfl) ?_)) <;> (try (simp (disch := omega) only [e_q, e_s, e_f, g_4])))
    | (show Rch _ _ _ _ _ 33 _ _ _; refine Rch.blk' (Rn_mono mt _) bl_X4_bishopIdea_33 (t_if_ne 54 36 rfl rfl (by first | exact hI_R | exact band_R | exact bor_R | exact bshr_R | exact lcm_R | omega | (simp (disch := omega) only [e_q, e_s, e_f, g_4]; omega)) (fun hc => ?_) (fun hc => ?_)) <;> (first | (exfalso; omega) | skip))
    | (show Rch _ _ _ _ _ 36 _ _ _; refine Rch.blk' (Rn_mono mt _) bl_X4_bishopIdea_36 (i_iload_n rfl (i_aload_n rfl (i_iload_n rfl (i_iconst k_1 (t_cs2 (Rn_mono mt _) 43 rfl (Nat.le_of_ble_eq_true rfl) ?_))))))
    | (show Rch _ _ _ _ _ 43 _ _ _; refine Rch.blk' (Rn_mono mt _) bl_X4_bishopIdea_43 (i_iald rfl (by first | omega | (simp (disch := omega) only [e_q, e_s, e_f, g_4]; omega)) (by simp only [aln]; omega) (by simp only [aln]; omega) (i_iconst k_2 (i_iadd (i_irem (by first | omega | (simp (disch := omega) only [e_q, e_s, e_f, g_4]; omega)) (by first | omega | (simp (disch := omega) only [e_q, e_s, e_f, g_4]; omega)) (by first | omega | (simp (disch := omega) only [e_q, e_s, e_f, g_4]; omega)) (by first | omega | (simp (disch := omega) only [e_q, e_s, e_f, g_4]; omega)) (t_if_ne 54 50 rfl rfl (by first | exact hI_R | exact band_R | exact bor_R | exact bshr_R | exact lcm_R | omega | (simp (disch := omega) only [e_q, e_s, e_f, g_4]; omega)) (fun hc => ?_) (fun hc => ?_)))))) <;> (try (simp (disch := omega) only [e_q, e_s, e_f, g_4] at hc ⊢)) <;> (first | (exfalso; omega) | skip))
    | (show Rch _ _ _ _ _ 50 _ _ _; refine Rch.blk' (Rn_mono mt _) bl_X4_bishopIdea_50 (i_iload_n rfl (t_goto 56 rfl ?_)))
    | (show Rch _ _ _ _ _ 54 _ _ _; refine Rch.blk' (Rn_mono mt _) bl_X4_bishopIdea_54 (i_bipush k_m4 (t_none ?_)))
    | (show Rch _ _ _ _ _ 56 _ _ _; refine Rch.blk' (Rn_mono mt _) bl_X4_bishopIdea_56 (t_iret ?_)))
theorem c_X4_kingIdea (hG : RR h b G M ra) (hO : OKB G) {z : Int} (h0 : 0 ≤ z) (h1 : z < nn G) (h2 : 0 ≤ sq G z) (h3 : sq G z < 36) (hq : ∀ v, v = kgi G z → -4 ≤ v → v < 36 → Q (some (ai (I v))) h) : Rn mt (d + 4) 127 [ar 12 b, ai (I z)] h Q := by
  refine Rn.intro iX4_kingIdea rfl rfl ?_
  show Rch bX4_kingIdea _ _ _ _ 0 [some (ar 12 b), some (ai (I z)), none, none] [] _
  have e_q := @RR.q _ _ _ _ _ hG
  have e_s := @RR.s _ _ _ _ _ hG
  have e_n := hG.n
  have g_n := hO.n
  have g_p := hO.pc z h0 h1
  have g_4 := m4_p h3
  have g_5 := @m4_p
  obtain ⟨s, s1, s2, sm, s0, hs⟩ := sg_s G z
  have q2 : ¬ (0 ≤ sqO (sq G z) (-s) 0 ∧ sqO (sq G z) (-s) 0 < 36 ∧ ons G (sqO (sq G z) (-s) 0) = -4) → kgi G z = -4 := by rw [← sm]; exact fun a => ifp_n (fun q => a q.1)
  have q1 : ∀ o : Int, (0 ≤ sqO (sq G z) (-s) 0 ∧ sqO (sq G z) (-s) 0 < 36 ∧ ons G (sqO (sq G z) (-s) 0) = -4) → (0 ≤ o ∧ o < nn G ∧ sd G o = 1 - sd G z ∧ sq G o < 36 ∧ fr (sq G o) (sq G z) ≤ 1) → kgi G z = sqO (sq G z) (-s) 0 := by rw [← sm]; exact fun o a b => ifp_p ⟨a, o, b⟩
  have q3 : ∀ _u : Unit, (∀ o, 0 ≤ o → o < nn G → ¬ (sd G o = 1 - sd G z ∧ sq G o < 36 ∧ fr (sq G o) (sq G z) ≤ 1)) → kgi G z = -4 := fun _ a => ifp_n (fun ⟨_, o, o0, o1, o2⟩ => a o o0 o1 o2)
  have g_b := sqO_R (q := sq G z) (r := -s) (c := 0)
  have key : (0 ≤ sqO (sq G z) (-s) 0 ∧ sqO (sq G z) (-s) 0 < 36 ∧ ons G (sqO (sq G z) (-s) 0) = -4) → ∀ k : Int, k ≤ nn G → 0 ≤ k → (∀ o, 0 ≤ o → o < k → ¬ (sd G o = 1 - sd G z ∧ sq G o < 36 ∧ fr (sq G o) (sq G z) ≤ 1)) → RH bX4_kingIdea (d + 3) Q 31 [some (ar 12 b), some (ai (I z)), some (ai (I (sqO (sq G z) (-s) 0))), some (ai (I k))] h := by
    intro hf
    refine up_ind (fun k hk ih hk0 hi => ?_)
    have g_k := hO.pc k hk0
    have hn : ¬ (sd G k = 1 - sd G z ∧ sq G k < 36 ∧ fr (sq G k) (sq G z) ≤ 1) → ∀ o, 0 ≤ o → o < k + 1 → ¬ (sd G o = 1 - sd G z ∧ sq G o < 36 ∧ fr (sq G o) (sq G z) ≤ 1) := by
      intro hx o o0 o1
      by_cases ho : o = k
      · subst ho; exact hx
      · exact hi o o0 (by omega)
    refine Rch.blk' (Rn_mono mt _) bl_X4_kingIdea_31 (i_iload_n rfl (i_aload_n rfl (i_iconst k_0 (i_iald (n := 46) rfl (by first | omega | (simp (disch := omega) only [e_n]; omega)) (by first | omega | (simp (disch := omega) only [e_n]; omega)) (by first | omega | (simp (disch := omega) only [e_n]; omega)) (t_ic_ge 92 38 rfl rfl (by first | exact hI_R | exact band_R | exact bor_R | exact bshr_R | exact lcm_R | omega | (simp (disch := omega) only [e_n]; omega)) (by first | exact hI_R | exact band_R | exact bor_R | exact bshr_R | exact lcm_R | omega | (simp (disch := omega) only [e_n]; omega)) (fun hc => ?_) (fun hc => ?_)))))) <;> (try (simp (disch := omega) only [e_n] at hc ⊢)) <;> (first | (exfalso; omega) | skip)
    repeat' (first
      | exact ih (by omega) (by omega) (hn (by omega))
      | exact hq _ (q1 k (by omega) (by omega)).symm (by omega) (by omega)
      | exact hq _ (q3 () (fun o o0 o1 => hi o o0 (by omega))).symm (by omega) (by omega)
      | (show Rn _ _ 109 _ _ _; refine c_X4_of ?_)
      | (show Rn _ _ 122 _ _ _; refine c_X4_forward (by assumption) (by assumption) (by omega) (by omega) (fun _ _ => ?_) (fun _ _ => ?_))
      | (show Rn _ _ 118 _ _ _; refine c_X4_squareOn (by omega) (by omega) (by omega) (by omega) (fun _ _ => ?_) (fun _ => ?_))
      | (show Rn _ _ 119 _ _ _; refine c_X4_isFree (by assumption) (by assumption) (by omega) (by omega) (fun _ _ _ => ?_) (fun _ => ?_))
      | (show Rn _ _ 114 _ _ _; refine c_X4_isHere (by assumption) (by assumption) (by omega) (by omega) (fun _ _ => ?_) (fun _ => ?_))
      | (show Rn _ _ 121 _ _ _; refine c_X4_farOf (by omega) (by omega) (by omega) (by omega) (fun _ _ => ?_))
      | (show Rch _ _ _ _ _ 0 _ _ _; refine Rch.blk' (Rn_mono mt _) bl_X4_kingIdea_0 (i_aload_n rfl (i_iload_n rfl (i_iconst k_3 (t_cs2 (Rn_mono mt _) 6 rfl (Nat.le_of_ble_eq_true rfl) ?_)))))
      | (show Rch _ _ _ _ _ 6 _ _ _; refine Rch.blk' (Rn_mono mt _) bl_X4_kingIdea_6 (i_iald rfl (by first | omega | (simp (disch := omega) only [e_n, e_s, e_q, g_5]; omega)) (by simp only [aln]; omega) (by simp only [aln]; omega) (i_aload_n rfl (i_iload_n rfl (t_cs2 (Rn_mono mt _) 12 rfl (Nat.le_of_ble_eq_true rfl) ?_)))) <;> (try (simp (disch := omega) only [e_n, e_s, e_q, g_5])))
      | (show Rch _ _ _ _ _ 12 _ _ _; refine Rch.blk' (Rn_mono mt _) bl_X4_kingIdea_12 (i_ineg (i_iconst k_0 (t_cs3 (Rn_mono mt _) 17 rfl (Nat.le_of_ble_eq_true rfl) ?_))))
      | (show Rch _ _ _ _ _ 17 _ _ _; refine Rch.blk' (Rn_mono mt _) bl_X4_kingIdea_17 (i_istore2 trivial (i_aload_n rfl (i_iload_n rfl (t_cs2 (Rn_mono mt _) 23 rfl (Nat.le_of_ble_eq_true rfl) ?_)))))
      | (show Rch _ _ _ _ _ 23 _ _ _; refine Rch.blk' (Rn_mono mt _) bl_X4_kingIdea_23 (t_if_ne 29 26 rfl rfl (by first | exact hI_R | exact band_R | exact bor_R | exact bshr_R | exact lcm_R | omega | (simp (disch := omega) only [e_n, e_s, e_q, g_5]; omega)) (fun hc => ?_) (fun hc => ?_)) <;> (first | (exfalso; omega) | skip))
      | (show Rch _ _ _ _ _ 26 _ _ _; refine Rch.blk' (Rn_mono mt _) bl_X4_kingIdea_26 (i_bipush k_m4 (t_iret ?_)))
      | (show Rch _ _ _ _ _ 29 _ _ _; refine Rch.blk' (Rn_mono mt _) bl_X4_kingIdea_29 (i_iconst k_0 (i_istore3 trivial (t_none ?_))))
      | (show Rch _ _ _ _ _ 38 _ _ _; refine Rch.blk' (Rn_mono mt _) bl_X4_kingIdea_38 (i_aload_n rfl (i_iload_n rfl (t_cs2 (Rn_mono mt _) 43 rfl (Nat.le_of_ble_eq_true rfl) ?_))))
      | (show Rch _ _ _ _ _ 43 _ _ _; refine Rch.blk' (Rn_mono mt _) bl_X4_kingIdea_43 (t_if_eq 86 46 rfl rfl (by first | exact hI_R | exact band_R | exact bor_R | exact bshr_R | exact lcm_R | omega | (simp (disch := omega) only [e_n, e_s, e_q, g_5]; omega)) (fun hc => ?_) (fun hc => ?_)) <;> (first | (exfalso; omega) | skip))
      | (show Rch _ _ _ _ _ 46 _ _ _; refine Rch.blk' (Rn_mono mt _) bl_X4_kingIdea_46 (i_aload_n rfl (i_iload_n rfl (i_iconst k_2 (t_cs2 (Rn_mono mt _) 52 rfl (Nat.le_of_ble_eq_true rfl) ?_)))))
      | (show Rch _ _ _ _ _ 52 _ _ _; refine Rch.blk' (Rn_mono mt _) bl_X4_kingIdea_52 (i_iald rfl (by first | omega | (simp (disch := omega) only [e_n, e_s, e_q, g_5]; omega)) (by simp only [aln]; omega) (by simp only [aln]; omega) (i_aload_n rfl (i_iload_n rfl (i_iconst k_2 (t_cs2 (Rn_mono mt _) 59 rfl (Nat.le_of_ble_eq_true rfl) ?_))))) <;> (try (simp (disch := omega) only [e_n, e_s, e_q, g_5])))
      | (show Rch _ _ _ _ _ 59 _ _ _; refine Rch.blk' (Rn_mono mt _) bl_X4_kingIdea_59 (i_iald rfl (by first | omega | (simp (disch := omega) only [e_n, e_s, e_q, g_5]; omega)) (by simp only [aln]; omega) (by simp only [aln]; omega) (t_ic_eq 86 63 rfl rfl (by first | exact hI_R | exact band_R | exact bor_R | exact bshr_R | exact lcm_R | omega | (simp (disch := omega) only [e_n, e_s, e_q, g_5]; omega)) (by first | exact hI_R | exact band_R | exact bor_R | exact bshr_R | exact lcm_R | omega | (simp (disch := omega) only [e_n, e_s, e_q, g_5]; omega)) (fun hc => ?_) (fun hc => ?_))) <;> (try (simp (disch := omega) only [e_n, e_s, e_q, g_5] at hc ⊢)) <;> (first | (exfalso; omega) | skip))
      | (show Rch _ _ _ _ _ 63 _ _ _; refine Rch.blk' (Rn_mono mt _) bl_X4_kingIdea_63 (i_aload_n rfl (i_iload_n rfl (i_iconst k_3 (t_cs2 (Rn_mono mt _) 69 rfl (Nat.le_of_ble_eq_true rfl) ?_)))))
      | (show Rch _ _ _ _ _ 69 _ _ _; refine Rch.blk' (Rn_mono mt _) bl_X4_kingIdea_69 (i_iald rfl (by first | omega | (simp (disch := omega) only [e_n, e_s, e_q, g_5]; omega)) (by simp only [aln]; omega) (by simp only [aln]; omega) (i_aload_n rfl (i_iload_n rfl (i_iconst k_3 (t_cs2 (Rn_mono mt _) 76 rfl (Nat.le_of_ble_eq_true rfl) ?_))))) <;> (try (simp (disch := omega) only [e_n, e_s, e_q, g_5])))
      | (show Rch _ _ _ _ _ 76 _ _ _; refine Rch.blk' (Rn_mono mt _) bl_X4_kingIdea_76 (i_iald rfl (by first | omega | (simp (disch := omega) only [e_n, e_s, e_q, g_5]; omega)) (by simp only [aln]; omega) (by simp only [aln]; omega) (t_cs2 (Rn_mono mt _) 80 rfl (Nat.le_of_ble_eq_true rfl) ?_)) <;> (try (simp (disch := omega) only [e_n, e_s, e_q, g_5])))
      | (show Rch _ _ _ _ _ 80 _ _ _; refine Rch.blk' (Rn_mono mt _) bl_X4_kingIdea_80 (i_iconst k_1 (t_ic_gt 86 84 rfl rfl (by first | exact hI_R | exact band_R | exact bor_R | exact bshr_R | exact lcm_R | omega | (simp (disch := omega) only [e_n, e_s, e_q, g_5]; omega)) (by first | exact hI_R | exact band_R | exact bor_R | exact bshr_R | exact lcm_R | omega | (simp (disch := omega) only [e_n, e_s, e_q, g_5]; omega)) (fun hc => ?_) (fun hc => ?_))) <;> (first | (exfalso; omega) | skip))
      | (show Rch _ _ _ _ _ 84 _ _ _; refine Rch.blk' (Rn_mono mt _) bl_X4_kingIdea_84 (i_iload_n rfl (t_iret ?_)))
      | (show Rch _ _ _ _ _ 86 _ _ _; refine Rch.blk' (Rn_mono mt _) bl_X4_kingIdea_86 (i_iinc3 trivial k_1 (t_goto 31 rfl ?_)))
      | (show Rch _ _ _ _ _ 92 _ _ _; refine Rch.blk' (Rn_mono mt _) bl_X4_kingIdea_92 (i_bipush k_m4 (t_iret ?_))))
  repeat' (first
    | (show Rn _ _ 122 _ _ _; refine c_X4_forward2 (by assumption) (by assumption) (by omega) (by omega) (by assumption) ?_)
    | exact key ⟨by omega, by omega, by omega⟩ 0 (by omega) (by omega) (fun o _ _ => by omega)
    | exact hq _ (q2 (by omega)).symm (by omega) (by omega)
    | (show Rn _ _ 109 _ _ _; refine c_X4_of ?_)
    | (show Rn _ _ 122 _ _ _; refine c_X4_forward (by assumption) (by assumption) (by omega) (by omega) (fun _ _ => ?_) (fun _ _ => ?_))
    | (show Rn _ _ 118 _ _ _; refine c_X4_squareOn (by omega) (by omega) (by omega) (by omega) (fun _ _ => ?_) (fun _ => ?_))
    | (show Rn _ _ 119 _ _ _; refine c_X4_isFree (by assumption) (by assumption) (by omega) (by omega) (fun _ _ _ => ?_) (fun _ => ?_))
    | (show Rn _ _ 114 _ _ _; refine c_X4_isHere (by assumption) (by assumption) (by omega) (by omega) (fun _ _ => ?_) (fun _ => ?_))
    | (show Rn _ _ 121 _ _ _; refine c_X4_farOf (by omega) (by omega) (by omega) (by omega) (fun _ _ => ?_))
    | (show Rch _ _ _ _ _ 0 _ _ _; refine Rch.blk' (Rn_mono mt _) bl_X4_kingIdea_0 (i_aload_n rfl (i_iload_n rfl (i_iconst k_3 (t_cs2 (Rn_mono mt _) 6 rfl (Nat.le_of_ble_eq_true rfl) ?_)))))
    | (show Rch _ _ _ _ _ 6 _ _ _; refine Rch.blk' (Rn_mono mt _) bl_X4_kingIdea_6 (i_iald rfl (by first | omega | (simp (disch := omega) only [e_q, e_s, g_4]; omega)) (by simp only [aln]; omega) (by simp only [aln]; omega) (i_aload_n rfl (i_iload_n rfl (t_cs2 (Rn_mono mt _) 12 rfl (Nat.le_of_ble_eq_true rfl) ?_)))) <;> (try (simp (disch := omega) only [e_q, e_s, g_4])))
    | (show Rch _ _ _ _ _ 12 _ _ _; refine Rch.blk' (Rn_mono mt _) bl_X4_kingIdea_12 (i_ineg (i_iconst k_0 (t_cs3 (Rn_mono mt _) 17 rfl (Nat.le_of_ble_eq_true rfl) ?_))))
    | (show Rch _ _ _ _ _ 17 _ _ _; refine Rch.blk' (Rn_mono mt _) bl_X4_kingIdea_17 (i_istore2 trivial (i_aload_n rfl (i_iload_n rfl (t_cs2 (Rn_mono mt _) 23 rfl (Nat.le_of_ble_eq_true rfl) ?_)))))
    | (show Rch _ _ _ _ _ 23 _ _ _; refine Rch.blk' (Rn_mono mt _) bl_X4_kingIdea_23 (t_if_ne 29 26 rfl rfl (by first | exact hI_R | exact band_R | exact bor_R | exact bshr_R | exact lcm_R | omega | (simp (disch := omega) only [e_q, e_s, g_4]; omega)) (fun hc => ?_) (fun hc => ?_)) <;> (first | (exfalso; omega) | skip))
    | (show Rch _ _ _ _ _ 26 _ _ _; refine Rch.blk' (Rn_mono mt _) bl_X4_kingIdea_26 (i_bipush k_m4 (t_iret ?_)))
    | (show Rch _ _ _ _ _ 29 _ _ _; refine Rch.blk' (Rn_mono mt _) bl_X4_kingIdea_29 (i_iconst k_0 (i_istore3 trivial (t_none ?_))))
    | (show Rch _ _ _ _ _ 38 _ _ _; refine Rch.blk' (Rn_mono mt _) bl_X4_kingIdea_38 (i_aload_n rfl (i_iload_n rfl (t_cs2 (Rn_mono mt _) 43 rfl (Nat.le_of_ble_eq_true rfl) ?_))))
    | (show Rch _ _ _ _ _ 43 _ _ _; refine Rch.blk' (Rn_mono mt _) bl_X4_kingIdea_43 (t_if_eq 86 46 rfl rfl (by first | exact hI_R | exact band_R | exact bor_R | exact bshr_R | exact lcm_R | omega | (simp (disch := omega) only [e_q, e_s, g_4]; omega)) (fun hc => ?_) (fun hc => ?_)) <;> (first | (exfalso; omega) | skip))
    | (show Rch _ _ _ _ _ 46 _ _ _; refine Rch.blk' (Rn_mono mt _) bl_X4_kingIdea_46 (i_aload_n rfl (i_iload_n rfl (i_iconst k_2 (t_cs2 (Rn_mono mt _) 52 rfl (Nat.le_of_ble_eq_true rfl) ?_)))))
    | (show Rch _ _ _ _ _ 52 _ _ _; refine Rch.blk' (Rn_mono mt _) bl_X4_kingIdea_52 (i_iald rfl (by first | omega | (simp (disch := omega) only [e_q, e_s, g_4]; omega)) (by simp only [aln]; omega) (by simp only [aln]; omega) (i_aload_n rfl (i_iload_n rfl (i_iconst k_2 (t_cs2 (Rn_mono mt _) 59 rfl (Nat.le_of_ble_eq_true rfl) ?_))))) <;> (try (simp (disch := omega) only [e_q, e_s, g_4])))
    | (show Rch _ _ _ _ _ 59 _ _ _; refine Rch.blk' (Rn_mono mt _) bl_X4_kingIdea_59 (i_iald rfl (by first | omega | (simp (disch := omega) only [e_q, e_s, g_4]; omega)) (by simp only [aln]; omega) (by simp only [aln]; omega) (t_ic_eq 86 63 rfl rfl (by first | exact hI_R | exact band_R | exact bor_R | exact bshr_R | exact lcm_R | omega | (simp (disch := omega) only [e_q, e_s, g_4]; omega)) (by first | exact hI_R | exact band_R | exact bor_R | exact bshr_R | exact lcm_R | omega | (simp (disch := omega) only [e_q, e_s, g_4]; omega)) (fun hc => ?_) (fun hc => ?_))) <;> (try (simp (disch := omega) only [e_q, e_s, g_4] at hc ⊢)) <;> (first | (exfalso; omega) | skip))
    | (show Rch _ _ _ _ _ 63 _ _ _; refine Rch.blk' (Rn_mono mt _) bl_X4_kingIdea_63 (i_aload_n rfl (i_iload_n rfl (i_iconst k_3 (t_cs2 (Rn_mono mt _) 69 rfl (Nat.le_of_ble_eq_true rfl) ?_)))))
    | (show Rch _ _ _ _ _ 69 _ _ _; refine Rch.blk' (Rn_mono mt _) bl_X4_kingIdea_69 (i_iald rfl (by first | omega | (simp (disch := omega) only [e_q, e_s, g_4]; omega)) (by simp only [aln]; omega) (by simp only [aln]; omega) (i_aload_n rfl (i_iload_n rfl (i_iconst k_3 (t_cs2 (Rn_mono mt _) 76 rfl (Nat.le_of_ble_eq_true rfl) ?_))))) <;> (try (simp (disch := omega) only [e_q, e_s, g_4])))
    | (show Rch _ _ _ _ _ 76 _ _ _; refine Rch.blk' (Rn_mono mt _) bl_X4_kingIdea_76 (i_iald rfl (by first | omega | (simp (disch := omega) only [e_q, e_s, g_4]; omega)) (by simp only [aln]; omega) (by simp only [aln]; omega) (t_cs2 (Rn_mono mt _) 80 rfl (Nat.le_of_ble_eq_true rfl) ?_)) <;> (try (simp (disch := omega) only [e_q, e_s, g_4])))
    | (show Rch _ _ _ _ _ 80 _ _ _; refine Rch.blk' (Rn_mono mt _) bl_X4_kingIdea_80 (i_iconst k_1 (t_ic_gt 86 84 rfl rfl (by first | exact hI_R | exact band_R | exact bor_R | exact bshr_R | exact lcm_R | omega | (simp (disch := omega) only [e_q, e_s, g_4]; omega)) (by first | exact hI_R | exact band_R | exact bor_R | exact bshr_R | exact lcm_R | omega | (simp (disch := omega) only [e_q, e_s, g_4]; omega)) (fun hc => ?_) (fun hc => ?_))) <;> (first | (exfalso; omega) | skip))
    | (show Rch _ _ _ _ _ 84 _ _ _; refine Rch.blk' (Rn_mono mt _) bl_X4_kingIdea_84 (i_iload_n rfl (t_iret ?_)))
    | (show Rch _ _ _ _ _ 86 _ _ _; refine Rch.blk' (Rn_mono mt _) bl_X4_kingIdea_86 (i_iinc3 trivial k_1 (t_goto 31 rfl ?_)))
    | (show Rch _ _ _ _ _ 92 _ _ _; refine Rch.blk' (Rn_mono mt _) bl_X4_kingIdea_92 (i_bipush k_m4 (t_iret ?_))))
theorem c_X4_slideIdea (hG : RR h b G M ra) (hO : OKB G) {z r c w : Int} (hrc : (r = 1 ∧ c = 0) ∨ (r = 0 ∧ c = 1)) (hw : sg G z r = w) (h0 : 0 ≤ z) (h1 : z < nn G) (h2 : 0 ≤ sq G z) (h3 : sq G z < 36) (hq : ∀ v, v = sli G z r c → -4 ≤ v → v < 36 → Q (some (ai (I v))) h) : Rn mt (d + 4) 125 [ar 12 b, ai (I z), ai (I w), ai (I c)] h Q := by
  refine Rn.intro iX4_slideIdea rfl rfl ?_
  show Rch bX4_slideIdea _ _ _ _ 0 [some (ar 12 b), some (ai (I z)), some (ai (I w)), some (ai (I c)), none, none, none, none] [] _
  have e_q := @RR.q _ _ _ _ _ hG
  have e_s := @RR.s _ _ _ _ _ hG
  have g_n := hO.n
  have g_p := hO.pc z h0 h1
  have g_4 := m4_p h3
  have ew : ∀ k : Int, sg G z (k * r) = w * k := by
    intro k
    rw [← hw]
    unfold sg
    rcases hrc with ⟨rfl, rfl⟩ | ⟨rfl, rfl⟩ <;> (split <;> omega)
  have key : ∀ k : Int, k ≤ 6 → 1 ≤ k → ∀ (f : Int) (u : Option AV), -4 ≤ f → f < 36 → sld G z r c (6 - k).toNat k f = sli G z r c → RH bX4_slideIdea (d + 3) Q 16 [some (ar 12 b), some (ai (I z)), some (ai (I w)), some (ai (I c)), some (ai (I (sq G z))), some (ai (I f)), some (ai (I k)), u] h := by
    refine up_ind (fun k hk ih hk0 f u hf0 hf1 hs => ?_)
    have hkr : -6 ≤ w * k ∧ w * k ≤ 6 ∧ 0 ≤ c * k ∧ c * k ≤ 6 := by
      have h9 : w = 1 ∨ w = -1 ∨ w = 0 := by
        rw [← hw]; unfold sg; rcases hrc with ⟨rfl, rfl⟩ | ⟨rfl, rfl⟩ <;> (split <;> omega)
      have h8 : c = 0 ∨ c = 1 := by omega
      rcases h9 with rfl | rfl | rfl <;> rcases h8 with rfl | rfl <;> omega
    by_cases hk6 : k = 6
    · subst hk6
      refine Rch.blk' (Rn_mono mt _) bl_X4_slideIdea_16 (i_iload rfl (i_bipush k_6 (t_ic_ge 81 23 rfl rfl (by first | exact hI_R | exact band_R | exact bor_R | exact bshr_R | exact lcm_R | omega) (by first | exact hI_R | exact band_R | exact bor_R | exact bshr_R | exact lcm_R | omega) (fun hc => ?_) (fun hc => ?_)))) <;> (first | (exfalso; omega) | skip)
      repeat' (first
        | exact hq _ hs (by omega) (by omega)
        | (show Rn _ _ 109 _ _ _; refine c_X4_of ?_)
        | (show Rn _ _ 118 _ _ _; refine c_X4_squareOn (by omega) (by omega) (by omega) (by omega) (fun _ _ => ?_) (fun _ => ?_))
        | (show Rn _ _ 120 _ _ _; refine c_X4_isOfSide (by assumption) (by assumption) (by omega) (by first | omega | exact hI_R) (by omega) (fun _ _ _ _ _ => ?_) (fun _ => ?_))
        | (show Rn _ _ 119 _ _ _; refine c_X4_isFree (by assumption) (by assumption) (by omega) (by omega) (fun _ _ _ => ?_) (fun _ => ?_))
        | (show Rch _ _ _ _ _ 0 _ _ _; refine Rch.blk' (Rn_mono mt _) bl_X4_slideIdea_0 (i_aload_n rfl (i_iload_n rfl (i_iconst k_3 (t_cs2 (Rn_mono mt _) 6 rfl (Nat.le_of_ble_eq_true rfl) ?_)))))
        | (show Rch _ _ _ _ _ 6 _ _ _; refine Rch.blk' (Rn_mono mt _) bl_X4_slideIdea_6 (i_iald rfl (by omega) (by simp only [aln]; omega) (by simp only [aln]; omega) (i_istore4 trivial (i_bipush k_m4 (i_istore5 trivial (i_iconst k_1 (i_istore6 trivial (t_none ?_))))))))
        | (show Rch _ _ _ _ _ 23 _ _ _; refine Rch.blk' (Rn_mono mt _) bl_X4_slideIdea_23 (i_iload rfl (i_iload_n rfl (i_iload rfl (i_imul (i_iload_n rfl (i_iload rfl (i_imul (t_cs3 (Rn_mono mt _) 36 rfl (Nat.le_of_ble_eq_true rfl) ?_)))))))))
        | (show Rch _ _ _ _ _ 36 _ _ _; refine Rch.blk' (Rn_mono mt _) bl_X4_slideIdea_36 (i_istore7 trivial (i_aload_n rfl (i_iload rfl (i_iconst k_1 (i_aload_n rfl (i_iload_n rfl (i_iconst k_2 (t_cs2 (Rn_mono mt _) 48 rfl (Nat.le_of_ble_eq_true rfl) ?_)))))))))
        | (show Rch _ _ _ _ _ 48 _ _ _; refine Rch.blk' (Rn_mono mt _) bl_X4_slideIdea_48 (i_iald rfl (by omega) (by simp only [aln]; omega) (by simp only [aln]; omega) (i_isub (t_cs3 (Rn_mono mt _) 53 rfl (Nat.le_of_ble_eq_true rfl) ?_))))
        | (show Rch _ _ _ _ _ 53 _ _ _; refine Rch.blk' (Rn_mono mt _) bl_X4_slideIdea_53 (t_if_eq 59 56 rfl rfl (by first | exact hI_R | exact band_R | exact bor_R | exact bshr_R | exact lcm_R | omega) (fun hc => ?_) (fun hc => ?_)) <;> (first | (exfalso; omega) | skip))
        | (show Rch _ _ _ _ _ 56 _ _ _; refine Rch.blk' (Rn_mono mt _) bl_X4_slideIdea_56 (i_iload rfl (t_iret ?_)))
        | (show Rch _ _ _ _ _ 59 _ _ _; refine Rch.blk' (Rn_mono mt _) bl_X4_slideIdea_59 (i_aload_n rfl (i_iload rfl (t_cs2 (Rn_mono mt _) 65 rfl (Nat.le_of_ble_eq_true rfl) ?_))))
        | (show Rch _ _ _ _ _ 65 _ _ _; refine Rch.blk' (Rn_mono mt _) bl_X4_slideIdea_65 (t_if_ne 71 68 rfl rfl (by first | exact hI_R | exact band_R | exact bor_R | exact bshr_R | exact lcm_R | omega) (fun hc => ?_) (fun hc => ?_)) <;> (first | (exfalso; omega) | skip))
        | (show Rch _ _ _ _ _ 68 _ _ _; refine Rch.blk' (Rn_mono mt _) bl_X4_slideIdea_68 (i_iload rfl (t_iret ?_)))
        | (show Rch _ _ _ _ _ 71 _ _ _; refine Rch.blk' (Rn_mono mt _) bl_X4_slideIdea_71 (i_iload rfl (i_istore5 trivial (i_iinc6 trivial k_1 (t_goto 16 rfl ?_)))))
        | (show Rch _ _ _ _ _ 81 _ _ _; refine Rch.blk' (Rn_mono mt _) bl_X4_slideIdea_81 (i_iload rfl (t_iret ?_))))
    · have e : (6 - k).toNat = (6 - (k + 1)).toNat + 1 := by omega
      rw [e, sld] at hs
      have e9 : bk G z (k * r) (k * c) = sqO (sq G z) (w * k) (c * k) := by show sqO (sq G z) (sg G z (k * r)) (k * c) = _; rw [ew, Int.mul_comm k c]
      rw [e9] at hs
      have q1 : (0 ≤ sqO (sq G z) (w * k) (c * k) ∧ sqO (sq G z) (w * k) (c * k) < 36 ∧ 0 ≤ ons G (sqO (sq G z) (w * k) (c * k)) ∧ sd G (ons G (sqO (sq G z) (w * k) (c * k))) = 1 - sd G z) → sqO (sq G z) (w * k) (c * k) = sli G z r c := fun a => (ifp_p a).symm.trans hs
      have q2 : ¬ (0 ≤ sqO (sq G z) (w * k) (c * k) ∧ sqO (sq G z) (w * k) (c * k) < 36 ∧ 0 ≤ ons G (sqO (sq G z) (w * k) (c * k)) ∧ sd G (ons G (sqO (sq G z) (w * k) (c * k))) = 1 - sd G z) → (0 ≤ sqO (sq G z) (w * k) (c * k) ∧ sqO (sq G z) (w * k) (c * k) < 36 ∧ ons G (sqO (sq G z) (w * k) (c * k)) = -4) → sld G z r c (6 - (k + 1)).toNat (k + 1) (sqO (sq G z) (w * k) (c * k)) = sli G z r c := fun a b => (((ifp_n a).trans (ifp_p b)).symm).trans hs
      have q3 : ¬ (0 ≤ sqO (sq G z) (w * k) (c * k) ∧ sqO (sq G z) (w * k) (c * k) < 36 ∧ 0 ≤ ons G (sqO (sq G z) (w * k) (c * k)) ∧ sd G (ons G (sqO (sq G z) (w * k) (c * k))) = 1 - sd G z) → ¬ (0 ≤ sqO (sq G z) (w * k) (c * k) ∧ sqO (sq G z) (w * k) (c * k) < 36 ∧ ons G (sqO (sq G z) (w * k) (c * k)) = -4) → f = sli G z r c := fun a b => (((ifp_n a).trans (ifp_n b)).symm).trans hs
      refine Rch.blk' (Rn_mono mt _) bl_X4_slideIdea_16 (i_iload rfl (i_bipush k_6 (t_ic_ge 81 23 rfl rfl (by first | exact hI_R | exact band_R | exact bor_R | exact bshr_R | exact lcm_R | omega) (by first | exact hI_R | exact band_R | exact bor_R | exact bshr_R | exact lcm_R | omega) (fun hc => ?_) (fun hc => ?_)))) <;> (first | (exfalso; omega) | skip)
      repeat' (first
        | exact ih (by omega) (by omega) _ _ (by omega) (by omega) (q2 (by omega) (by omega))
        | exact hq _ (q1 (by omega)) (by omega) (by omega)
        | exact hq _ (q3 (by omega) (by omega)) (by omega) (by omega)
        | (show Rn _ _ 109 _ _ _; refine c_X4_of ?_)
        | (show Rn _ _ 118 _ _ _; refine c_X4_squareOn (by omega) (by omega) (by omega) (by omega) (fun _ _ => ?_) (fun _ => ?_))
        | (show Rn _ _ 120 _ _ _; refine c_X4_isOfSide (by assumption) (by assumption) (by omega) (by first | omega | exact hI_R) (by omega) (fun _ _ _ _ _ => ?_) (fun _ => ?_))
        | (show Rn _ _ 119 _ _ _; refine c_X4_isFree (by assumption) (by assumption) (by omega) (by omega) (fun _ _ _ => ?_) (fun _ => ?_))
        | (show Rch _ _ _ _ _ 0 _ _ _; refine Rch.blk' (Rn_mono mt _) bl_X4_slideIdea_0 (i_aload_n rfl (i_iload_n rfl (i_iconst k_3 (t_cs2 (Rn_mono mt _) 6 rfl (Nat.le_of_ble_eq_true rfl) ?_)))))
        | (show Rch _ _ _ _ _ 6 _ _ _; refine Rch.blk' (Rn_mono mt _) bl_X4_slideIdea_6 (i_iald rfl (by first | omega | (simp (disch := omega) only [e_s]; omega)) (by simp only [aln]; omega) (by simp only [aln]; omega) (i_istore4 trivial (i_bipush k_m4 (i_istore5 trivial (i_iconst k_1 (i_istore6 trivial (t_none ?_))))))) <;> (try (simp (disch := omega) only [e_s])))
        | (show Rch _ _ _ _ _ 23 _ _ _; refine Rch.blk' (Rn_mono mt _) bl_X4_slideIdea_23 (i_iload rfl (i_iload_n rfl (i_iload rfl (i_imul (i_iload_n rfl (i_iload rfl (i_imul (t_cs3 (Rn_mono mt _) 36 rfl (Nat.le_of_ble_eq_true rfl) ?_)))))))))
        | (show Rch _ _ _ _ _ 36 _ _ _; refine Rch.blk' (Rn_mono mt _) bl_X4_slideIdea_36 (i_istore7 trivial (i_aload_n rfl (i_iload rfl (i_iconst k_1 (i_aload_n rfl (i_iload_n rfl (i_iconst k_2 (t_cs2 (Rn_mono mt _) 48 rfl (Nat.le_of_ble_eq_true rfl) ?_)))))))))
        | (show Rch _ _ _ _ _ 48 _ _ _; refine Rch.blk' (Rn_mono mt _) bl_X4_slideIdea_48 (i_iald rfl (by first | omega | (simp (disch := omega) only [e_s]; omega)) (by simp only [aln]; omega) (by simp only [aln]; omega) (i_isub (t_cs3 (Rn_mono mt _) 53 rfl (Nat.le_of_ble_eq_true rfl) ?_))) <;> (try (simp (disch := omega) only [e_s])))
        | (show Rch _ _ _ _ _ 53 _ _ _; refine Rch.blk' (Rn_mono mt _) bl_X4_slideIdea_53 (t_if_eq 59 56 rfl rfl (by first | exact hI_R | exact band_R | exact bor_R | exact bshr_R | exact lcm_R | omega | (simp (disch := omega) only [e_s]; omega)) (fun hc => ?_) (fun hc => ?_)) <;> (first | (exfalso; omega) | skip))
        | (show Rch _ _ _ _ _ 56 _ _ _; refine Rch.blk' (Rn_mono mt _) bl_X4_slideIdea_56 (i_iload rfl (t_iret ?_)))
        | (show Rch _ _ _ _ _ 59 _ _ _; refine Rch.blk' (Rn_mono mt _) bl_X4_slideIdea_59 (i_aload_n rfl (i_iload rfl (t_cs2 (Rn_mono mt _) 65 rfl (Nat.le_of_ble_eq_true rfl) ?_))))
        | (show Rch _ _ _ _ _ 65 _ _ _; refine Rch.blk' (Rn_mono mt _) bl_X4_slideIdea_65 (t_if_ne 71 68 rfl rfl (by first | exact hI_R | exact band_R | exact bor_R | exact bshr_R | exact lcm_R | omega | (simp (disch := omega) only [e_s]; omega)) (fun hc => ?_) (fun hc => ?_)) <;> (first | (exfalso; omega) | skip))
        | (show Rch _ _ _ _ _ 68 _ _ _; refine Rch.blk' (Rn_mono mt _) bl_X4_slideIdea_68 (i_iload rfl (t_iret ?_)))
        | (show Rch _ _ _ _ _ 71 _ _ _; refine Rch.blk' (Rn_mono mt _) bl_X4_slideIdea_71 (i_iload rfl (i_istore5 trivial (i_iinc6 trivial k_1 (t_goto 16 rfl ?_)))))
        | (show Rch _ _ _ _ _ 81 _ _ _; refine Rch.blk' (Rn_mono mt _) bl_X4_slideIdea_81 (i_iload rfl (t_iret ?_))))
  repeat' (first
    | exact key 1 (by omega) (by omega) _ _ (by omega) (by omega) rfl
    | (show Rn _ _ 109 _ _ _; refine c_X4_of ?_)
    | (show Rn _ _ 118 _ _ _; refine c_X4_squareOn (by omega) (by omega) (by omega) (by omega) (fun _ _ => ?_) (fun _ => ?_))
    | (show Rn _ _ 120 _ _ _; refine c_X4_isOfSide (by assumption) (by assumption) (by omega) (by first | omega | exact hI_R) (by omega) (fun _ _ _ _ _ => ?_) (fun _ => ?_))
    | (show Rn _ _ 119 _ _ _; refine c_X4_isFree (by assumption) (by assumption) (by omega) (by omega) (fun _ _ _ => ?_) (fun _ => ?_))
    | (show Rch _ _ _ _ _ 0 _ _ _; refine Rch.blk' (Rn_mono mt _) bl_X4_slideIdea_0 (i_aload_n rfl (i_iload_n rfl (i_iconst k_3 (t_cs2 (Rn_mono mt _) 6 rfl (Nat.le_of_ble_eq_true rfl) ?_)))))
    | (show Rch _ _ _ _ _ 6 _ _ _; refine Rch.blk' (Rn_mono mt _) bl_X4_slideIdea_6 (i_iald rfl (by first | omega | (simp (disch := omega) only [e_q, g_4]; omega)) (by simp only [aln]; omega) (by simp only [aln]; omega) (i_istore4 trivial (i_bipush k_m4 (i_istore5 trivial (i_iconst k_1 (i_istore6 trivial (t_none ?_))))))) <;> (try (simp (disch := omega) only [e_q, g_4])))
    | (show Rch _ _ _ _ _ 23 _ _ _; refine Rch.blk' (Rn_mono mt _) bl_X4_slideIdea_23 (i_iload rfl (i_iload_n rfl (i_iload rfl (i_imul (i_iload_n rfl (i_iload rfl (i_imul (t_cs3 (Rn_mono mt _) 36 rfl (Nat.le_of_ble_eq_true rfl) ?_)))))))))
    | (show Rch _ _ _ _ _ 36 _ _ _; refine Rch.blk' (Rn_mono mt _) bl_X4_slideIdea_36 (i_istore7 trivial (i_aload_n rfl (i_iload rfl (i_iconst k_1 (i_aload_n rfl (i_iload_n rfl (i_iconst k_2 (t_cs2 (Rn_mono mt _) 48 rfl (Nat.le_of_ble_eq_true rfl) ?_)))))))))
    | (show Rch _ _ _ _ _ 48 _ _ _; refine Rch.blk' (Rn_mono mt _) bl_X4_slideIdea_48 (i_iald rfl (by first | omega | (simp (disch := omega) only [e_q, g_4]; omega)) (by simp only [aln]; omega) (by simp only [aln]; omega) (i_isub (t_cs3 (Rn_mono mt _) 53 rfl (Nat.le_of_ble_eq_true rfl) ?_))) <;> (try (simp (disch := omega) only [e_q, g_4])))
    | (show Rch _ _ _ _ _ 53 _ _ _; refine Rch.blk' (Rn_mono mt _) bl_X4_slideIdea_53 (t_if_eq 59 56 rfl rfl (by first | exact hI_R | exact band_R | exact bor_R | exact bshr_R | exact lcm_R | omega | (simp (disch := omega) only [e_q, g_4]; omega)) (fun hc => ?_) (fun hc => ?_)) <;> (first | (exfalso; omega) | skip))
    | (show Rch _ _ _ _ _ 56 _ _ _; refine Rch.blk' (Rn_mono mt _) bl_X4_slideIdea_56 (i_iload rfl (t_iret ?_)))
    | (show Rch _ _ _ _ _ 59 _ _ _; refine Rch.blk' (Rn_mono mt _) bl_X4_slideIdea_59 (i_aload_n rfl (i_iload rfl (t_cs2 (Rn_mono mt _) 65 rfl (Nat.le_of_ble_eq_true rfl) ?_))))
    | (show Rch _ _ _ _ _ 65 _ _ _; refine Rch.blk' (Rn_mono mt _) bl_X4_slideIdea_65 (t_if_ne 71 68 rfl rfl (by first | exact hI_R | exact band_R | exact bor_R | exact bshr_R | exact lcm_R | omega | (simp (disch := omega) only [e_q, g_4]; omega)) (fun hc => ?_) (fun hc => ?_)) <;> (first | (exfalso; omega) | skip))
    | (show Rch _ _ _ _ _ 68 _ _ _; refine Rch.blk' (Rn_mono mt _) bl_X4_slideIdea_68 (i_iload rfl (t_iret ?_)))
    | (show Rch _ _ _ _ _ 71 _ _ _; refine Rch.blk' (Rn_mono mt _) bl_X4_slideIdea_71 (i_iload rfl (i_istore5 trivial (i_iinc6 trivial k_1 (t_goto 16 rfl ?_)))))
    | (show Rch _ _ _ _ _ 81 _ _ _; refine Rch.blk' (Rn_mono mt _) bl_X4_slideIdea_81 (i_iload rfl (t_iret ?_))))
theorem c_X4_idea (hG : RR h b G M ra) (hO : OKB G) {z y : Int} (z0 : 0 ≤ z) (z1 : z < nn G) (h4 : 0 ≤ y) (h5 : y < 1000000) (h1 : sq G z < 36 → ¬ M z → ∀ v, v = ide G z y → -4 ≤ v → v < 36 → Q (some (ai (I v))) h) (h0 : (sq G z = 36 ∨ M z) → Q (some (ai (I (-4)))) h) : Rn mt (d + 5) 128 [ar 12 b, ai (I z), ai (I y)] h Q := by
  refine Rn.intro iX4_idea rfl rfl ?_
  show Rch bX4_idea _ _ _ _ 0 [some (ar 12 b), some (ai (I z)), some (ai (I y)), none, none] [] _
  have e_q := @RR.q _ _ _ _ _ hG
  have e_k := @RR.k _ _ _ _ _ hG
  have e_m := hG.m
  have g_n := hO.n
  have g_p := hO.pc z z0 z1
  have g_4 := @m4_p
  have g_8 := @sli_R G z 1 0
  obtain ⟨s, s1, s2, sm, s0, hs⟩ := sg_s G z
  by_cases hMz : M z
  · have h0 := h0 (Or.inr hMz)
    repeat' (first
      | exact h0
      | exact absurd hMz (by assumption)
      | (show Rn _ _ 114 _ _ _; refine c_X4_isHere (by assumption) (by assumption) (by omega) (by omega) (fun _ _ => ?_) (fun _ => ?_))
      | (show Rn _ _ 115 _ _ _; refine c_X4_has (by omega) (by omega) (fun _ => ?_) (fun _ => ?_))
      | (show Rn _ _ 122 _ _ _; refine c_X4_forward (by assumption) (by assumption) (by omega) (by omega) (fun _ _ => ?_) (fun _ _ => ?_))
      | (show Rn _ _ 109 _ _ _; refine c_X4_of ?_)
      | (show Rn _ _ 118 _ _ _; refine c_X4_squareOn (by omega) (by omega) (by omega) (by omega) (fun _ _ => ?_) (fun _ => ?_))
      | (show Rn _ _ 124 _ _ _; refine c_X4_knightIdea (by assumption) (by assumption) (by omega) (by omega) (by omega) (by omega) (fun _ _ _ _ => ?_))
      | (show Rn _ _ 126 _ _ _; refine c_X4_bishopIdea (by assumption) (by assumption) (by omega) (by omega) (by omega) (by omega) (by omega) (by omega) (fun _ _ _ _ => ?_))
      | (show Rn _ _ 127 _ _ _; refine c_X4_kingIdea (by assumption) (by assumption) (by omega) (by omega) (by omega) (by omega) (fun _ _ _ _ => ?_))
      | (show Rn _ _ 119 _ _ _; refine c_X4_isFree (by assumption) (by assumption) (by omega) (by omega) (fun _ _ _ => ?_) (fun _ => ?_))
      | (show Rn _ _ 123 _ _ _; refine c_X4_pawnIdea (by assumption) (by assumption) (by omega) (by omega) (by omega) (by omega) (fun _ _ _ _ => ?_))
      | (show Rch _ _ _ _ _ 0 _ _ _; refine Rch.blk' (Rn_mono mt _) bl_X4_idea_0 (i_aload_n rfl (i_iload_n rfl (t_cs2 (Rn_mono mt _) 5 rfl (Nat.le_of_ble_eq_true rfl) ?_))))
      | (show Rch _ _ _ _ _ 5 _ _ _; refine Rch.blk' (Rn_mono mt _) bl_X4_idea_5 (t_if_eq 18 8 rfl rfl (by first | exact hI_R | exact band_R | exact bor_R | exact bshr_R | exact lcm_R | omega | (simp (disch := omega) only [e_q, e_m]; omega)) (fun hc => ?_) (fun hc => ?_)) <;> (first | (exfalso; omega) | skip))
      | (show Rch _ _ _ _ _ 8 _ _ _; refine Rch.blk' (Rn_mono mt _) bl_X4_idea_8 (i_aload_n rfl (i_iconst k_4 (i_iald (n := 46) rfl (by first | omega | (simp (disch := omega) only [e_q, e_m]; omega)) (by first | omega | (simp (disch := omega) only [e_q, e_m]; omega)) (by first | omega | (simp (disch := omega) only [e_q, e_m]; omega)) (i_iload_n rfl (t_cs2 (Rn_mono mt _) 15 rfl (Nat.le_of_ble_eq_true rfl) ?_))))) <;> (try (simp (disch := omega) only [e_q, e_m])))
      | (show Rch _ _ _ _ _ 15 _ _ _; refine Rch.blk' (Rn_mono mt _) bl_X4_idea_15 (t_if_eq 21 18 rfl rfl (by first | exact hI_R | exact band_R | exact bor_R | exact bshr_R | exact lcm_R | omega | (simp (disch := omega) only [e_q, e_m]; omega)) (fun hc => ?_) (fun hc => ?_)) <;> (first | (exfalso; omega) | skip))
      | (show Rch _ _ _ _ _ 18 _ _ _; refine Rch.blk' (Rn_mono mt _) bl_X4_idea_18 (i_bipush k_m4 (t_iret ?_)))
      | (show Rch _ _ _ _ _ 26 _ _ _; refine Rch.blk' (Rn_mono mt _) bl_X4_idea_26 (i_istore3 trivial (i_aload_n rfl (i_iload_n rfl (i_iconst k_3 (t_cs2 (Rn_mono mt _) 33 rfl (Nat.le_of_ble_eq_true rfl) ?_))))))
      | (show Rch _ _ _ _ _ 33 _ _ _; refine Rch.blk' (Rn_mono mt _) bl_X4_idea_33 (i_iald rfl (by first | omega | (simp (disch := omega) only [e_q, e_m]; omega)) (by simp only [aln]; omega) (by simp only [aln]; omega) (i_iconst k_0 (i_iconst k_m1 (t_cs3 (Rn_mono mt _) 39 rfl (Nat.le_of_ble_eq_true rfl) ?_)))) <;> (try (simp (disch := omega) only [e_q, e_m])))
      | (show Rch _ _ _ _ _ 39 _ _ _; refine Rch.blk' (Rn_mono mt _) bl_X4_idea_39 (i_istore4 trivial (i_aload_n rfl (i_iload_n rfl (i_iconst k_0 (t_cs2 (Rn_mono mt _) 47 rfl (Nat.le_of_ble_eq_true rfl) ?_))))))
      | (show Rch _ _ _ _ _ 47 _ _ _; refine Rch.blk' (Rn_mono mt _) bl_X4_idea_47 (i_iald rfl (by first | omega | (simp (disch := omega) only [e_q, e_m]; omega)) (by simp only [aln]; omega) (by simp only [aln]; omega) (t_tsw 1 7 168 rfl rfl (by first | omega | (simp (disch := omega) only [e_q, e_m]; omega)) rfl (by first | exact hI_R | exact band_R | exact bor_R | exact bshr_R | exact lcm_R | omega | (simp (disch := omega) only [e_q, e_m]; omega)) (by first | omega | (simp (disch := omega) only [e_q, e_m]; omega)) (sw_c 1 92 2 rfl rfl (by first | exact hI_R | exact band_R | exact bor_R | exact bshr_R | exact lcm_R | omega | (simp (disch := omega) only [e_q, e_m]; omega)) (by first | omega | (simp (disch := omega) only [e_q, e_m]; omega)) rfl (fun hc => ?_) (sw_c 2 98 3 rfl rfl (by first | exact hI_R | exact band_R | exact bor_R | exact bshr_R | exact lcm_R | omega | (simp (disch := omega) only [e_q, e_m]; omega)) (by first | omega | (simp (disch := omega) only [e_q, e_m]; omega)) rfl (fun hc => ?_) (sw_c 3 106 4 rfl rfl (by first | exact hI_R | exact band_R | exact bor_R | exact bshr_R | exact lcm_R | omega | (simp (disch := omega) only [e_q, e_m]; omega)) (by first | omega | (simp (disch := omega) only [e_q, e_m]; omega)) rfl (fun hc => ?_) (sw_c 4 113 5 rfl rfl (by first | exact hI_R | exact band_R | exact bor_R | exact bshr_R | exact lcm_R | omega | (simp (disch := omega) only [e_q, e_m]; omega)) (by first | omega | (simp (disch := omega) only [e_q, e_m]; omega)) rfl (fun hc => ?_) (sw_c 5 141 6 rfl rfl (by first | exact hI_R | exact band_R | exact bor_R | exact bshr_R | exact lcm_R | omega | (simp (disch := omega) only [e_q, e_m]; omega)) (by first | omega | (simp (disch := omega) only [e_q, e_m]; omega)) rfl (fun hc => ?_) (sw_c 6 98 7 rfl rfl (by first | exact hI_R | exact band_R | exact bor_R | exact bshr_R | exact lcm_R | omega | (simp (disch := omega) only [e_q, e_m]; omega)) (by first | omega | (simp (disch := omega) only [e_q, e_m]; omega)) rfl (fun hc => ?_) (sw_c 7 147 8 rfl rfl (by first | exact hI_R | exact band_R | exact bor_R | exact bshr_R | exact lcm_R | omega | (simp (disch := omega) only [e_q, e_m]; omega)) (by first | omega | (simp (disch := omega) only [e_q, e_m]; omega)) rfl (fun hc => ?_) sw_n))))))) (fun hc => ?_))) <;> (try (simp (disch := omega) only [e_q, e_m] at hc ⊢)) <;> (first | (exfalso; omega) | skip))
      | (show Rch _ _ _ _ _ 92 _ _ _; refine Rch.blk' (Rn_mono mt _) bl_X4_idea_92 (i_aload_n rfl (i_iload_n rfl (t_cs2 (Rn_mono mt _) 97 rfl (Nat.le_of_ble_eq_true rfl) ?_))))
      | (show Rch _ _ _ _ _ 97 _ _ _; refine Rch.blk' (Rn_mono mt _) bl_X4_idea_97 (t_iret ?_))
      | (show Rch _ _ _ _ _ 98 _ _ _; refine Rch.blk' (Rn_mono mt _) bl_X4_idea_98 (i_aload_n rfl (i_iload_n rfl (i_iload_n rfl (i_iconst k_0 (t_cs4 (Rn_mono mt _) 105 rfl (Nat.le_of_ble_eq_true rfl) ?_))))))
      | (show Rch _ _ _ _ _ 105 _ _ _; refine Rch.blk' (Rn_mono mt _) bl_X4_idea_105 (t_iret ?_))
      | (show Rch _ _ _ _ _ 106 _ _ _; refine Rch.blk' (Rn_mono mt _) bl_X4_idea_106 (i_aload_n rfl (i_iload_n rfl (i_iload_n rfl (t_cs3 (Rn_mono mt _) 112 rfl (Nat.le_of_ble_eq_true rfl) ?_)))))
      | (show Rch _ _ _ _ _ 112 _ _ _; refine Rch.blk' (Rn_mono mt _) bl_X4_idea_112 (t_iret ?_))
      | (show Rch _ _ _ _ _ 113 _ _ _; refine Rch.blk' (Rn_mono mt _) bl_X4_idea_113 (i_aload_n rfl (i_iload_n rfl (i_iload_n rfl (i_iconst k_0 (t_cs4 (Rn_mono mt _) 120 rfl (Nat.le_of_ble_eq_true rfl) ?_))))))
      | (show Rch _ _ _ _ _ 120 _ _ _; refine Rch.blk' (Rn_mono mt _) bl_X4_idea_120 (t_if_lt 133 123 rfl rfl (by first | exact hI_R | exact band_R | exact bor_R | exact bshr_R | exact lcm_R | omega | (simp (disch := omega) only [e_q, e_m]; omega)) (fun hc => ?_) (fun hc => ?_)) <;> (first | (exfalso; omega) | skip))
      | (show Rch _ _ _ _ _ 123 _ _ _; refine Rch.blk' (Rn_mono mt _) bl_X4_idea_123 (i_aload_n rfl (i_iload_n rfl (i_iload_n rfl (i_iconst k_0 (t_cs4 (Rn_mono mt _) 130 rfl (Nat.le_of_ble_eq_true rfl) ?_))))))
      | (show Rch _ _ _ _ _ 130 _ _ _; refine Rch.blk' (Rn_mono mt _) bl_X4_idea_130 (t_goto 140 rfl ?_))
      | (show Rch _ _ _ _ _ 133 _ _ _; refine Rch.blk' (Rn_mono mt _) bl_X4_idea_133 (i_aload_n rfl (i_iload_n rfl (i_iconst k_0 (i_iconst k_1 (t_cs4 (Rn_mono mt _) 140 rfl (Nat.le_of_ble_eq_true rfl) ?_))))))
      | (show Rch _ _ _ _ _ 140 _ _ _; refine Rch.blk' (Rn_mono mt _) bl_X4_idea_140 (t_iret ?_))
      | (show Rch _ _ _ _ _ 141 _ _ _; refine Rch.blk' (Rn_mono mt _) bl_X4_idea_141 (i_aload_n rfl (i_iload_n rfl (t_cs2 (Rn_mono mt _) 146 rfl (Nat.le_of_ble_eq_true rfl) ?_))))
      | (show Rch _ _ _ _ _ 146 _ _ _; refine Rch.blk' (Rn_mono mt _) bl_X4_idea_146 (t_iret ?_))
      | (show Rch _ _ _ _ _ 147 _ _ _; refine Rch.blk' (Rn_mono mt _) bl_X4_idea_147 (i_aload_n rfl (i_iload rfl (t_cs2 (Rn_mono mt _) 153 rfl (Nat.le_of_ble_eq_true rfl) ?_))))
      | (show Rch _ _ _ _ _ 153 _ _ _; refine Rch.blk' (Rn_mono mt _) bl_X4_idea_153 (t_if_eq 161 156 rfl rfl (by first | exact hI_R | exact band_R | exact bor_R | exact bshr_R | exact lcm_R | omega | (simp (disch := omega) only [e_q, e_m]; omega)) (fun hc => ?_) (fun hc => ?_)) <;> (first | (exfalso; omega) | skip))
      | (show Rch _ _ _ _ _ 156 _ _ _; refine Rch.blk' (Rn_mono mt _) bl_X4_idea_156 (i_iload rfl (t_goto 167 rfl ?_)))
      | (show Rch _ _ _ _ _ 161 _ _ _; refine Rch.blk' (Rn_mono mt _) bl_X4_idea_161 (i_aload_n rfl (i_iload_n rfl (i_iload_n rfl (t_cs3 (Rn_mono mt _) 167 rfl (Nat.le_of_ble_eq_true rfl) ?_)))))
      | (show Rch _ _ _ _ _ 167 _ _ _; refine Rch.blk' (Rn_mono mt _) bl_X4_idea_167 (t_iret ?_))
      | (show Rch _ _ _ _ _ 168 _ _ _; refine Rch.blk' (Rn_mono mt _) bl_X4_idea_168 (i_aload_n rfl (i_iload_n rfl (t_cs2 (Rn_mono mt _) 173 rfl (Nat.le_of_ble_eq_true rfl) ?_))))
      | (show Rch _ _ _ _ _ 173 _ _ _; refine Rch.blk' (Rn_mono mt _) bl_X4_idea_173 (t_iret ?_)))
  have h1 := fun a => h1 a hMz
  have q7a : (0 ≤ sqO (sq G z) 0 (-1) ∧ sqO (sq G z) 0 (-1) < 36 ∧ ons G (sqO (sq G z) 0 (-1)) = -4) → kd G z = 7 → ide G z y = sqO (sq G z) 0 (-1) := by
    have e9 : bk G z 0 (-1) = sqO (sq G z) 0 (-1) := by show sqO (sq G z) (sg G z 0) (-1) = _; rw [s0]
    intro a k
    unfold ide
    rw [e9]
    rw [if_neg (by omega), if_neg (by omega), if_neg (by omega), if_neg (by omega), if_neg (by omega), if_pos k]
    exact ifp_p a
  have q7b : ¬ (0 ≤ sqO (sq G z) 0 (-1) ∧ sqO (sq G z) 0 (-1) < 36 ∧ ons G (sqO (sq G z) 0 (-1)) = -4) → kd G z = 7 → ide G z y = bii G z y := by
    have e9 : bk G z 0 (-1) = sqO (sq G z) 0 (-1) := by show sqO (sq G z) (sg G z 0) (-1) = _; rw [s0]
    intro a k
    unfold ide
    rw [e9]
    rw [if_neg (by omega), if_neg (by omega), if_neg (by omega), if_neg (by omega), if_neg (by omega), if_pos k]
    exact ifp_n a
  repeat' (first
    | (show Rn _ _ 122 _ _ _; refine c_X4_forward2 (by assumption) (by assumption) (by omega) (by omega) (by assumption) ?_)
    | (show Rn _ _ 125 _ _ _; refine c_X4_slideIdea (r := 1) (by assumption) (by assumption) (by omega) (by assumption) (by omega) (by omega) (by omega) (by omega) (fun _ _ _ _ => ?_))
    | (show Rn _ _ 125 _ _ _; refine c_X4_slideIdea (r := 0) (by assumption) (by assumption) (by omega) (by assumption) (by omega) (by omega) (by omega) (by omega) (fun _ _ _ _ => ?_))
    | exact absurd (by assumption) hMz
    | exact h0 (by omega)
    | (refine h1 (by omega) _ ?_ (by omega) (by omega); unfold ide; omega)
    | exact h1 (by omega) _ (q7a (by omega) (by omega)).symm (by omega) (by omega)
    | exact h1 (by omega) _ (by rw [q7b (by omega) (by omega)]; assumption) (by omega) (by omega)
    | (show Rn _ _ 114 _ _ _; refine c_X4_isHere (by assumption) (by assumption) (by omega) (by omega) (fun _ _ => ?_) (fun _ => ?_))
    | (show Rn _ _ 115 _ _ _; refine c_X4_has (by omega) (by omega) (fun _ => ?_) (fun _ => ?_))
    | (show Rn _ _ 122 _ _ _; refine c_X4_forward (by assumption) (by assumption) (by omega) (by omega) (fun _ _ => ?_) (fun _ _ => ?_))
    | (show Rn _ _ 109 _ _ _; refine c_X4_of ?_)
    | (show Rn _ _ 118 _ _ _; refine c_X4_squareOn (by omega) (by omega) (by omega) (by omega) (fun _ _ => ?_) (fun _ => ?_))
    | (show Rn _ _ 124 _ _ _; refine c_X4_knightIdea (by assumption) (by assumption) (by omega) (by omega) (by omega) (by omega) (fun _ _ _ _ => ?_))
    | (show Rn _ _ 126 _ _ _; refine c_X4_bishopIdea (by assumption) (by assumption) (by omega) (by omega) (by omega) (by omega) (by omega) (by omega) (fun _ _ _ _ => ?_))
    | (show Rn _ _ 127 _ _ _; refine c_X4_kingIdea (by assumption) (by assumption) (by omega) (by omega) (by omega) (by omega) (fun _ _ _ _ => ?_))
    | (show Rn _ _ 119 _ _ _; refine c_X4_isFree (by assumption) (by assumption) (by omega) (by omega) (fun _ _ _ => ?_) (fun _ => ?_))
    | (show Rn _ _ 123 _ _ _; refine c_X4_pawnIdea (by assumption) (by assumption) (by omega) (by omega) (by omega) (by omega) (fun _ _ _ _ => ?_))
    | (show Rch _ _ _ _ _ 0 _ _ _; refine Rch.blk' (Rn_mono mt _) bl_X4_idea_0 (i_aload_n rfl (i_iload_n rfl (t_cs2 (Rn_mono mt _) 5 rfl (Nat.le_of_ble_eq_true rfl) ?_))))
    | (show Rch _ _ _ _ _ 5 _ _ _; refine Rch.blk' (Rn_mono mt _) bl_X4_idea_5 (t_if_eq 18 8 rfl rfl (by first | exact hI_R | exact band_R | exact bor_R | exact bshr_R | exact lcm_R | omega | (simp (disch := omega) only [e_q, e_m, e_k, g_4]; omega)) (fun hc => ?_) (fun hc => ?_)) <;> (first | (exfalso; omega) | skip))
    | (show Rch _ _ _ _ _ 8 _ _ _; refine Rch.blk' (Rn_mono mt _) bl_X4_idea_8 (i_aload_n rfl (i_iconst k_4 (i_iald (n := 46) rfl (by first | omega | (simp (disch := omega) only [e_q, e_m, e_k, g_4]; omega)) (by first | omega | (simp (disch := omega) only [e_q, e_m, e_k, g_4]; omega)) (by first | omega | (simp (disch := omega) only [e_q, e_m, e_k, g_4]; omega)) (i_iload_n rfl (t_cs2 (Rn_mono mt _) 15 rfl (Nat.le_of_ble_eq_true rfl) ?_))))) <;> (try (simp (disch := omega) only [e_q, e_m, e_k, g_4])))
    | (show Rch _ _ _ _ _ 15 _ _ _; refine Rch.blk' (Rn_mono mt _) bl_X4_idea_15 (t_if_eq 21 18 rfl rfl (by first | exact hI_R | exact band_R | exact bor_R | exact bshr_R | exact lcm_R | omega | (simp (disch := omega) only [e_q, e_m, e_k, g_4]; omega)) (fun hc => ?_) (fun hc => ?_)) <;> (first | (exfalso; omega) | skip))
    | (show Rch _ _ _ _ _ 18 _ _ _; refine Rch.blk' (Rn_mono mt _) bl_X4_idea_18 (i_bipush k_m4 (t_iret ?_)))
    | (show Rch _ _ _ _ _ 21 _ _ _; refine Rch.blk' (Rn_mono mt _) bl_X4_idea_21 (i_aload_n rfl (i_iload_n rfl (t_cs2 (Rn_mono mt _) 26 rfl (Nat.le_of_ble_eq_true rfl) ?_))))
    | (show Rch _ _ _ _ _ 26 _ _ _; refine Rch.blk' (Rn_mono mt _) bl_X4_idea_26 (i_istore3 trivial (i_aload_n rfl (i_iload_n rfl (i_iconst k_3 (t_cs2 (Rn_mono mt _) 33 rfl (Nat.le_of_ble_eq_true rfl) ?_))))))
    | (show Rch _ _ _ _ _ 33 _ _ _; refine Rch.blk' (Rn_mono mt _) bl_X4_idea_33 (i_iald rfl (by first | omega | (simp (disch := omega) only [e_q, e_m, e_k, g_4]; omega)) (by simp only [aln]; omega) (by simp only [aln]; omega) (i_iconst k_0 (i_iconst k_m1 (t_cs3 (Rn_mono mt _) 39 rfl (Nat.le_of_ble_eq_true rfl) ?_)))) <;> (try (simp (disch := omega) only [e_q, e_m, e_k, g_4])))
    | (show Rch _ _ _ _ _ 39 _ _ _; refine Rch.blk' (Rn_mono mt _) bl_X4_idea_39 (i_istore4 trivial (i_aload_n rfl (i_iload_n rfl (i_iconst k_0 (t_cs2 (Rn_mono mt _) 47 rfl (Nat.le_of_ble_eq_true rfl) ?_))))))
    | (show Rch _ _ _ _ _ 47 _ _ _; refine Rch.blk' (Rn_mono mt _) bl_X4_idea_47 (i_iald rfl (by first | omega | (simp (disch := omega) only [e_q, e_m, e_k, g_4]; omega)) (by simp only [aln]; omega) (by simp only [aln]; omega) (t_tsw 1 7 168 rfl rfl (by first | omega | (simp (disch := omega) only [e_q, e_m, e_k, g_4]; omega)) rfl (by first | exact hI_R | exact band_R | exact bor_R | exact bshr_R | exact lcm_R | omega | (simp (disch := omega) only [e_q, e_m, e_k, g_4]; omega)) (by first | omega | (simp (disch := omega) only [e_q, e_m, e_k, g_4]; omega)) (sw_c 1 92 2 rfl rfl (by first | exact hI_R | exact band_R | exact bor_R | exact bshr_R | exact lcm_R | omega | (simp (disch := omega) only [e_q, e_m, e_k, g_4]; omega)) (by first | omega | (simp (disch := omega) only [e_q, e_m, e_k, g_4]; omega)) rfl (fun hc => ?_) (sw_c 2 98 3 rfl rfl (by first | exact hI_R | exact band_R | exact bor_R | exact bshr_R | exact lcm_R | omega | (simp (disch := omega) only [e_q, e_m, e_k, g_4]; omega)) (by first | omega | (simp (disch := omega) only [e_q, e_m, e_k, g_4]; omega)) rfl (fun hc => ?_) (sw_c 3 106 4 rfl rfl (by first | exact hI_R | exact band_R | exact bor_R | exact bshr_R | exact lcm_R | omega | (simp (disch := omega) only [e_q, e_m, e_k, g_4]; omega)) (by first | omega | (simp (disch := omega) only [e_q, e_m, e_k, g_4]; omega)) rfl (fun hc => ?_) (sw_c 4 113 5 rfl rfl (by first | exact hI_R | exact band_R | exact bor_R | exact bshr_R | exact lcm_R | omega | (simp (disch := omega) only [e_q, e_m, e_k, g_4]; omega)) (by first | omega | (simp (disch := omega) only [e_q, e_m, e_k, g_4]; omega)) rfl (fun hc => ?_) (sw_c 5 141 6 rfl rfl (by first | exact hI_R | exact band_R | exact bor_R | exact bshr_R | exact lcm_R | omega | (simp (disch := omega) only [e_q, e_m, e_k, g_4]; omega)) (by first | omega | (simp (disch := omega) only [e_q, e_m, e_k, g_4]; omega)) rfl (fun hc => ?_) (sw_c 6 98 7 rfl rfl (by first | exact hI_R | exact band_R | exact bor_R | exact bshr_R | exact lcm_R | omega | (simp (disch := omega) only [e_q, e_m, e_k, g_4]; omega)) (by first | omega | (simp (disch := omega) only [e_q, e_m, e_k, g_4]; omega)) rfl (fun hc => ?_) (sw_c 7 147 8 rfl rfl (by first | exact hI_R | exact band_R | exact bor_R | exact bshr_R | exact lcm_R | omega | (simp (disch := omega) only [e_q, e_m, e_k, g_4]; omega)) (by first | omega | (simp (disch := omega) only [e_q, e_m, e_k, g_4]; omega)) rfl (fun hc => ?_) sw_n))))))) (fun hc => ?_))) <;> (try (simp (disch := omega) only [e_q, e_m, e_k, g_4] at hc ⊢)) <;> (first | (exfalso; omega) | skip))
    | (show Rch _ _ _ _ _ 92 _ _ _; refine Rch.blk' (Rn_mono mt _) bl_X4_idea_92 (i_aload_n rfl (i_iload_n rfl (t_cs2 (Rn_mono mt _) 97 rfl (Nat.le_of_ble_eq_true rfl) ?_))))
    | (show Rch _ _ _ _ _ 97 _ _ _; refine Rch.blk' (Rn_mono mt _) bl_X4_idea_97 (t_iret ?_))
    | (show Rch _ _ _ _ _ 98 _ _ _; refine Rch.blk' (Rn_mono mt _) bl_X4_idea_98 (i_aload_n rfl (i_iload_n rfl (i_iload_n rfl (i_iconst k_0 (t_cs4 (Rn_mono mt _) 105 rfl (Nat.le_of_ble_eq_true rfl) ?_))))))
    | (show Rch _ _ _ _ _ 105 _ _ _; refine Rch.blk' (Rn_mono mt _) bl_X4_idea_105 (t_iret ?_))
    | (show Rch _ _ _ _ _ 106 _ _ _; refine Rch.blk' (Rn_mono mt _) bl_X4_idea_106 (i_aload_n rfl (i_iload_n rfl (i_iload_n rfl (t_cs3 (Rn_mono mt _) 112 rfl (Nat.le_of_ble_eq_true rfl) ?_)))))
    | (show Rch _ _ _ _ _ 112 _ _ _; refine Rch.blk' (Rn_mono mt _) bl_X4_idea_112 (t_iret ?_))
    | (show Rch _ _ _ _ _ 113 _ _ _; refine Rch.blk' (Rn_mono mt _) bl_X4_idea_113 (i_aload_n rfl (i_iload_n rfl (i_iload_n rfl (i_iconst k_0 (t_cs4 (Rn_mono mt _) 120 rfl (Nat.le_of_ble_eq_true rfl) ?_))))))
    | (show Rch _ _ _ _ _ 120 _ _ _; refine Rch.blk' (Rn_mono mt _) bl_X4_idea_120 (t_if_lt 133 123 rfl rfl (by first | exact hI_R | exact band_R | exact bor_R | exact bshr_R | exact lcm_R | omega | (simp (disch := omega) only [e_q, e_m, e_k, g_4]; omega)) (fun hc => ?_) (fun hc => ?_)) <;> (first | (exfalso; omega) | skip))
    | (show Rch _ _ _ _ _ 123 _ _ _; refine Rch.blk' (Rn_mono mt _) bl_X4_idea_123 (i_aload_n rfl (i_iload_n rfl (i_iload_n rfl (i_iconst k_0 (t_cs4 (Rn_mono mt _) 130 rfl (Nat.le_of_ble_eq_true rfl) ?_))))))
    | (show Rch _ _ _ _ _ 130 _ _ _; refine Rch.blk' (Rn_mono mt _) bl_X4_idea_130 (t_goto 140 rfl ?_))
    | (show Rch _ _ _ _ _ 133 _ _ _; refine Rch.blk' (Rn_mono mt _) bl_X4_idea_133 (i_aload_n rfl (i_iload_n rfl (i_iconst k_0 (i_iconst k_1 (t_cs4 (Rn_mono mt _) 140 rfl (Nat.le_of_ble_eq_true rfl) ?_))))))
    | (show Rch _ _ _ _ _ 140 _ _ _; refine Rch.blk' (Rn_mono mt _) bl_X4_idea_140 (t_iret ?_))
    | (show Rch _ _ _ _ _ 141 _ _ _; refine Rch.blk' (Rn_mono mt _) bl_X4_idea_141 (i_aload_n rfl (i_iload_n rfl (t_cs2 (Rn_mono mt _) 146 rfl (Nat.le_of_ble_eq_true rfl) ?_))))
    | (show Rch _ _ _ _ _ 146 _ _ _; refine Rch.blk' (Rn_mono mt _) bl_X4_idea_146 (t_iret ?_))
    | (show Rch _ _ _ _ _ 147 _ _ _; refine Rch.blk' (Rn_mono mt _) bl_X4_idea_147 (i_aload_n rfl (i_iload rfl (t_cs2 (Rn_mono mt _) 153 rfl (Nat.le_of_ble_eq_true rfl) ?_))))
    | (show Rch _ _ _ _ _ 153 _ _ _; refine Rch.blk' (Rn_mono mt _) bl_X4_idea_153 (t_if_eq 161 156 rfl rfl (by first | exact hI_R | exact band_R | exact bor_R | exact bshr_R | exact lcm_R | omega | (simp (disch := omega) only [e_q, e_m, e_k, g_4]; omega)) (fun hc => ?_) (fun hc => ?_)) <;> (first | (exfalso; omega) | skip))
    | (show Rch _ _ _ _ _ 156 _ _ _; refine Rch.blk' (Rn_mono mt _) bl_X4_idea_156 (i_iload rfl (t_goto 167 rfl ?_)))
    | (show Rch _ _ _ _ _ 161 _ _ _; refine Rch.blk' (Rn_mono mt _) bl_X4_idea_161 (i_aload_n rfl (i_iload_n rfl (i_iload_n rfl (t_cs3 (Rn_mono mt _) 167 rfl (Nat.le_of_ble_eq_true rfl) ?_)))))
    | (show Rch _ _ _ _ _ 167 _ _ _; refine Rch.blk' (Rn_mono mt _) bl_X4_idea_167 (t_iret ?_))
    | (show Rch _ _ _ _ _ 168 _ _ _; refine Rch.blk' (Rn_mono mt _) bl_X4_idea_168 (i_aload_n rfl (i_iload_n rfl (t_cs2 (Rn_mono mt _) 173 rfl (Nat.le_of_ble_eq_true rfl) ?_))))
    | (show Rch _ _ _ _ _ 173 _ _ _; refine Rch.blk' (Rn_mono mt _) bl_X4_idea_173 (t_iret ?_)))
end C4

