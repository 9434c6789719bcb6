/-! WORLDS; comes, image, restore, forged, judge: both sides -/
def CW (h : Mem) (G : Bd) (T : Int) (Gi : Bd) (S : Sv) : Prop := RC h 0 G ∧ hI h 2 0 2 = T ∧ (T = 1 → RC h 1 Gi) ∧ SC h S
def RW (h : Mem) (G : Bd) (T : Int) (Gi : Bd) (S : Sv) : Prop := RR h 0 G no0 0 ∧ hI h 3 0 4 = T ∧ (T = 1 → RR h 2 Gi no0 0) ∧ SR h S
noncomputable def oComes (G : Bd) (S : Sv) (x s q : Int) : Int × Bd := if ¬ ((0 ≤ x ∧ x < 8) ∧ (s = 0 ∨ s = 1) ∧ 0 ≤ q ∧ q < 36) then (-1, G) else if ¬ rfu S x 1 = 0 then (rfu S x 1, G) else if ¬ nn G < 10 then (-2, G) else @ite _ (ons G q = -4) (Classical.propDecidable _) (nn G, addp G (sk S x) (sf S x) s q) (-3, G)
def oRestore (G : Bd) (T : Int) (Gi : Bd) : Int × Bd := if T = 1 then (dy Gi, Gi) else (-3, G)
theorem RR.add {h : Mem} {w : Nat} {G : Bd} {M : Int → Prop} {ra : Int} (H : RR h w G M ra) (hO : OKB G) (hn : nn G < 10) {k f s q : Int} (hk : inR k) (hf : inR f) (hs : inR s) (q0 : 0 ≤ q) (q1 : q < 36) : RR (mset (mset (mset (mset (mset h 12 w (6 + 4 * nn G + 0).toNat (I k)) 12 w (6 + 4 * nn G + 1).toNat (I f)) 12 w (6 + 4 * nn G + 2).toNat (I s)) 12 w (6 + 4 * nn G + 3).toNat (I q)) 12 w (Int.toNat 0) (I (nn G + 1))) w (addp G k f s q) M ra := by
  have g_n := hO.n
  have hq : inR q := ⟨by omega, by omega⟩
  refine ⟨?_, ?_, ?_, ?_, ?_, ?_, fun p p0 p1 => ?_⟩
  · exact hI_eq ⟨by omega, by omega⟩
  · simp (disch := omega) only [hI_nk]; exact H.2.1
  · simp (disch := omega) only [hI_nk]; exact H.2.2.1
  · simp (disch := omega) only [hI_nk]; exact H.2.2.2.1
  · simp (disch := omega) only [hI_nk]; exact H.2.2.2.2.1
  · simp (disch := omega) only [hI_nk]; exact H.2.2.2.2.2.1
  · have p1 : p < nn G + 1 := p1
    show _ = (if p = nn G then k else kd G p) ∧ _ = (if p = nn G then f else fg G p) ∧ _ = (if p = nn G then s else sd G p) ∧ _ = m4 (if p = nn G then q else sq G p)
    by_cases pz : p = nn G
    · subst pz
      rw [if_pos rfl, if_pos rfl, if_pos rfl, if_pos rfl, m4_p q1]
      refine ⟨?_, ?_, ?_, ?_⟩
      · rw [hI_nk (by omega), hI_nk (by omega), hI_nk (by omega), hI_nk (by omega), hI_eq hk]
      · rw [hI_nk (by omega), hI_nk (by omega), hI_nk (by omega), hI_eq hf]
      · rw [hI_nk (by omega), hI_nk (by omega), hI_eq hs]
      · rw [hI_nk (by omega), hI_eq hq]
    · rw [if_neg pz, if_neg pz, if_neg pz, if_neg pz]
      refine ⟨?_, ?_, ?_, ?_⟩
      · rw [hI_nk (by omega), hI_nk (by omega), hI_nk (by omega), hI_nk (by omega), hI_nk (by omega)]; exact H.k p0 (by omega)
      · rw [hI_nk (by omega), hI_nk (by omega), hI_nk (by omega), hI_nk (by omega), hI_nk (by omega)]; exact H.f p0 (by omega)
      · rw [hI_nk (by omega), hI_nk (by omega), hI_nk (by omega), hI_nk (by omega), hI_nk (by omega)]; exact H.s p0 (by omega)
      · rw [hI_nk (by omega), hI_nk (by omega), hI_nk (by omega), hI_nk (by omega), hI_nk (by omega)]; exact H.q p0 (by omega)
section C13
variable {d L : Nat} {h : Mem} {Q : Option AV → Mem → Prop} {G Gi : Bd} {S : Sv} {T : Int}
theorem c_X3_comes (hG : RC h 0 G) (hO : OKB G) (hS : SC h S) (hK : OKS S) {x s q : Int} (hx : inR x) (hs : inR s) (hz : inR q) (hq : ∀ v G' h', oComes G S x s q = (v, G') → RC h' 0 G' → FrC h h' 0 → Q (some (ai (I v))) h') : Rn mt L (d + 3) 54 [ar 2 0, ai (I x), ai (I s), ai (I q)] h Q := by
  refine Rn.intro iX3_comes rfl rfl ?_
  show Rch bX3_comes _ _ _ _ 0 [some (ar 2 0), some (ai (I x)), some (ai (I s)), some (ai (I q)), none, none] [] _
  have e_n := hG.n
  have e_k := fun a b => @SC.k _ _ x hS a b
  have e_f := fun a b => @SC.f _ _ x hS a b
  have g_n := hO.n
  have g := hK x
  have k1 : ∀ u, u = -1 → ¬ ((0 ≤ x ∧ x < 8) ∧ (s = 0 ∨ s = 1) ∧ 0 ≤ q ∧ q < 36) → Q (some (ai (I u))) h := fun u e9 a => by subst e9; exact hq _ _ _ (by unfold oComes; rw [if_pos a]) hG FrC.rf
  have k2 : ∀ u, ((0 ≤ x ∧ x < 8) ∧ (s = 0 ∨ s = 1) ∧ 0 ≤ q ∧ q < 36) → u = rfu S x 1 → ¬ u = 0 → Q (some (ai (I u))) h := fun u a e b => hq _ _ _ (by unfold oComes; rw [if_neg (fun z => z a), if_pos (by omega), e]) hG FrC.rf
  have k3 : ∀ u, u = -2 → ((0 ≤ x ∧ x < 8) ∧ (s = 0 ∨ s = 1) ∧ 0 ≤ q ∧ q < 36) → rfu S x 1 = 0 → ¬ nn G < 10 → Q (some (ai (I u))) h := fun u e9 a b c => by subst e9; exact hq _ _ _ (by unfold oComes; rw [if_neg (fun z => z a), if_neg (by omega), if_pos c]) hG FrC.rf
  have k4 : ∀ u, u = -3 → ((0 ≤ x ∧ x < 8) ∧ (s = 0 ∨ s = 1) ∧ 0 ≤ q ∧ q < 36) → rfu S x 1 = 0 → nn G < 10 → ¬ ons G q = -4 → Q (some (ai (I u))) h := fun u e9 a b c e => by subst e9; exact hq _ _ _ (by unfold oComes; rw [if_neg (fun z => z a), if_neg (by omega), if_neg (by omega), if_neg e]) hG FrC.rf
  have k5 : ∀ u h', u = hI h' 0 0 5 - 1 → ((0 ≤ x ∧ x < 8) ∧ (s = 0 ∨ s = 1) ∧ 0 ≤ q ∧ q < 36) → rfu S x 1 = 0 → nn G < 10 → ons G q = -4 → RC h' 0 (addp G (sk S x) (sf S x) s q) → FrC h h' 0 → Q (some (ai (I u))) h' := by
    intro u h' e9 a b c e hR hF
    rw [e9, hR.n, show nn (addp G (sk S x) (sf S x) s q) - 1 = nn G by show nn G + 1 - 1 = nn G; omega]
    exact hq _ _ _ (by unfold oComes; rw [if_neg (fun z => z a), if_neg (by omega), if_neg (by omega), if_pos e]) hR hF
  repeat' (first
    | exact k1 _ (by omega) (by omega)
    | exact k2 _ (by omega) (by unfold rfu; omega) (by omega)
    | exact k3 _ (by omega) (by omega) (by unfold rfu; omega) (by omega)
    | exact k4 _ (by omega) (by omega) (by unfold rfu; omega) (by omega) (by omega)
    | exact k5 _ _ rfl (by omega) (by unfold rfu; omega) (by omega) (by omega) (by assumption) (by assumption)
    | (show Rn _ _ _ 48 _ _ _; refine c_X3_shelfAt (by first | omega | exact hI_R) (fun _ _ => ?_) (fun _ => ?_))
    | (show Rn _ _ _ 9 _ _ _; refine c_X3_isSide (by first | omega | exact hI_R) (fun _ => ?_) (fun _ => ?_))
    | (show Rn _ _ _ 11 _ _ _; refine c_X3_isSquare (by first | omega | exact hI_R) (fun _ _ => ?_) (fun _ => ?_))
    | (show Rn _ _ _ 49 _ _ _; refine c_X3_refusalUnless_n ?_)
    | (show Rn _ _ _ 49 _ _ _; refine c_X3_refusalUnless_s (by assumption) (by omega) (by assumption) (by assumption) (fun _ => ?_) (fun _ _ => ?_) (fun _ _ => ?_))
    | (show Rn _ _ _ 10 _ _ _; refine c_X0_addPiece (by assumption) (by assumption) (by first | omega | exact hI_R) (by first | omega | exact hI_R) (by first | omega | exact hI_R) (by first | omega | exact hI_R) (fun _ _ _ _ _ _ _ _ _ _ => ?_) (fun _ => ?_))
    | (show Rch _ _ _ _ _ 0 _ _ _; refine Rch.blk' (Rn_mono mt _ _) bl_X3_comes_0 (i_aload_n rfl (i_iload_n rfl (t_cv2 (Rn_mono mt _ _) 5 rfl (Nat.le_of_ble_eq_true rfl) ?_))))
    | (show Rch _ _ _ _ _ 5 _ _ _; refine Rch.blk' (Rn_mono mt _ _) bl_X3_comes_5 (i_astore4 trivial (i_aload rfl (t_ifnull_n 26 rfl ?_))))
    | (show Rch _ _ _ _ _ 5 _ _ _; refine Rch.blk' (Rn_mono mt _ _) bl_X3_comes_5 (i_astore4 trivial (i_aload rfl (t_ifnull_s 12 rfl ?_))))
    | (show Rch _ _ _ _ _ 12 _ _ _; refine Rch.blk' (Rn_mono mt _ _) bl_X3_comes_12 (i_iload_n rfl (t_cs1 (Rn_mono mt _ _) 16 rfl (Nat.le_of_ble_eq_true rfl) ?_)))
    | (show Rch _ _ _ _ _ 16 _ _ _; refine Rch.blk' (Rn_mono mt _ _) bl_X3_comes_16 (t_if_eq 26 19 rfl rfl (by first | exact hI_R | exact band_R | exact bor_R | exact bshr_R | exact lcm_R | omega | (simp (disch := omega) only [e_n, e_k, e_f]; omega)) (fun hc => ?_) (fun hc => ?_)) <;> (first | (exfalso; omega) | skip))
    | (show Rch _ _ _ _ _ 19 _ _ _; refine Rch.blk' (Rn_mono mt _ _) bl_X3_comes_19 (i_iload_n rfl (t_cs1 (Rn_mono mt _ _) 23 rfl (Nat.le_of_ble_eq_true rfl) ?_)))
    | (show Rch _ _ _ _ _ 23 _ _ _; refine Rch.blk' (Rn_mono mt _ _) bl_X3_comes_23 (t_if_ne 28 26 rfl rfl (by first | exact hI_R | exact band_R | exact bor_R | exact bshr_R | exact lcm_R | omega | (simp (disch := omega) only [e_n, e_k, e_f]; omega)) (fun hc => ?_) (fun hc => ?_)) <;> (first | (exfalso; omega) | skip))
    | (show Rch _ _ _ _ _ 26 _ _ _; refine Rch.blk' (Rn_mono mt _ _) bl_X3_comes_26 (i_iconst k_m1 (t_iret ?_)))
    | (show Rch _ _ _ _ _ 28 _ _ _; refine Rch.blk' (Rn_mono mt _ _) bl_X3_comes_28 (i_aload rfl (i_iconst k_1 (t_cs2 (Rn_mono mt _ _) 34 rfl (Nat.le_of_ble_eq_true rfl) ?_))))
    | (show Rch _ _ _ _ _ 34 _ _ _; refine Rch.blk' (Rn_mono mt _ _) bl_X3_comes_34 (i_istore5 trivial (i_iload rfl (t_if_eq 44 41 rfl rfl (by first | exact hI_R | exact band_R | exact bor_R | exact bshr_R | exact lcm_R | omega | (simp (disch := omega) only [e_n, e_k, e_f]; omega)) (fun hc => ?_) (fun hc => ?_)))) <;> (first | (exfalso; omega) | skip))
    | (show Rch _ _ _ _ _ 41 _ _ _; refine Rch.blk' (Rn_mono mt _ _) bl_X3_comes_41 (i_iload rfl (t_iret ?_)))
    | (show Rch _ _ _ _ _ 44 _ _ _; refine Rch.blk' (Rn_mono mt _ _) bl_X3_comes_44 (i_aload_n rfl (i_gfs rfl (i_gfi rfl (i_bipush k_10 (t_ic_lt 59 56 rfl rfl (by first | exact hI_R | exact band_R | exact bor_R | exact bshr_R | exact lcm_R | omega | (simp (disch := omega) only [e_n, e_k, e_f]; omega)) (by first | exact hI_R | exact band_R | exact bor_R | exact bshr_R | exact lcm_R | omega | (simp (disch := omega) only [e_n, e_k, e_f]; omega)) (fun hc => ?_) (fun hc => ?_)))))) <;> (try (simp (disch := omega) only [e_n, e_k, e_f] at hc ⊢)) <;> (first | (exfalso; omega) | skip))
    | (show Rch _ _ _ _ _ 56 _ _ _; refine Rch.blk' (Rn_mono mt _ _) bl_X3_comes_56 (i_bipush k_m2 (t_iret ?_)))
    | (show Rch _ _ _ _ _ 59 _ _ _; refine Rch.blk' (Rn_mono mt _ _) bl_X3_comes_59 (i_aload_n rfl (i_gfs rfl (i_aload rfl (i_gfi rfl (i_aload rfl (i_gfi rfl (i_iload_n rfl (i_iload_n rfl (t_cv5 (Rn_mono mt _ _) 78 rfl (Nat.le_of_ble_eq_true rfl) ?_))))))))) <;> (try (simp (disch := omega) only [e_n, e_k, e_f])))
    | (show Rch _ _ _ _ _ 78 _ _ _; refine Rch.blk' (Rn_mono mt _ _) bl_X3_comes_78 (t_if_eq 93 81 rfl rfl (by first | exact hI_R | exact band_R | exact bor_R | exact bshr_R | exact lcm_R | omega | (simp (disch := omega) only [e_n, e_k, e_f]; omega)) (fun hc => ?_) (fun hc => ?_)) <;> (first | (exfalso; omega) | skip))
    | (show Rch _ _ _ _ _ 81 _ _ _; refine Rch.blk' (Rn_mono mt _ _) bl_X3_comes_81 (i_aload_n rfl (i_gfs rfl (i_gfi rfl (i_iconst k_1 (i_isub (t_goto 95 rfl ?_)))))) <;> (try (simp (disch := omega) only [e_n, e_k, e_f])))
    | (show Rch _ _ _ _ _ 93 _ _ _; refine Rch.blk' (Rn_mono mt _ _) bl_X3_comes_93 (i_bipush k_m3 (t_none ?_)))
    | (show Rch _ _ _ _ _ 95 _ _ _; refine Rch.blk' (Rn_mono mt _ _) bl_X3_comes_95 (t_iret ?_)))
theorem c_X3_image (H : CW h G T Gi S) (hO : OKB G) (hq : ∀ h', CW h' G 1 G S → (∀ t b k : Nat, t = 3 ∨ 12 ≤ t → hI h' t b k = hI h t b k) → Q (some (ai (I (dy G)))) h') : Rn mt L (d + 2) 72 [ar 2 0] h Q := by
  refine Rn.intro iX3_image rfl rfl ?_
  show Rch bX3_image _ _ _ _ 0 [some (ar 2 0)] [] _
  obtain ⟨hG, hT, hI1, hS⟩ := H
  refine Rch.blk' (Rn_mono mt _ _) bl_X3_image_0 (i_aload_n rfl (i_gfs rfl (i_aload_n rfl (i_gfs rfl (t_cv2 (Rn_mono mt _ _) 11 rfl (Nat.le_of_ble_eq_true rfl) ?_)))))
  refine c_X0_becomes hG hO (by decide) (fun h1 hG1 hF1 => ?_)
  have hG0 := hG.fr hF1 (by decide)
  have e_d : hI (mset h1 2 0 2 (I 1)) 0 0 8 = dy G := by rw [hI_nt (by omega)]; exact hG0.d
  have c0 : ∀ {b}, RC h1 b G → RC (mset h1 2 0 2 (I 1)) b G := fun {b} a => by
    have e : ∀ t k, t = 0 ∨ (4 ≤ t ∧ t ≤ 8) → hI (mset h1 2 0 2 (I 1)) t b k = hI h1 t b k := fun t k ht => hI_nt (by omega)
    exact ⟨by rw [e 0 _ (by omega)]; exact a.n, by rw [e 0 _ (by omega)]; exact a.t, by rw [e 0 _ (by omega)]; exact a.o, by rw [e 0 _ (by omega)]; exact a.d, fun p p0 p1 => ⟨by rw [e 4 _ (by omega)]; exact a.k p0 p1, by rw [e 5 _ (by omega)]; exact a.f p0 p1, by rw [e 6 _ (by omega)]; exact a.s p0 p1, by rw [e 7 _ (by omega)]; exact a.q p0 p1⟩, fun q q0 q1 => by rw [e 8 _ (by omega)]; exact a.w q0 q1⟩
  have kk : Q (some (ai (I (dy G)))) (mset h1 2 0 2 (I 1)) := hq _ ⟨c0 hG0, hI_eq ⟨by omega, by omega⟩, fun _ => c0 hG1, hS.fr (fun t b k ht => by rw [hI_nt (by omega)]; exact hF1 t b k (by omega))⟩ (fun t b k ht => by rw [hI_nt (by omega)]; exact hF1 t b k (by omega))
  repeat' (first
    | exact kk
    | (show Rch _ _ _ _ _ 0 _ _ _; refine Rch.blk' (Rn_mono mt _ _) bl_X3_image_0 (i_aload_n rfl (i_gfs rfl (i_aload_n rfl (i_gfs rfl (t_cv2 (Rn_mono mt _ _) 11 rfl (Nat.le_of_ble_eq_true rfl) ?_))))) <;> (try (simp (disch := omega) only [e_d])))
    | (show Rch _ _ _ _ _ 11 _ _ _; refine Rch.blk' (Rn_mono mt _ _) bl_X3_image_11 (i_aload_n rfl (i_iconst k_1 (i_pfb rfl (by omega) (i_aload_n rfl (i_gfs rfl (i_gfi rfl (t_iret ?_))))))) <;> (try (simp (disch := omega) only [e_d]))))
theorem c_X3_restore (H : CW h G T Gi S) (hT : T = 0 ∨ T = 1) (hOi : T = 1 → OKB Gi) (hq : ∀ v G' h', oRestore G T Gi = (v, G') → CW h' G' T Gi S → (∀ t b k : Nat, t = 3 ∨ 12 ≤ t → hI h' t b k = hI h t b k) → Q (some (ai (I v))) h') : Rn mt L (d + 2) 73 [ar 2 0] h Q := by
  refine Rn.intro iX3_restore rfl rfl ?_
  show Rch bX3_restore _ _ _ _ 0 [some (ar 2 0)] [] _
  have H0 := H
  obtain ⟨hG, e_t, hI1, hS⟩ := H
  have k1 : T = 0 → Q (some (ai (I (-3)))) h := fun a => hq _ _ _ (by unfold oRestore; rw [if_neg (by omega)]) H0 (fun _ _ _ _ => rfl)
  have k2 : ∀ h', T = 1 → RC h' 0 Gi → FrC h h' 0 → Q (some (ai (I (hI h' 0 0 8)))) h' := fun h' a hR hF => by
    rw [hR.d]
    exact hq _ _ _ (by unfold oRestore; rw [if_pos a]) ⟨hR, (hF 2 0 2 (by omega)).trans e_t, fun e => (hI1 e).fr hF (by decide), hS.fr (fun t b k ht => hF t b k (by omega))⟩ (fun t b k ht => hF t b k (by omega))
  repeat' (first
    | (show Rn _ _ _ 0 _ _ _; refine c_X0_becomes (hI1 (by omega)) (hOi (by omega)) (by decide) (fun _ _ _ => ?_))
    | exact k1 (by omega)
    | exact k2 _ (by omega) (by assumption) (by assumption)
    | (show Rch _ _ _ _ _ 0 _ _ _; refine Rch.blk' (Rn_mono mt _ _) bl_X3_restore_0 (i_aload_n rfl (i_gfi rfl (t_if_ne 10 7 rfl rfl (by first | exact hI_R | exact band_R | exact bor_R | exact bshr_R | exact lcm_R | omega | (simp (disch := omega) only [e_t]; omega)) (fun hc => ?_) (fun hc => ?_)))) <;> (try (simp (disch := omega) only [e_t] at hc ⊢)) <;> (first | (exfalso; omega) | skip))
    | (show Rch _ _ _ _ _ 7 _ _ _; refine Rch.blk' (Rn_mono mt _ _) bl_X3_restore_7 (i_bipush k_m3 (t_iret ?_)))
    | (show Rch _ _ _ _ _ 10 _ _ _; refine Rch.blk' (Rn_mono mt _ _) bl_X3_restore_10 (i_aload_n rfl (i_gfs rfl (i_aload_n rfl (i_gfs rfl (t_cv2 (Rn_mono mt _ _) 21 rfl (Nat.le_of_ble_eq_true rfl) ?_))))) <;> (try (simp (disch := omega) only [e_t])))
    | (show Rch _ _ _ _ _ 21 _ _ _; refine Rch.blk' (Rn_mono mt _ _) bl_X3_restore_21 (i_aload_n rfl (i_gfs rfl (i_gfi rfl (t_iret ?_)))) <;> (try (simp (disch := omega) only [e_t]))))
end C13


