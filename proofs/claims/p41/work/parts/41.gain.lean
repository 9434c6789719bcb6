/-! WORTH WITHOUT ONE, WHAT ONE HAS: the class -/
def gai (G : Bd) (w p : Int) : Int := w - (if sq G p < 36 then 0 else 5)
theorem SM_wo {G : Bd} {s p : Int} (hp : OC G s p) (p0 : 0 ≤ p) : ∀ k : Int, 0 ≤ k → SM (fun i => ifp (OC G s i) (wo (kd G i) (fg G i)) 0) k = SM (fun i => ifp ((i < nn G ∧ OC G s i) ∧ ¬ i = p) (wo (kd G i) (fg G i)) 0) k + (if p < k then wo (kd G p) (fg G p) else 0) ∨ nn G < k := by
  refine ind0 (Or.inl (by rw [SM_0, SM_0, if_neg (by omega)]; rfl)) (fun k k0 ih => ?_)
  by_cases hk : nn G < k + 1
  · exact Or.inr hk
  · left
    rcases ih with ih | ih
    · rw [SM_up k0, SM_up k0, ih]
      by_cases e : k = p
      · subst e
        rw [ifp_p hp, ifp_n (fun z => z.2 rfl), if_neg (by omega), if_pos (by omega)]
        try omega
      · have h1 : (if p < k + 1 then wo (kd G p) (fg G p) else 0) = if p < k then wo (kd G p) (fg G p) else 0 := by
          by_cases c : p < k
          · rw [if_pos c, if_pos (by omega)]
          · rw [if_neg c, if_neg (by omega)]
        rw [h1]
        by_cases c : OC G s k
        · rw [ifp_p c, ifp_p ⟨⟨by omega, c⟩, e⟩]; omega
        · rw [ifp_n c, ifp_n (fun z => c z.1.2)]; omega
    · omega
theorem WO_wo {G : Bd} (hO : OKB G) {s p : Int} (hp : OC G s p) (p0 : 0 ≤ p) (p1 : p < nn G) : WO G s - wo (kd G p) (fg G p) = WS G (fun i => OS G s i ∧ ¬ i = p) := by
  rcases SM_wo hp p0 (nn G) hO.n.1 with e | e
  · rw [if_pos p1] at e
    have e3 : WS G (fun i => OS G s i ∧ ¬ i = p) = SM (fun i => ifp ((i < nn G ∧ OC G s i) ∧ ¬ i = p) (wo (kd G i) (fg G i)) 0) (nn G) := rfl
    rw [e3]
    unfold WO
    rw [e]
    omega
  · omega
section C18
variable {d L : Nat} {h : Mem} {Q : Option AV → Mem → Prop} {b : Nat} {G : Bd}
theorem c_X0_worthWithout (hG : RC h b G) (hO : OKB G) {p : Int} (p0 : 0 ≤ p) (p1 : p < nn G) (hq : Q (some (ai (I (WS G (fun i => OS G (sd G p) i ∧ ¬ i = p))))) h) : Rn mt L (d + 3) 36 [ar 0 b, ai (I p)] h Q := by
  refine Rn.intro iX0_worthWithout rfl rfl ?_
  show Rch bX0_worthWithout _ _ _ _ 0 [some (ar 0 b), some (ai (I p))] [] _
  have e_s := @RC.s _ _ _ hG
  have e_k := @RC.k _ _ _ hG
  have e_f := @RC.f _ _ _ hG
  have g_n := hO.n
  have g_p := hO.pc p p0 p1
  have g_w := WO_R hO (sd G p)
  have k1 : ∀ v, v = WO G (sd G p) - wo (kd G p) (fg G p) → sq G p < 36 → Q (some (ai (I v))) h := fun v e a => by rw [e, WO_wo hO ⟨rfl, a⟩ p0 p1]; exact hq
  have k0 : ∀ v, v = WO G (sd G p) → ¬ sq G p < 36 → Q (some (ai (I v))) h := fun v e a => by
    have e2 : WS G (fun i => OS G (sd G p) i ∧ ¬ i = p) = WO G (sd G p) := by
      rw [← WS_OS hO]
      exact WS_ext hO (fun i i0 i1 => ⟨fun z => z.1, fun z => ⟨z, fun c => by subst c; exact a z.2.2⟩⟩)
    rw [e, ← e2]; exact hq
  repeat' (first
    | (show Rn _ _ _ 1 _ _ _; refine c_X0_has hG hO (by omega) (fun _ _ => ?_) (fun _ => ?_) <;> (first | (exfalso; omega) | skip))
    | exact k1 _ (by omega) (by omega)
    | exact k0 _ (by omega) (by omega)
    | (show Rn _ _ _ 1 _ _ _; refine c_X0_has (by assumption) (by assumption) (by first | omega | exact hI_R) (fun _ _ => ?_) (fun _ => ?_))
    | (show Rn _ _ _ 35 _ _ _; refine c_X0_worthOf (by assumption) (by assumption) (by first | omega | exact hI_R) (fun _ _ => ?_))
    | (show Rn _ _ _ 2 _ _ _; refine c_X0_isThere (by assumption) (by assumption) (by first | omega | exact hI_R) (fun _ _ _ _ => ?_) (fun _ => ?_))
    | (show Rn _ _ _ 34 _ _ _; refine c_X1_worthWith (by omega) (by omega) (by omega) (fun _ _ => ?_))
    | (show Rch _ _ _ _ _ 0 _ _ _; refine Rch.blk' (Rn_mono mt _ _) bl_X0_worthWithout_0 (i_aload_n rfl (i_iload_n rfl (t_cv2 (Rn_mono mt _ _) 5 rfl (Nat.le_of_ble_eq_true rfl) ?_))))
    | (show Rch _ _ _ _ _ 5 _ _ _; refine Rch.blk' (Rn_mono mt _ _) bl_X0_worthWithout_5 (t_if_ne 10 8 rfl rfl (by first | exact hI_R | exact band_R | exact bor_R | exact bshr_R | exact lcm_R | omega | (simp (disch := omega) only [e_s, e_k, e_f]; omega)) (fun hc => ?_) (fun hc => ?_)) <;> (first | (exfalso; omega) | skip))
    | (show Rch _ _ _ _ _ 8 _ _ _; refine Rch.blk' (Rn_mono mt _ _) bl_X0_worthWithout_8 (i_iconst k_0 (t_iret ?_)))
    | (show Rch _ _ _ _ _ 10 _ _ _; refine Rch.blk' (Rn_mono mt _ _) bl_X0_worthWithout_10 (i_aload_n rfl (i_aload_n rfl (i_gfr rfl (i_iload_n rfl (i_iald (n := 10) rfl (by first | omega | (simp (disch := omega) only [e_s, e_k, e_f]; omega)) (by first | omega | (simp (disch := omega) only [e_s, e_k, e_f]; omega)) (by first | omega | (simp (disch := omega) only [e_s, e_k, e_f]; omega)) (t_cv2 (Rn_mono mt _ _) 20 rfl (Nat.le_of_ble_eq_true rfl) ?_)))))) <;> (try (simp (disch := omega) only [e_s, e_k, e_f])))
    | (show Rch _ _ _ _ _ 20 _ _ _; refine Rch.blk' (Rn_mono mt _ _) bl_X0_worthWithout_20 (i_aload_n rfl (i_iload_n rfl (t_cv2 (Rn_mono mt _ _) 25 rfl (Nat.le_of_ble_eq_true rfl) ?_))))
    | (show Rch _ _ _ _ _ 25 _ _ _; refine Rch.blk' (Rn_mono mt _ _) bl_X0_worthWithout_25 (t_if_eq 46 28 rfl rfl (by first | exact hI_R | exact band_R | exact bor_R | exact bshr_R | exact lcm_R | omega | (simp (disch := omega) only [e_s, e_k, e_f]; omega)) (fun hc => ?_) (fun hc => ?_)) <;> (first | (exfalso; omega) | skip))
    | (show Rch _ _ _ _ _ 28 _ _ _; refine Rch.blk' (Rn_mono mt _ _) bl_X0_worthWithout_28 (i_aload_n rfl (i_gfr rfl (i_iload_n rfl (i_iald (n := 10) rfl (by first | omega | (simp (disch := omega) only [e_s, e_k, e_f]; omega)) (by first | omega | (simp (disch := omega) only [e_s, e_k, e_f]; omega)) (by first | omega | (simp (disch := omega) only [e_s, e_k, e_f]; omega)) (i_aload_n rfl (i_gfr rfl (i_iload_n rfl (i_iald (n := 10) rfl (by first | omega | (simp (disch := omega) only [e_s, e_k, e_f]; omega)) (by first | omega | (simp (disch := omega) only [e_s, e_k, e_f]; omega)) (by first | omega | (simp (disch := omega) only [e_s, e_k, e_f]; omega)) (t_cs2 (Rn_mono mt _ _) 43 rfl (Nat.le_of_ble_eq_true rfl) ?_))))))))) <;> (try (simp (disch := omega) only [e_s, e_k, e_f])))
    | (show Rch _ _ _ _ _ 43 _ _ _; refine Rch.blk' (Rn_mono mt _ _) bl_X0_worthWithout_43 (t_goto 47 rfl ?_))
    | (show Rch _ _ _ _ _ 46 _ _ _; refine Rch.blk' (Rn_mono mt _ _) bl_X0_worthWithout_46 (i_iconst k_0 (t_none ?_)))
    | (show Rch _ _ _ _ _ 47 _ _ _; refine Rch.blk' (Rn_mono mt _ _) bl_X0_worthWithout_47 (i_isub (t_iret ?_))))
end C18


