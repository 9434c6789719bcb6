/-! FARTHEST: both sides -/
def fw (G : Bd) (s i : Int) : Int := if s = 0 then sq G i / 6 else 5 - sq G i / 6
theorem fw_e (G : Bd) (s i : Int) : fw G s i = if s = 0 then sq G i / 6 else 5 - sq G i / 6 := rfl
noncomputable def vFar (G : Bd) (s : Int) : Int := GB (OC G s) (fw G s) (nn G)
section C17
variable {d L : Nat} {h : Mem} {Q : Option AV → Mem → Prop} {b : Nat} {G : Bd} {M : Int → Prop} {ra : Int}
theorem c_X0_farthestOf (hG : RC h b G) (hO : OKB G) {s : Int} (hs : s = 0 ∨ s = 1) (hq : Q (some (ai (I (vFar G s)))) h) : Rn mt L (d + 2) 39 [ar 0 b, ai (I s)] h Q := by
  refine Rn.intro iX0_farthestOf rfl rfl ?_
  show Rch bX0_farthestOf _ _ _ _ 0 [some (ar 0 b), some (ai (I s)), none, none, none, none, none] [] _
  have e_n := hG.n
  have e_q := @RC.q _ _ _ hG
  have g_n := hO.n
  have key : ∀ k : Int, k ≤ nn G → 0 ≤ k → ∀ (o : Int) (u v : Option AV), ((GB (OC G s) (fw G s) k < 0 → o = -4) ∧ (¬ GB (OC G s) (fw G s) k < 0 → o = fw G s (GB (OC G s) (fw G s) k))) → RH L bX0_farthestOf (d + 1) Q 9 [some (ar 0 b), some (ai (I s)), some (ai (I (GB (OC G s) (fw G s) k))), some (ai (I o)), some (ai (I k)), u, v] h := by
    refine up_ind (fun k hk ih hk0 o u v ho => ?_)
    have f_k := fw_e G s k
    have f_g := fw_e G s (GB (OC G s) (fw G s) k)
    have g_g := GB_R (C := OC G s) (w := fw G s) k hk0
    have g_o : -4 ≤ o ∧ o ≤ 6 := by
      rcases g_g with e | ⟨e0, e1, e2⟩
      · rw [ho.1 (by omega)]; omega
      · have := (hO.pc (GB (OC G s) (fw G s) k) e0 (by omega)).2.2.2
        rw [ho.2 (by omega)]; omega
    clear g_g
    by_cases hk1 : k < nn G
    · have ih := ih hk1 (by omega)
      have g_k := hO.pc k hk0 hk1
      rw [GB_up hk0] at ih
      have ih1 : ∀ (w : Int) (u v : Option AV), w = (if s = 0 then sq G k / 6 else 5 - sq G k / 6) → (sd G k = s ∧ sq G k < 36) → o < w → RH L bX0_farthestOf (d + 1) Q 9 [some (ar 0 b), some (ai (I s)), some (ai (I k)), some (ai (I w)), some (ai (I (k + 1))), u, v] h := by
        intro w u v e c1 c2
        have c5 : OC G s k ∧ (GB (OC G s) (fw G s) k < 0 ∨ fw G s (GB (OC G s) (fw G s) k) < fw G s k) := by
          refine ⟨c1, ?_⟩
          by_cases hn : GB (OC G s) (fw G s) k < 0
          · exact Or.inl hn
          · right; rw [← ho.2 hn]; omega
        rw [ifp_p c5] at ih
        exact ih w u v ⟨fun z => by omega, fun _ => e⟩
      have ih0 : ∀ (w : Int) (u v : Option AV), w = (if s = 0 then sq G k / 6 else 5 - sq G k / 6) → ¬ o < w → RH L bX0_farthestOf (d + 1) Q 9 [some (ar 0 b), some (ai (I s)), some (ai (I (GB (OC G s) (fw G s) k))), some (ai (I o)), some (ai (I (k + 1))), u, v] h := by
        intro w u v e c1
        have c5 : ¬ (OC G s k ∧ (GB (OC G s) (fw G s) k < 0 ∨ fw G s (GB (OC G s) (fw G s) k) < fw G s k)) := by
          rintro ⟨-, a5⟩
          apply c1
          rw [e]
          by_cases hn : GB (OC G s) (fw G s) k < 0
          · rw [ho.1 hn]; omega
          · rw [ho.2 hn]
            rcases a5 with a5 | a5
            · exact absurd a5 hn
            · omega
        rw [ifp_n c5] at ih
        exact ih o u v ho
      have ih2 : ∀ (u v : Option AV), ¬ (sd G k = s ∧ sq G k < 36) → RH L bX0_farthestOf (d + 1) Q 9 [some (ar 0 b), some (ai (I s)), some (ai (I (GB (OC G s) (fw G s) k))), some (ai (I o)), some (ai (I (k + 1))), u, v] h := by
        intro u v c1
        rw [ifp_n (fun z => c1 z.1)] at ih
        exact ih o u v ho
      clear ih ho
      refine Rch.blk' (Rn_mono mt _ _) bl_X0_farthestOf_9 (i_iload rfl (i_aload_n rfl (i_gfi rfl (t_ic_ge 73 18 rfl rfl (by first | exact hI_R | exact band_R | exact bor_R | exact bshr_R | exact lcm_R | omega | (simp (disch := omega) only [e_n]; omega)) (by first | exact hI_R | exact band_R | exact bor_R | exact bshr_R | exact lcm_R | omega | (simp (disch := omega) only [e_n]; omega)) (fun hc => ?_) (fun hc => ?_))))) <;> (try (simp (disch := omega) only [e_n] at hc ⊢)) <;> (first | (exfalso; omega) | skip)
      repeat' (first
        | exact ih1 _ _ _ (by omega) (by omega) (by omega)
        | exact ih2 _ _ (by omega)
        | exact ih0 (if s = 0 then sq G k / 6 else 5 - sq G k / 6) _ _ rfl (by omega)
        | (show Rn _ _ _ 3 _ _ _; refine c_X0_isThereOf (by assumption) (by assumption) (by first | omega | exact hI_R) (by first | omega | exact hI_R) (fun _ _ _ _ _ => ?_) (fun _ => ?_))
        | (show Rch _ _ _ _ _ 0 _ _ _; refine Rch.blk' (Rn_mono mt _ _) bl_X0_farthestOf_0 (i_bipush k_m4 (i_istore2 trivial (i_bipush k_m4 (i_istore3 trivial (i_iconst k_0 (i_istore4 trivial (t_none ?_))))))))
        | (show Rch _ _ _ _ _ 18 _ _ _; refine Rch.blk' (Rn_mono mt _ _) bl_X0_farthestOf_18 (i_aload_n rfl (i_iload rfl (i_iload_n rfl (t_cv3 (Rn_mono mt _ _) 25 rfl (Nat.le_of_ble_eq_true rfl) ?_)))))
        | (show Rch _ _ _ _ _ 25 _ _ _; refine Rch.blk' (Rn_mono mt _ _) bl_X0_farthestOf_25 (t_if_eq 67 28 rfl rfl (by first | exact hI_R | exact band_R | exact bor_R | exact bshr_R | exact lcm_R | omega | (simp (disch := omega) only [e_q]; omega)) (fun hc => ?_) (fun hc => ?_)) <;> (first | (exfalso; omega) | skip))
        | (show Rch _ _ _ _ _ 28 _ _ _; refine Rch.blk' (Rn_mono mt _ _) bl_X0_farthestOf_28 (i_aload_n rfl (i_gfr rfl (i_iload rfl (i_iald (n := 10) rfl (by first | omega | (simp (disch := omega) only [e_q]; omega)) (by first | omega | (simp (disch := omega) only [e_q]; omega)) (by first | omega | (simp (disch := omega) only [e_q]; omega)) (i_bipush k_6 (i_idiv (by first | omega | (simp (disch := omega) only [e_q]; omega)) (by first | omega | (simp (disch := omega) only [e_q]; omega)) (by first | omega | (simp (disch := omega) only [e_q]; omega)) (by first | omega | (simp (disch := omega) only [e_q]; omega)) (i_istore5 trivial (i_iload_n rfl (t_if_ne 49 44 rfl rfl (by first | exact hI_R | exact band_R | exact bor_R | exact bshr_R | exact lcm_R | omega | (simp (disch := omega) only [e_q]; omega)) (fun hc => ?_) (fun hc => ?_)))))))))) <;> (try (simp (disch := omega) only [e_q] at hc ⊢)) <;> (first | (exfalso; omega) | skip))
        | (show Rch _ _ _ _ _ 44 _ _ _; refine Rch.blk' (Rn_mono mt _ _) bl_X0_farthestOf_44 (i_iload rfl (t_goto 53 rfl ?_)))
        | (show Rch _ _ _ _ _ 49 _ _ _; refine Rch.blk' (Rn_mono mt _ _) bl_X0_farthestOf_49 (i_iconst k_5 (i_iload rfl (i_isub (t_none ?_)))))
        | (show Rch _ _ _ _ _ 53 _ _ _; refine Rch.blk' (Rn_mono mt _ _) bl_X0_farthestOf_53 (i_istore6 trivial (i_iload rfl (i_iload_n rfl (t_ic_le 67 61 rfl rfl (by first | exact hI_R | exact band_R | exact bor_R | exact bshr_R | exact lcm_R | omega | (simp (disch := omega) only [e_q]; omega)) (by first | exact hI_R | exact band_R | exact bor_R | exact bshr_R | exact lcm_R | omega | (simp (disch := omega) only [e_q]; omega)) (fun hc => ?_) (fun hc => ?_))))) <;> (first | (exfalso; omega) | skip))
        | (show Rch _ _ _ _ _ 61 _ _ _; refine Rch.blk' (Rn_mono mt _ _) bl_X0_farthestOf_61 (i_iload rfl (i_istore2 trivial (i_iload rfl (i_istore3 trivial (t_none ?_))))))
        | (show Rch _ _ _ _ _ 67 _ _ _; refine Rch.blk' (Rn_mono mt _ _) bl_X0_farthestOf_67 (i_iinc4 trivial k_1 (t_goto 9 rfl ?_)))
        | (show Rch _ _ _ _ _ 73 _ _ _; refine Rch.blk' (Rn_mono mt _ _) bl_X0_farthestOf_73 (i_iload_n rfl (t_iret ?_))))
    · obtain rfl : k = nn G := by omega
      refine Rch.blk' (Rn_mono mt _ _) bl_X0_farthestOf_9 (i_iload rfl (i_aload_n rfl (i_gfi rfl (t_ic_ge 73 18 rfl rfl (by first | exact hI_R | exact band_R | exact bor_R | exact bshr_R | exact lcm_R | omega | (simp (disch := omega) only [e_n]; omega)) (by first | exact hI_R | exact band_R | exact bor_R | exact bshr_R | exact lcm_R | omega | (simp (disch := omega) only [e_n]; omega)) (fun hc => ?_) (fun hc => ?_))))) <;> (try (simp (disch := omega) only [e_n] at hc ⊢)) <;> (first | (exfalso; omega) | skip)
      repeat' (first
        | exact hq
        | (show Rn _ _ _ 3 _ _ _; refine c_X0_isThereOf (by assumption) (by assumption) (by first | omega | exact hI_R) (by first | omega | exact hI_R) (fun _ _ _ _ _ => ?_) (fun _ => ?_))
        | (show Rch _ _ _ _ _ 0 _ _ _; refine Rch.blk' (Rn_mono mt _ _) bl_X0_farthestOf_0 (i_bipush k_m4 (i_istore2 trivial (i_bipush k_m4 (i_istore3 trivial (i_iconst k_0 (i_istore4 trivial (t_none ?_))))))))
        | (show Rch _ _ _ _ _ 18 _ _ _; refine Rch.blk' (Rn_mono mt _ _) bl_X0_farthestOf_18 (i_aload_n rfl (i_iload rfl (i_iload_n rfl (t_cv3 (Rn_mono mt _ _) 25 rfl (Nat.le_of_ble_eq_true rfl) ?_)))))
        | (show Rch _ _ _ _ _ 25 _ _ _; refine Rch.blk' (Rn_mono mt _ _) bl_X0_farthestOf_25 (t_if_eq 67 28 rfl rfl (by first | exact hI_R | exact band_R | exact bor_R | exact bshr_R | exact lcm_R | omega) (fun hc => ?_) (fun hc => ?_)) <;> (first | (exfalso; omega) | skip))
        | (show Rch _ _ _ _ _ 28 _ _ _; refine Rch.blk' (Rn_mono mt _ _) bl_X0_farthestOf_28 (i_aload_n rfl (i_gfr rfl (i_iload rfl (i_iald (n := 10) rfl (by omega) (by omega) (by omega) (i_bipush k_6 (i_idiv (by omega) (by omega) (by omega) (by omega) (i_istore5 trivial (i_iload_n rfl (t_if_ne 49 44 rfl rfl (by first | exact hI_R | exact band_R | exact bor_R | exact bshr_R | exact lcm_R | omega) (fun hc => ?_) (fun hc => ?_)))))))))) <;> (first | (exfalso; omega) | skip))
        | (show Rch _ _ _ _ _ 44 _ _ _; refine Rch.blk' (Rn_mono mt _ _) bl_X0_farthestOf_44 (i_iload rfl (t_goto 53 rfl ?_)))
        | (show Rch _ _ _ _ _ 49 _ _ _; refine Rch.blk' (Rn_mono mt _ _) bl_X0_farthestOf_49 (i_iconst k_5 (i_iload rfl (i_isub (t_none ?_)))))
        | (show Rch _ _ _ _ _ 53 _ _ _; refine Rch.blk' (Rn_mono mt _ _) bl_X0_farthestOf_53 (i_istore6 trivial (i_iload rfl (i_iload_n rfl (t_ic_le 67 61 rfl rfl (by first | exact hI_R | exact band_R | exact bor_R | exact bshr_R | exact lcm_R | omega) (by first | exact hI_R | exact band_R | exact bor_R | exact bshr_R | exact lcm_R | omega) (fun hc => ?_) (fun hc => ?_))))) <;> (first | (exfalso; omega) | skip))
        | (show Rch _ _ _ _ _ 61 _ _ _; refine Rch.blk' (Rn_mono mt _ _) bl_X0_farthestOf_61 (i_iload rfl (i_istore2 trivial (i_iload rfl (i_istore3 trivial (t_none ?_))))))
        | (show Rch _ _ _ _ _ 67 _ _ _; refine Rch.blk' (Rn_mono mt _ _) bl_X0_farthestOf_67 (i_iinc4 trivial k_1 (t_goto 9 rfl ?_)))
        | (show Rch _ _ _ _ _ 73 _ _ _; refine Rch.blk' (Rn_mono mt _ _) bl_X0_farthestOf_73 (i_iload_n rfl (t_iret ?_))))
  repeat' (first
    | exact key 0 (by omega) (by omega) (-4) _ _ ⟨fun _ => rfl, fun z => absurd (show (-4 : Int) < 0 by omega) z⟩
    | (show Rn _ _ _ 3 _ _ _; refine c_X0_isThereOf (by assumption) (by assumption) (by first | omega | exact hI_R) (by first | omega | exact hI_R) (fun _ _ _ _ _ => ?_) (fun _ => ?_))
    | (show Rch _ _ _ _ _ 0 _ _ _; refine Rch.blk' (Rn_mono mt _ _) bl_X0_farthestOf_0 (i_bipush k_m4 (i_istore2 trivial (i_bipush k_m4 (i_istore3 trivial (i_iconst k_0 (i_istore4 trivial (t_none ?_))))))))
    | (show Rch _ _ _ _ _ 18 _ _ _; refine Rch.blk' (Rn_mono mt _ _) bl_X0_farthestOf_18 (i_aload_n rfl (i_iload rfl (i_iload_n rfl (t_cv3 (Rn_mono mt _ _) 25 rfl (Nat.le_of_ble_eq_true rfl) ?_)))))
    | (show Rch _ _ _ _ _ 25 _ _ _; refine Rch.blk' (Rn_mono mt _ _) bl_X0_farthestOf_25 (t_if_eq 67 28 rfl rfl (by first | exact hI_R | exact band_R | exact bor_R | exact bshr_R | exact lcm_R | omega) (fun hc => ?_) (fun hc => ?_)) <;> (first | (exfalso; omega) | skip))
    | (show Rch _ _ _ _ _ 28 _ _ _; refine Rch.blk' (Rn_mono mt _ _) bl_X0_farthestOf_28 (i_aload_n rfl (i_gfr rfl (i_iload rfl (i_iald (n := 10) rfl (by omega) (by omega) (by omega) (i_bipush k_6 (i_idiv (by omega) (by omega) (by omega) (by omega) (i_istore5 trivial (i_iload_n rfl (t_if_ne 49 44 rfl rfl (by first | exact hI_R | exact band_R | exact bor_R | exact bshr_R | exact lcm_R | omega) (fun hc => ?_) (fun hc => ?_)))))))))) <;> (first | (exfalso; omega) | skip))
    | (show Rch _ _ _ _ _ 44 _ _ _; refine Rch.blk' (Rn_mono mt _ _) bl_X0_farthestOf_44 (i_iload rfl (t_goto 53 rfl ?_)))
    | (show Rch _ _ _ _ _ 49 _ _ _; refine Rch.blk' (Rn_mono mt _ _) bl_X0_farthestOf_49 (i_iconst k_5 (i_iload rfl (i_isub (t_none ?_)))))
    | (show Rch _ _ _ _ _ 53 _ _ _; refine Rch.blk' (Rn_mono mt _ _) bl_X0_farthestOf_53 (i_istore6 trivial (i_iload rfl (i_iload_n rfl (t_ic_le 67 61 rfl rfl (by first | exact hI_R | exact band_R | exact bor_R | exact bshr_R | exact lcm_R | omega) (by first | exact hI_R | exact band_R | exact bor_R | exact bshr_R | exact lcm_R | omega) (fun hc => ?_) (fun hc => ?_))))) <;> (first | (exfalso; omega) | skip))
    | (show Rch _ _ _ _ _ 61 _ _ _; refine Rch.blk' (Rn_mono mt _ _) bl_X0_farthestOf_61 (i_iload rfl (i_istore2 trivial (i_iload rfl (i_istore3 trivial (t_none ?_))))))
    | (show Rch _ _ _ _ _ 67 _ _ _; refine Rch.blk' (Rn_mono mt _ _) bl_X0_farthestOf_67 (i_iinc4 trivial k_1 (t_goto 9 rfl ?_)))
    | (show Rch _ _ _ _ _ 73 _ _ _; refine Rch.blk' (Rn_mono mt _ _) bl_X0_farthestOf_73 (i_iload_n rfl (t_iret ?_))))
end C17


