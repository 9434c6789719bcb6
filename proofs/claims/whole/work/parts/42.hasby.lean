/-! WHAT ONE HAS BY CHOICES: the reference -/
def MU (a x b y : Int) : Int → Prop := fun i => (x = 0 ∧ i = a) ∨ (y = 0 ∧ i = b)
theorem shl0_dec : ∀ k, k < 10 → bshl 0 ((k : Nat) : Int) = 0 := by decide +kernel
theorem mu_1 {a x : Int} (a0 : 0 ≤ a) (a1 : a < 10) (hx : x = 0 ∨ x = 1) : bshl (1 - x) a = BT (fun i => x = 0 ∧ i = a) := by
  rcases hx with rfl | rfl
  · rw [show (1 : Int) - 0 = 1 from rfl, b_one a0 a1]
    exact BT_ext (fun i _ _ => ⟨fun z => ⟨rfl, z⟩, fun z => z.2⟩)
  · obtain ⟨n, hn, rfl⟩ := nat_10 a0 a1
    rw [show (1 : Int) - 1 = 0 from rfl, shl0_dec n hn]
    exact (BT_z.mpr (fun i _ _ z => by omega)).symm
theorem mu_eq {a x b y : Int} (a0 : 0 ≤ a) (a1 : a < 10) (hx : x = 0 ∨ x = 1) (b0 : 0 ≤ b) (b1 : b < 10) (hy : y = 0 ∨ y = 1) : bor (bshl (1 - x) a) (bshl (1 - y) b) = BT (MU a x b y) := by
  rw [mu_1 a0 a1 hx, mu_1 b0 b1 hy, b_or]
  rfl
/-- what w has behind n days, a with ideas or none, b likewise -/
noncomputable def vHas (G : Bd) (w a x b y n : Int) : Int := WO (DN G (MU a x b y) n) (sd G w) - (if sq (DN G (MU a x b y) n) w < 36 then 0 else 5)
section C19
variable {d : Nat} {h : Mem} {Q : Option AV → Mem → Prop} {G : Bd}
theorem c_X4_hasBy (hG : RR h 0 G no0 0) (hO : OKB G) (hd : dy G ≤ 999) {w a x b y n : Int} (w0 : 0 ≤ w) (w1 : w < nn G) (a0 : 0 ≤ a) (a1 : a < nn G) (hx : x = 0 ∨ x = 1) (b0 : 0 ≤ b) (b1 : b < nn G) (hy : y = 0 ∨ y = 1) (n0 : 0 ≤ n) (n1 : n ≤ 30) (hq : ∀ h', JY h h' → FrR h h' 1 → -5 ≤ vHas G w a x b y n → vHas G w a x b y n ≤ 90 → Q (some (ai (I (vHas G w a x b y n)))) h') : Rn mt (d + 12) 185 [ar 3 0, ai (I w), ai (I a), ai (I x), ai (I b), ai (I y), ai (I n)] h Q := by
  refine Rn.intro iX4_hasBy rfl rfl ?_
  show Rch bX4_hasBy _ _ _ _ 0 [some (ar 3 0), some (ai (I w)), some (ai (I a)), some (ai (I x)), some (ai (I b)), some (ai (I y)), some (ai (I n))] [] _
  have g_n := hO.n
  have g_p := hO.pc w w0 w1
  refine Rch.blk' (Rn_mono mt _) bl_X4_hasBy_0 (i_aload_n rfl (i_gfs rfl (i_aload_n rfl (i_gfs rfl (t_cs2 (Rn_mono mt _) 11 rfl (Nat.le_of_ble_eq_true rfl) ?_)))))
  refine c_X4_copies hG hO (by decide) (fun h1 hG1 hF1 => ?_)
  have hm := mu_eq a0 (by omega) hx b0 (by omega) hy
  have hG2 := hG1.set_m (z := bor (bshl (1 - x) a) (bshl (1 - y) b)) (j := Int.toNat 4) hm rfl
  have hF2 : FrR h (mset h1 12 1 (Int.toNat 4) (I (bor (bshl (1 - x) a) (bshl (1 - y) b)))) 1 := hF1.ms
  have hO3 := (DN_f (M := MU a x b y) hO n n0).1
  have hn3 : nn (DN G (MU a x b y) n) = nn G := (DN_f (M := MU a x b y) hO n n0).2.1
  have g_w := WO_R hO3 (sd G w)
  have hws := WS_OS hO3 (sd G w)
  refine Rch.blk' (Rn_mono mt _) bl_X4_hasBy_11 (i_aload_n rfl (i_gfs rfl (i_iconst k_4 (i_iconst k_1 (i_iload_n rfl (i_isub (i_iload_n rfl (i_ishl (i_iconst k_1 (i_iload rfl (i_isub (i_iload rfl (i_ishl (i_ior (i_iast (n := 46) rfl rfl (by omega) (by omega) (by omega) (i_aload_n rfl (i_gfs rfl (i_iload rfl (t_cs2 (Rn_mono mt _) 39 rfl (Nat.le_of_ble_eq_true rfl) ?_)))))))))))))))))))
  generalize mset h1 12 1 (Int.toNat 4) (I (bor (bshl (1 - x) a) (bshl (1 - y) b))) = h2 at hG2 hF2 ⊢
  refine c_X4_daysOn hG2 hO n0 (by omega) (by omega) (fun h3 hG3 hF3 => ?_)
  have hF := hF2.tr hF3
  have hG0 := hG.fr hF (by decide)
  have e_s := fun a c => @RR.s _ _ _ _ _ hG0 w a c
  have kk : ∀ v, v = WO (DN G (MU a x b y) n) (sd G w) - (if sq (DN G (MU a x b y) n) w < 36 then 0 else 5) → Q (some (ai (I v))) h3 := fun v e => by
    subst e
    exact hq h3 (hF.jy (by omega)) hF (by unfold vHas; omega) (by unfold vHas; omega)
  clear hq
  repeat' (first
    | (show Rn _ _ 134 _ _ _; refine c_X4_ofSide hG3 hO3 (by first | omega | exact hI_R) ?_)
    | (show Rn _ _ 135 _ _ _; refine c_X4_worthOf hG3 hO3 (fun _ _ => ?_); rw [hws])
    | (show Rn _ _ 114 _ _ _; refine c_X4_isHere hG3 hO3 w0 (by omega) (fun _ _ => ?_) (fun _ => ?_))
    | exact kk _ (by omega)
    | (show Rn _ _ 109 _ _ _; refine c_X4_of ?_)
    | (show Rn _ _ 134 _ _ _; refine c_X4_ofSide (by assumption) (by assumption) (by first | omega | exact hI_R) ?_)
    | (show Rn _ _ 135 _ _ _; refine c_X4_worthOf (by assumption) (by assumption) (fun _ _ => ?_))
    | (show Rn _ _ 114 _ _ _; refine c_X4_isHere (by assumption) (by assumption) (by omega) (by omega) (fun _ _ => ?_) (fun _ => ?_))
    | (show Rch _ _ _ _ _ 0 _ _ _; refine Rch.blk' (Rn_mono mt _) bl_X4_hasBy_0 (i_aload_n rfl (i_gfs rfl (i_aload_n rfl (i_gfs rfl (t_cs2 (Rn_mono mt _) 11 rfl (Nat.le_of_ble_eq_true rfl) ?_))))) <;> (try (simp (disch := omega) only [e_s])))
    | (show Rch _ _ _ _ _ 11 _ _ _; refine Rch.blk' (Rn_mono mt _) bl_X4_hasBy_11 (i_aload_n rfl (i_gfs rfl (i_iconst k_4 (i_iconst k_1 (i_iload_n rfl (i_isub (i_iload_n rfl (i_ishl (i_iconst k_1 (i_iload rfl (i_isub (i_iload rfl (i_ishl (i_ior (i_iast (n := 46) rfl rfl (by first | omega | (simp (disch := omega) only [e_s]; omega)) (by first | omega | (simp (disch := omega) only [e_s]; omega)) (by first | omega | (simp (disch := omega) only [e_s]; omega)) (i_aload_n rfl (i_gfs rfl (i_iload rfl (t_cs2 (Rn_mono mt _) 39 rfl (Nat.le_of_ble_eq_true rfl) ?_))))))))))))))))))) <;> (try (simp (disch := omega) only [e_s])))
    | (show Rch _ _ _ _ _ 39 _ _ _; refine Rch.blk' (Rn_mono mt _) bl_X4_hasBy_39 (i_aload_n rfl (i_gfs rfl (i_aload_n rfl (i_gfs rfl (i_aload_n rfl (i_gfs rfl (i_iload_n rfl (i_iconst k_2 (t_cs2 (Rn_mono mt _) 56 rfl (Nat.le_of_ble_eq_true rfl) ?_))))))))) <;> (try (simp (disch := omega) only [e_s])))
    | (show Rch _ _ _ _ _ 56 _ _ _; refine Rch.blk' (Rn_mono mt _) bl_X4_hasBy_56 (i_iald rfl (by first | omega | (simp (disch := omega) only [e_s]; omega)) (by simp only [aln]; omega) (by simp only [aln]; omega) (t_cs2 (Rn_mono mt _) 60 rfl (Nat.le_of_ble_eq_true rfl) ?_)) <;> (try (simp (disch := omega) only [e_s])))
    | (show Rch _ _ _ _ _ 60 _ _ _; refine Rch.blk' (Rn_mono mt _) bl_X4_hasBy_60 (t_cs2 (Rn_mono mt _) 63 rfl (Nat.le_of_ble_eq_true rfl) ?_))
    | (show Rch _ _ _ _ _ 63 _ _ _; refine Rch.blk' (Rn_mono mt _) bl_X4_hasBy_63 (i_aload_n rfl (i_gfs rfl (i_iload_n rfl (t_cs2 (Rn_mono mt _) 71 rfl (Nat.le_of_ble_eq_true rfl) ?_)))) <;> (try (simp (disch := omega) only [e_s])))
    | (show Rch _ _ _ _ _ 71 _ _ _; refine Rch.blk' (Rn_mono mt _) bl_X4_hasBy_71 (t_if_eq 78 74 rfl rfl (by first | exact hI_R | exact band_R | exact bor_R | exact bshr_R | exact lcm_R | omega | (simp (disch := omega) only [e_s]; omega)) (fun hc => ?_) (fun hc => ?_)) <;> (first | (exfalso; omega) | skip))
    | (show Rch _ _ _ _ _ 74 _ _ _; refine Rch.blk' (Rn_mono mt _) bl_X4_hasBy_74 (i_iconst k_0 (t_goto 79 rfl ?_)))
    | (show Rch _ _ _ _ _ 78 _ _ _; refine Rch.blk' (Rn_mono mt _) bl_X4_hasBy_78 (i_iconst k_5 (t_none ?_)))
    | (show Rch _ _ _ _ _ 79 _ _ _; refine Rch.blk' (Rn_mono mt _) bl_X4_hasBy_79 (i_isub (t_iret ?_))))
end C19

