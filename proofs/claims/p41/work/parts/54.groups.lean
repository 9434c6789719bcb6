/-! GROUPS, SIDE: both sides -/
theorem bnot_n {a b : Nat} (ha : a < 1024) : band (a : Int) (bxor (b : Int) (-1)) = ((a &&& (1023 ^^^ b) : Nat) : Int) := by
  have h1023 : ∀ i, i < 10 → (1023 : Nat).testBit i = true := by decide
  have e : Int32.ofNat a &&& (Int32.ofNat b ^^^ I (-1)) = Int32.ofNat (a &&& (1023 ^^^ b)) := Int32.toBitVec_inj.1 (by
    have e1 : (I (-1)).toBitVec = BitVec.allOnes 32 := by decide +kernel
    have e2 : ∀ n : Nat, (Int32.ofNat n).toBitVec = BitVec.ofNat 32 n := fun n => by simp
    rw [Int32.toBitVec_and, Int32.toBitVec_xor, e1, e2, e2, e2]
    apply BitVec.eq_of_getLsbD_eq
    intro i hi
    rw [BitVec.getLsbD_and, BitVec.getLsbD_xor, BitVec.getLsbD_allOnes, BitVec.getLsbD_ofNat, BitVec.getLsbD_ofNat, BitVec.getLsbD_ofNat, Nat.testBit_and, Nat.testBit_xor]
    have hi2 : decide (i < 32) = true := decide_eq_true hi
    rw [hi2]
    by_cases c : i < 10
    · rw [h1023 i c]
      cases a.testBit i <;> cases b.testBit i <;> rfl
    · have ha2 : a < 2 ^ i := Nat.lt_of_lt_of_le ha (Nat.pow_le_pow_right (n := 2) (by omega) (show 10 ≤ i by omega))
      rw [Nat.testBit_lt_two_pow ha2]
      rfl)
  have hlt : a &&& (1023 ^^^ b) < 2147483648 := Nat.lt_of_le_of_lt Nat.and_le_left (by omega)
  unfold band bxor
  rw [I_of, I_ofNat, I_ofNat, e, toInt_nat hlt]
theorem b_notS {P S : Int → Prop} : band (BT P) (bxor (BT S) (-1)) = BT (fun i => P i ∧ ¬ S i) := by
  have h1023 : ∀ i, i < 10 → (1023 : Nat).testBit i = true := by decide
  unfold BT
  rw [bnot_n (btn_1024 P)]
  congr 1
  apply Nat.eq_of_testBit_eq
  intro i
  apply Bool.eq_iff_iff.mpr
  rw [Nat.testBit_and, Bool.and_eq_true, btn_tb, btn_tb, Nat.testBit_xor]
  have h3 := btn_tb S 10 i
  constructor
  · rintro ⟨⟨a, b⟩, c⟩
    rw [h1023 i a] at c
    refine ⟨a, b, fun z => ?_⟩
    rw [h3.mpr ⟨a, z⟩] at c
    cases c
  · rintro ⟨a, b, c⟩
    refine ⟨⟨a, b⟩, ?_⟩
    rw [h1023 i a]
    cases e : (btn S 10).testBit i with
    | false => rfl
    | true => exact absurd (h3.mp e).2 c
theorem b_and0 {P : Int → Prop} : band (BT P) (BT (fun _ => False)) = 0 := by
  rw [b_and]
  exact BT_z.mpr (fun i _ _ z => z.2)
def HE (G : Bd) (s a b : Int) : Prop := (0 ≤ a ∧ a < nn G ∧ OC G s a) ∧ (0 ≤ b ∧ b < nn G ∧ OC G s b) ∧ (HC G 0 b a ∨ HC G 0 a b)
def CLs (G : Bd) (s p i : Int) : Prop := ∀ S : Int → Prop, S p → (∀ a b : Int, S a → HE G s a b → S b) → S i
theorem CLs_p {G : Bd} {s p : Int} : CLs G s p p := fun _ h _ => h
theorem CLs_s {G : Bd} {s p a b : Int} (h : CLs G s p a) (e : HE G s a b) : CLs G s p b := fun S h1 h2 => h2 a b (h S h1 h2) e
theorem CLs_r {G : Bd} {s p i : Int} (p0 : 0 ≤ p) (p1 : p < nn G) (hp : OC G s p) (h : CLs G s p i) : 0 ≤ i ∧ i < nn G ∧ OC G s i := h (fun i => 0 ≤ i ∧ i < nn G ∧ OC G s i) ⟨p0, p1, hp⟩ (fun _ _ _ e => e.2.1)
noncomputable def grS (G : Bd) (s : Int) : Nat → Int → Prop
  | 0 => fun _ => False
  | n + 1 => fun i => grS G s n i ∨ ((OC G s (n : Int) ∧ ¬ grS G s n (n : Int)) ∧ CLs G s (n : Int) i)
noncomputable def grN (G : Bd) (s : Int) : Nat → Int
  | 0 => 0
  | n + 1 => grN G s n + ifp (OC G s (n : Int) ∧ ¬ grS G s n (n : Int)) 1 0
noncomputable def GSs (G : Bd) (s k : Int) : Int → Prop := grS G s k.toNat
noncomputable def GNs (G : Bd) (s k : Int) : Int := grN G s k.toNat
theorem GSs_up {G : Bd} {s k : Int} (k0 : 0 ≤ k) : GSs G s (k + 1) = fun i => GSs G s k i ∨ ((OC G s k ∧ ¬ GSs G s k k) ∧ CLs G s k i) := by
  obtain ⟨n, rfl⟩ := Int.eq_ofNat_of_zero_le k0
  unfold GSs
  rw [show ((n : Int) + 1).toNat = n + 1 by omega, show ((n : Int)).toNat = n by omega]
  rfl
theorem GNs_up {G : Bd} {s k : Int} (k0 : 0 ≤ k) : GNs G s (k + 1) = GNs G s k + ifp (OC G s k ∧ ¬ GSs G s k k) 1 0 := by
  obtain ⟨n, rfl⟩ := Int.eq_ofNat_of_zero_le k0
  unfold GNs GSs
  rw [show ((n : Int) + 1).toNat = n + 1 by omega, show ((n : Int)).toNat = n by omega]
  rfl
theorem GSs_1 {G : Bd} {s k : Int} (k0 : 0 ≤ k) (h : OC G s k ∧ ¬ GSs G s k k) : BT (GSs G s (k + 1)) = BT (fun i => GSs G s k i ∨ CLs G s k i) := by
  rw [GSs_up k0]
  exact BT_ext (fun i _ _ => ⟨fun z => z.elim Or.inl (fun w => Or.inr w.2), fun z => z.elim Or.inl (fun w => Or.inr ⟨h, w⟩)⟩)
theorem GSs_0 {G : Bd} {s k : Int} (k0 : 0 ≤ k) (h : ¬ (OC G s k ∧ ¬ GSs G s k k)) : GSs G s (k + 1) = GSs G s k := by
  rw [GSs_up k0]
  funext i
  exact propext ⟨fun z => z.elim id (fun w => absurd w.1 h), Or.inl⟩
theorem cnt_lt {C : Int → Prop} {j : Int} (j0 : 0 ≤ j) (hC : ¬ C j) : ∀ k : Int, 0 ≤ k → j < k → cnt C k + 1 ≤ k := by
  refine ind0 (fun h => by omega) (fun k k0 ih hk => ?_)
  by_cases e : j = k
  · subst e
    have := @cnt_R C j k0
    rw [cnt_u0 k0 hC]; omega
  · have := ih (by omega)
    by_cases c : C k
    · rw [cnt_u1 k0 c]; omega
    · rw [cnt_u0 k0 c]; omega
theorem cnt_gt {C C' : Int → Prop} (hs : ∀ i, C i → C' i) {j : Int} (j0 : 0 ≤ j) (hC : ¬ C j) (hC' : C' j) : ∀ k : Int, 0 ≤ k → cnt C k ≤ cnt C' k ∧ (j < k → cnt C k + 1 ≤ cnt C' k) := by
  refine ind0 ⟨by rw [cnt_0, cnt_0]; omega, fun h => by omega⟩ (fun k k0 ih => ?_)
  by_cases c : C k
  · rw [cnt_u1 k0 c, cnt_u1 k0 (hs k c)]
    refine ⟨by omega, fun h => ?_⟩
    have e : ¬ j = k := fun z => by subst z; exact hC c
    have := ih.2 (by omega)
    omega
  · by_cases c' : C' k
    · rw [cnt_u0 k0 c, cnt_u1 k0 c']
      exact ⟨by omega, fun _ => by omega⟩
    · rw [cnt_u0 k0 c, cnt_u0 k0 c']
      refine ⟨ih.1, fun h => ?_⟩
      have e : ¬ j = k := fun z => by subst z; exact c' hC'
      exact ih.2 (by omega)
def gInv (G : Bd) (s p : Int) (P : Int → Prop) (r : Int) : Prop := P p ∧ (∀ i, P i → CLs G s p i) ∧ (∀ i, P i → 0 ≤ i ∧ i < nn G) ∧ ((∀ a b, P a → HE G s a b → P b) ∨ r ≤ cnt P (nn G))
theorem gInv_0 {G : Bd} {s p : Int} (p0 : 0 ≤ p) (p1 : p < nn G) : gInv G s p (fun i => i = p) 1 := by
  refine ⟨rfl, fun i z => ?_, fun i z => ?_, Or.inr (cnt_pos (C := fun i => i = p) p0 rfl (nn G) (by omega) p1)⟩
  · have z : i = p := z
    rw [z]; exact CLs_p
  · have z : i = p := z
    rw [z]; exact ⟨p0, p1⟩
theorem gInv_up {G : Bd} {s p r : Int} {S P : Int → Prop} (hn : 0 ≤ nn G) (hS : gInv G s p S r) (h1 : ∀ i, S i → P i) (h2 : ∀ i, P i → CLs G s p i) (h3 : ∀ i, P i → 0 ≤ i ∧ i < nn G) (h4 : ∀ a b, S a → HE G s a b → P b) : gInv G s p P (r + 1) := by
  refine ⟨h1 p hS.1, h2, h3, ?_⟩
  have hcl : (∀ a b, S a → HE G s a b → S b) → (∀ a b, P a → HE G s a b → P b) := fun hc a b ha he => h1 b (hc a b (h2 a ha S hS.1 hc) he)
  rcases hS.2.2.2 with hc | hr
  · exact Or.inl (hcl hc)
  · by_cases e : ∃ i, P i ∧ ¬ S i
    · obtain ⟨i, a, b⟩ := e
      have := (cnt_gt h1 (h3 i a).1 b a (nn G) hn).2 (h3 i a).2
      exact Or.inr (by omega)
    · refine Or.inl (hcl (fun a b ha he => Classical.byContradiction (fun z => e ⟨b, h4 a b ha he, z⟩)))
theorem gInv_end {G : Bd} {s p r : Int} {P : Int → Prop} (h : gInv G s p P r) (hn : 0 ≤ nn G) (hr : nn G ≤ r) : BT P = BT (CLs G s p) := by
  have hc : ∀ a b, P a → HE G s a b → P b := by
    rcases h.2.2.2 with hc | hc
    · exact hc
    · intro a b _ he
      refine Classical.byContradiction (fun z => ?_)
      have := cnt_lt he.2.1.1 z (nn G) hn he.2.1.2.1
      omega
  exact BT_ext (fun i _ _ => ⟨fun z => h.2.1 i z, fun z => z P h.1 hc⟩)
section C29
variable {d L : Nat} {h : Mem} {Q : Option AV → Mem → Prop} {b : Nat} {G : Bd}
theorem c_X0_groupAround (hG : RC h b G) (hO : OKB G) {p s : Int} (p0 : 0 ≤ p) (p1 : p < nn G) (hs : OC G s p) (hq : Q (some (ai (I (BT (CLs G s p))))) h) : Rn mt L (d + 4) 37 [ar 0 b, ai (I p)] h Q := by
  refine Rn.intro iX0_groupAround rfl rfl ?_
  show Rch bX0_groupAround _ _ _ _ 0 [some (ar 0 b), some (ai (I p)), none, none, none, none] [] _
  have e_n := hG.n
  have e_s : hI h 6 b p.toNat = s := (hG.s p0 p1).trans hs.1
  have g_n := hO.n
  have r_s : s = 0 ∨ s = 1 := by have := (hO.pc p p0 p1).2.2.1; have := hs.1; omega
  have key : ∀ r : Int, r ≤ nn G → 1 ≤ r → ∀ (S : Int → Prop) (u1 u2 : Option AV), gInv G s p S r → RH L bX0_groupAround (d + 3) Q 6 [some (ar 0 b), some (ai (I p)), some (ai (I (BT S))), some (ai (I r)), u1, u2] h := by
    refine up_ind (fun r hr ih hr1 S u1 u2 hS => ?_)
    by_cases hrn : r < nn G
    · have ih := ih hrn (by omega)
      have inner : ∀ q : Int, q ≤ nn G → 0 ≤ q → ∀ (P : Int → Prop) (u : Option AV), (∀ i, S i → P i) → (∀ i, P i → CLs G s p i) → (∀ i, P i → 0 ≤ i ∧ i < nn G) → (∀ x y, S x → HE G s x y → ((HC G 0 x y ∧ x < q) ∨ (HC G 0 y x ∧ y < q)) → P y) → RH L bX0_groupAround (d + 3) Q 17 [some (ar 0 b), some (ai (I p)), some (ai (I (BT P))), some (ai (I r)), some (ai (I q)), u] h := by
        refine up_ind (fun q hk ij q0 P u h1 h2 h3 h4 => ?_)
        by_cases q1 : q < nn G
        · have ij := ij q1 (by omega)
          have g_q := hO.pc q q0 q1
          have hmid : ∀ H : Int → Prop, (∀ i, 0 ≤ i → i < 10 → (H i ↔ (OC G s q ∧ HS G 0 q i))) → Rch bX0_groupAround (Rn mt L (d + 3)) L (fun _ _ _ _ => False) Q 52 [some (ar 0 b), some (ai (I p)), some (ai (I (BT P))), some (ai (I r)), some (ai (I q)), u] [ai (I (BT H))] h := by
            intro H hH
            have e := b_has (P := P) q0 (show q < 10 by omega)
            by_cases hP : P q
            · rw [ifp_p hP] at e
              have kA := ij (fun i => P i ∨ (0 ≤ i ∧ i < 10 ∧ H i)) (some (ai (I (BT H)))) (fun i z => Or.inl (h1 i z)) (fun i z => z.elim (h2 i) (fun w => by
                have hw := (hH i w.1 w.2.1).mp w.2.2
                rcases hw.2.2 with c | c
                · rw [c]; exact h2 q hP
                · exact CLs_s (h2 q hP) ⟨⟨q0, q1, hw.1⟩, ⟨w.1, hw.2.1, c.1.trans hw.1.1, c.2.1⟩, Or.inr c⟩)) (fun i z => z.elim (h3 i) (fun w => ⟨w.1, ((hH i w.1 w.2.1).mp w.2.2).2.1⟩)) (fun x y hx he hd => by
                rcases hd with ⟨c, hd⟩ | ⟨c, hd⟩
                · by_cases hxq : x = q
                  · subst hxq
                    have b0 := he.2.1.1
                    have b1 := he.2.1.2.1
                    exact Or.inr ⟨b0, by omega, (hH y b0 (by omega)).mpr ⟨he.1.2.2, b1, Or.inr c⟩⟩
                  · exact Or.inl (h4 x y hx he (Or.inl ⟨c, by omega⟩))
                · by_cases hyq : y = q
                  · subst hyq; exact Or.inl hP
                  · exact Or.inl (h4 x y hx he (Or.inr ⟨c, by omega⟩)))
              have e2 : BT (fun i => P i ∨ (0 ≤ i ∧ i < 10 ∧ H i)) = bor (BT P) (BT H) := by
                rw [b_or]
                exact BT_ext (fun i i0 i1 => ⟨fun z => z.elim Or.inl (fun w => Or.inr w.2.2), fun z => z.elim Or.inl (fun w => Or.inr ⟨i0, i1, w⟩)⟩)
              rw [e2] at kA
              clear ij ih
              refine Rch.blk' (Rn_mono mt _ _) bl_X0_groupAround_52 (i_istore5 trivial (i_iload_n rfl (i_iload rfl (i_ishr (i_iconst k_1 (i_iand (t_if_eq 71 63 rfl rfl (by first | exact hI_R | exact band_R | exact bor_R | exact bshr_R | exact lcm_R | omega | (simp (disch := omega) only [e]; omega)) (fun hc => ?_) (fun hc => ?_)))))))) <;> (first | (exfalso; omega) | skip)
              repeat' (first
                | exact kA
                | (show Rn _ _ _ 3 _ _ _; refine c_X0_isThereOf (by assumption) (by assumption) (by first | omega | exact hI_R) (by first | omega | exact hI_R) (fun _ _ _ _ _ => ?_) (fun _ => ?_))
                | (show Rn _ _ _ 25 _ _ _; refine c_X0_hearersOf (by assumption) (by assumption) (by omega) (by first | omega | exact hI_R) (fun _ _ _ => ?_) (fun _ => ?_) <;> (first | (exfalso; omega) | skip))
                | (show Rch _ _ _ _ _ 0 _ _ _; refine Rch.blk' (Rn_mono mt _ _) bl_X0_groupAround_0 (i_iconst k_1 (i_iload_n rfl (i_ishl (i_istore2 trivial (i_iconst k_1 (i_istore3 trivial (t_none ?_))))))))
                | (show Rch _ _ _ _ _ 6 _ _ _; refine Rch.blk' (Rn_mono mt _ _) bl_X0_groupAround_6 (i_iload_n rfl (i_aload_n rfl (i_gfi rfl (t_ic_ge 97 14 rfl rfl (by first | exact hI_R | exact band_R | exact bor_R | exact bshr_R | exact lcm_R | omega) (by first | exact hI_R | exact band_R | exact bor_R | exact bshr_R | exact lcm_R | omega) (fun hc => ?_) (fun hc => ?_))))) <;> (first | (exfalso; omega) | skip))
                | (show Rch _ _ _ _ _ 14 _ _ _; refine Rch.blk' (Rn_mono mt _ _) bl_X0_groupAround_14 (i_iconst k_0 (i_istore4 trivial (t_none ?_))))
                | (show Rch _ _ _ _ _ 26 _ _ _; refine Rch.blk' (Rn_mono mt _ _) bl_X0_groupAround_26 (i_aload_n rfl (i_iload rfl (i_aload_n rfl (i_gfr rfl (i_iload_n rfl (i_iald (n := 10) rfl (by omega) (by omega) (by omega) (t_cv3 (Rn_mono mt _ _) 38 rfl (Nat.le_of_ble_eq_true rfl) ?_))))))))
                | (show Rch _ _ _ _ _ 38 _ _ _; refine Rch.blk' (Rn_mono mt _ _) bl_X0_groupAround_38 (t_if_eq 51 41 rfl rfl (by first | exact hI_R | exact band_R | exact bor_R | exact bshr_R | exact lcm_R | omega) (fun hc => ?_) (fun hc => ?_)) <;> (first | (exfalso; omega) | skip))
                | (show Rch _ _ _ _ _ 41 _ _ _; refine Rch.blk' (Rn_mono mt _ _) bl_X0_groupAround_41 (i_aload_n rfl (i_iload rfl (i_iconst k_0 (t_cv3 (Rn_mono mt _ _) 48 rfl (Nat.le_of_ble_eq_true rfl) ?_)))))
                | (show Rch _ _ _ _ _ 48 _ _ _; refine Rch.blk' (Rn_mono mt _ _) bl_X0_groupAround_48 (t_goto 52 rfl ?_))
                | (show Rch _ _ _ _ _ 51 _ _ _; refine Rch.blk' (Rn_mono mt _ _) bl_X0_groupAround_51 (i_iconst k_0 (t_none ?_)))
                | (show Rch _ _ _ _ _ 52 _ _ _; refine Rch.blk' (Rn_mono mt _ _) bl_X0_groupAround_52 (i_istore5 trivial (i_iload_n rfl (i_iload rfl (i_ishr (i_iconst k_1 (i_iand (t_if_eq 71 63 rfl rfl (by first | exact hI_R | exact band_R | exact bor_R | exact bshr_R | exact lcm_R | omega) (fun hc => ?_) (fun hc => ?_)))))))) <;> (first | (exfalso; omega) | skip))
                | (show Rch _ _ _ _ _ 63 _ _ _; refine Rch.blk' (Rn_mono mt _ _) bl_X0_groupAround_63 (i_iload_n rfl (i_iload rfl (i_ior (i_istore2 trivial (t_goto 85 rfl ?_))))))
                | (show Rch _ _ _ _ _ 71 _ _ _; refine Rch.blk' (Rn_mono mt _ _) bl_X0_groupAround_71 (i_iload_n rfl (i_iload rfl (i_iand (t_if_eq 85 78 rfl rfl (by first | exact hI_R | exact band_R | exact bor_R | exact bshr_R | exact lcm_R | omega) (fun hc => ?_) (fun hc => ?_))))) <;> (first | (exfalso; omega) | skip))
                | (show Rch _ _ _ _ _ 78 _ _ _; refine Rch.blk' (Rn_mono mt _ _) bl_X0_groupAround_78 (i_iload_n rfl (i_iconst k_1 (i_iload rfl (i_ishl (i_ior (i_istore2 trivial (t_none ?_))))))))
                | (show Rch _ _ _ _ _ 85 _ _ _; refine Rch.blk' (Rn_mono mt _ _) bl_X0_groupAround_85 (i_iinc4 trivial k_1 (t_goto 17 rfl ?_)))
                | (show Rch _ _ _ _ _ 91 _ _ _; refine Rch.blk' (Rn_mono mt _ _) bl_X0_groupAround_91 (i_iinc3 trivial k_1 (t_goto 6 rfl ?_)))
                | (show Rch _ _ _ _ _ 97 _ _ _; refine Rch.blk' (Rn_mono mt _ _) bl_X0_groupAround_97 (i_iload_n rfl (t_iret ?_))))
            · rw [ifp_n hP] at e
              have hD : ∀ x y, S x → HE G s x y → ((HC G 0 x y ∧ x < q + 1) ∨ (HC G 0 y x ∧ y < q + 1)) → P y ∨ (y = q ∧ P x ∧ H x ∧ 0 ≤ x ∧ x < 10) := by
                intro x y hx he hd
                rcases hd with ⟨c, hd⟩ | ⟨c, hd⟩
                · by_cases hxq : x = q
                  · subst hxq; exact absurd (h1 _ hx) hP
                  · exact Or.inl (h4 x y hx he (Or.inl ⟨c, by omega⟩))
                · by_cases hyq : y = q
                  · subst hyq
                    have b0 := he.1.1
                    have b1 := he.1.2.1
                    exact Or.inr ⟨rfl, h1 _ hx, (hH x b0 (by omega)).mpr ⟨he.2.1.2.2, b1, Or.inr c⟩, b0, by omega⟩
                  · exact Or.inl (h4 x y hx he (Or.inr ⟨c, by omega⟩))
              by_cases hZ : ∃ i, 0 ≤ i ∧ i < 10 ∧ P i ∧ H i
              · have e3 : ¬ band (BT P) (BT H) = 0 := by
                  rw [b_and]
                  intro z
                  obtain ⟨i, i0, i1, i2⟩ := hZ
                  exact BT_z.mp z i i0 i1 i2
                have hCq : CLs G s p q := by
                  obtain ⟨i, i0, i1, i2, i3⟩ := hZ
                  have hw := (hH i i0 i1).mp i3
                  rcases hw.2.2 with c | c
                  · rw [c] at i2; exact absurd i2 hP
                  · exact CLs_s (h2 i i2) ⟨⟨i0, hw.2.1, c.1.trans hw.1.1, c.2.1⟩, ⟨q0, q1, hw.1⟩, Or.inl c⟩
                have kA := ij (fun i => P i ∨ i = q) (some (ai (I (BT H)))) (fun i z => Or.inl (h1 i z)) (fun i z => z.elim (h2 i) (fun w => by rw [w]; exact hCq)) (fun i z => z.elim (h3 i) (fun w => by rw [w]; exact ⟨q0, q1⟩)) (fun x y hx he hd => (hD x y hx he hd).elim Or.inl (fun w => Or.inr w.1))
                rw [← b_or1 q0 (by omega)] at kA
                clear ij ih
                refine Rch.blk' (Rn_mono mt _ _) bl_X0_groupAround_52 (i_istore5 trivial (i_iload_n rfl (i_iload rfl (i_ishr (i_iconst k_1 (i_iand (t_if_eq 71 63 rfl rfl (by first | exact hI_R | exact band_R | exact bor_R | exact bshr_R | exact lcm_R | omega | (simp (disch := omega) only [e]; omega)) (fun hc => ?_) (fun hc => ?_)))))))) <;> (first | (exfalso; omega) | skip)
                repeat' (first
                  | exact kA
                  | (show Rn _ _ _ 3 _ _ _; refine c_X0_isThereOf (by assumption) (by assumption) (by first | omega | exact hI_R) (by first | omega | exact hI_R) (fun _ _ _ _ _ => ?_) (fun _ => ?_))
                  | (show Rn _ _ _ 25 _ _ _; refine c_X0_hearersOf (by assumption) (by assumption) (by omega) (by first | omega | exact hI_R) (fun _ _ _ => ?_) (fun _ => ?_) <;> (first | (exfalso; omega) | skip))
                  | (show Rch _ _ _ _ _ 0 _ _ _; refine Rch.blk' (Rn_mono mt _ _) bl_X0_groupAround_0 (i_iconst k_1 (i_iload_n rfl (i_ishl (i_istore2 trivial (i_iconst k_1 (i_istore3 trivial (t_none ?_))))))))
                  | (show Rch _ _ _ _ _ 6 _ _ _; refine Rch.blk' (Rn_mono mt _ _) bl_X0_groupAround_6 (i_iload_n rfl (i_aload_n rfl (i_gfi rfl (t_ic_ge 97 14 rfl rfl (by first | exact hI_R | exact band_R | exact bor_R | exact bshr_R | exact lcm_R | omega) (by first | exact hI_R | exact band_R | exact bor_R | exact bshr_R | exact lcm_R | omega) (fun hc => ?_) (fun hc => ?_))))) <;> (first | (exfalso; omega) | skip))
                  | (show Rch _ _ _ _ _ 14 _ _ _; refine Rch.blk' (Rn_mono mt _ _) bl_X0_groupAround_14 (i_iconst k_0 (i_istore4 trivial (t_none ?_))))
                  | (show Rch _ _ _ _ _ 26 _ _ _; refine Rch.blk' (Rn_mono mt _ _) bl_X0_groupAround_26 (i_aload_n rfl (i_iload rfl (i_aload_n rfl (i_gfr rfl (i_iload_n rfl (i_iald (n := 10) rfl (by omega) (by omega) (by omega) (t_cv3 (Rn_mono mt _ _) 38 rfl (Nat.le_of_ble_eq_true rfl) ?_))))))))
                  | (show Rch _ _ _ _ _ 38 _ _ _; refine Rch.blk' (Rn_mono mt _ _) bl_X0_groupAround_38 (t_if_eq 51 41 rfl rfl (by first | exact hI_R | exact band_R | exact bor_R | exact bshr_R | exact lcm_R | omega) (fun hc => ?_) (fun hc => ?_)) <;> (first | (exfalso; omega) | skip))
                  | (show Rch _ _ _ _ _ 41 _ _ _; refine Rch.blk' (Rn_mono mt _ _) bl_X0_groupAround_41 (i_aload_n rfl (i_iload rfl (i_iconst k_0 (t_cv3 (Rn_mono mt _ _) 48 rfl (Nat.le_of_ble_eq_true rfl) ?_)))))
                  | (show Rch _ _ _ _ _ 48 _ _ _; refine Rch.blk' (Rn_mono mt _ _) bl_X0_groupAround_48 (t_goto 52 rfl ?_))
                  | (show Rch _ _ _ _ _ 51 _ _ _; refine Rch.blk' (Rn_mono mt _ _) bl_X0_groupAround_51 (i_iconst k_0 (t_none ?_)))
                  | (show Rch _ _ _ _ _ 52 _ _ _; refine Rch.blk' (Rn_mono mt _ _) bl_X0_groupAround_52 (i_istore5 trivial (i_iload_n rfl (i_iload rfl (i_ishr (i_iconst k_1 (i_iand (t_if_eq 71 63 rfl rfl (by first | exact hI_R | exact band_R | exact bor_R | exact bshr_R | exact lcm_R | omega) (fun hc => ?_) (fun hc => ?_)))))))) <;> (first | (exfalso; omega) | skip))
                  | (show Rch _ _ _ _ _ 63 _ _ _; refine Rch.blk' (Rn_mono mt _ _) bl_X0_groupAround_63 (i_iload_n rfl (i_iload rfl (i_ior (i_istore2 trivial (t_goto 85 rfl ?_))))))
                  | (show Rch _ _ _ _ _ 71 _ _ _; refine Rch.blk' (Rn_mono mt _ _) bl_X0_groupAround_71 (i_iload_n rfl (i_iload rfl (i_iand (t_if_eq 85 78 rfl rfl (by first | exact hI_R | exact band_R | exact bor_R | exact bshr_R | exact lcm_R | omega) (fun hc => ?_) (fun hc => ?_))))) <;> (first | (exfalso; omega) | skip))
                  | (show Rch _ _ _ _ _ 78 _ _ _; refine Rch.blk' (Rn_mono mt _ _) bl_X0_groupAround_78 (i_iload_n rfl (i_iconst k_1 (i_iload rfl (i_ishl (i_ior (i_istore2 trivial (t_none ?_))))))))
                  | (show Rch _ _ _ _ _ 85 _ _ _; refine Rch.blk' (Rn_mono mt _ _) bl_X0_groupAround_85 (i_iinc4 trivial k_1 (t_goto 17 rfl ?_)))
                  | (show Rch _ _ _ _ _ 91 _ _ _; refine Rch.blk' (Rn_mono mt _ _) bl_X0_groupAround_91 (i_iinc3 trivial k_1 (t_goto 6 rfl ?_)))
                  | (show Rch _ _ _ _ _ 97 _ _ _; refine Rch.blk' (Rn_mono mt _ _) bl_X0_groupAround_97 (i_iload_n rfl (t_iret ?_))))
              · have e3 : band (BT P) (BT H) = 0 := by
                  rw [b_and]
                  exact BT_z.mpr (fun i i0 i1 i2 => hZ ⟨i, i0, i1, i2⟩)
                have kA := ij P (some (ai (I (BT H)))) h1 h2 h3 (fun x y hx he hd => (hD x y hx he hd).elim id (fun w => absurd ⟨x, w.2.2.2.1, w.2.2.2.2, w.2.1, w.2.2.1⟩ hZ))
                clear ij ih
                refine Rch.blk' (Rn_mono mt _ _) bl_X0_groupAround_52 (i_istore5 trivial (i_iload_n rfl (i_iload rfl (i_ishr (i_iconst k_1 (i_iand (t_if_eq 71 63 rfl rfl (by first | exact hI_R | exact band_R | exact bor_R | exact bshr_R | exact lcm_R | omega | (simp (disch := omega) only [e]; omega)) (fun hc => ?_) (fun hc => ?_)))))))) <;> (first | (exfalso; omega) | skip)
                repeat' (first
                  | exact kA
                  | (show Rn _ _ _ 3 _ _ _; refine c_X0_isThereOf (by assumption) (by assumption) (by first | omega | exact hI_R) (by first | omega | exact hI_R) (fun _ _ _ _ _ => ?_) (fun _ => ?_))
                  | (show Rn _ _ _ 25 _ _ _; refine c_X0_hearersOf (by assumption) (by assumption) (by omega) (by first | omega | exact hI_R) (fun _ _ _ => ?_) (fun _ => ?_) <;> (first | (exfalso; omega) | skip))
                  | (show Rch _ _ _ _ _ 0 _ _ _; refine Rch.blk' (Rn_mono mt _ _) bl_X0_groupAround_0 (i_iconst k_1 (i_iload_n rfl (i_ishl (i_istore2 trivial (i_iconst k_1 (i_istore3 trivial (t_none ?_))))))))
                  | (show Rch _ _ _ _ _ 6 _ _ _; refine Rch.blk' (Rn_mono mt _ _) bl_X0_groupAround_6 (i_iload_n rfl (i_aload_n rfl (i_gfi rfl (t_ic_ge 97 14 rfl rfl (by first | exact hI_R | exact band_R | exact bor_R | exact bshr_R | exact lcm_R | omega | (simp (disch := omega) only [e3]; omega)) (by first | exact hI_R | exact band_R | exact bor_R | exact bshr_R | exact lcm_R | omega | (simp (disch := omega) only [e3]; omega)) (fun hc => ?_) (fun hc => ?_))))) <;> (try (simp (disch := omega) only [e3] at hc ⊢)) <;> (first | (exfalso; omega) | skip))
                  | (show Rch _ _ _ _ _ 14 _ _ _; refine Rch.blk' (Rn_mono mt _ _) bl_X0_groupAround_14 (i_iconst k_0 (i_istore4 trivial (t_none ?_))))
                  | (show Rch _ _ _ _ _ 26 _ _ _; refine Rch.blk' (Rn_mono mt _ _) bl_X0_groupAround_26 (i_aload_n rfl (i_iload rfl (i_aload_n rfl (i_gfr rfl (i_iload_n rfl (i_iald (n := 10) rfl (by first | omega | (simp (disch := omega) only [e3]; omega)) (by first | omega | (simp (disch := omega) only [e3]; omega)) (by first | omega | (simp (disch := omega) only [e3]; omega)) (t_cv3 (Rn_mono mt _ _) 38 rfl (Nat.le_of_ble_eq_true rfl) ?_))))))) <;> (try (simp (disch := omega) only [e3])))
                  | (show Rch _ _ _ _ _ 38 _ _ _; refine Rch.blk' (Rn_mono mt _ _) bl_X0_groupAround_38 (t_if_eq 51 41 rfl rfl (by first | exact hI_R | exact band_R | exact bor_R | exact bshr_R | exact lcm_R | omega | (simp (disch := omega) only [e3]; omega)) (fun hc => ?_) (fun hc => ?_)) <;> (first | (exfalso; omega) | skip))
                  | (show Rch _ _ _ _ _ 41 _ _ _; refine Rch.blk' (Rn_mono mt _ _) bl_X0_groupAround_41 (i_aload_n rfl (i_iload rfl (i_iconst k_0 (t_cv3 (Rn_mono mt _ _) 48 rfl (Nat.le_of_ble_eq_true rfl) ?_)))))
                  | (show Rch _ _ _ _ _ 48 _ _ _; refine Rch.blk' (Rn_mono mt _ _) bl_X0_groupAround_48 (t_goto 52 rfl ?_))
                  | (show Rch _ _ _ _ _ 51 _ _ _; refine Rch.blk' (Rn_mono mt _ _) bl_X0_groupAround_51 (i_iconst k_0 (t_none ?_)))
                  | (show Rch _ _ _ _ _ 52 _ _ _; refine Rch.blk' (Rn_mono mt _ _) bl_X0_groupAround_52 (i_istore5 trivial (i_iload_n rfl (i_iload rfl (i_ishr (i_iconst k_1 (i_iand (t_if_eq 71 63 rfl rfl (by first | exact hI_R | exact band_R | exact bor_R | exact bshr_R | exact lcm_R | omega | (simp (disch := omega) only [e3]; omega)) (fun hc => ?_) (fun hc => ?_)))))))) <;> (first | (exfalso; omega) | skip))
                  | (show Rch _ _ _ _ _ 63 _ _ _; refine Rch.blk' (Rn_mono mt _ _) bl_X0_groupAround_63 (i_iload_n rfl (i_iload rfl (i_ior (i_istore2 trivial (t_goto 85 rfl ?_))))))
                  | (show Rch _ _ _ _ _ 71 _ _ _; refine Rch.blk' (Rn_mono mt _ _) bl_X0_groupAround_71 (i_iload_n rfl (i_iload rfl (i_iand (t_if_eq 85 78 rfl rfl (by first | exact hI_R | exact band_R | exact bor_R | exact bshr_R | exact lcm_R | omega | (simp (disch := omega) only [e3]; omega)) (fun hc => ?_) (fun hc => ?_))))) <;> (first | (exfalso; omega) | skip))
                  | (show Rch _ _ _ _ _ 78 _ _ _; refine Rch.blk' (Rn_mono mt _ _) bl_X0_groupAround_78 (i_iload_n rfl (i_iconst k_1 (i_iload rfl (i_ishl (i_ior (i_istore2 trivial (t_none ?_))))))))
                  | (show Rch _ _ _ _ _ 85 _ _ _; refine Rch.blk' (Rn_mono mt _ _) bl_X0_groupAround_85 (i_iinc4 trivial k_1 (t_goto 17 rfl ?_)))
                  | (show Rch _ _ _ _ _ 91 _ _ _; refine Rch.blk' (Rn_mono mt _ _) bl_X0_groupAround_91 (i_iinc3 trivial k_1 (t_goto 6 rfl ?_)))
                  | (show Rch _ _ _ _ _ 97 _ _ _; refine Rch.blk' (Rn_mono mt _ _) bl_X0_groupAround_97 (i_iload_n rfl (t_iret ?_))))
          have hm1 : OC G s q → Rch bX0_groupAround (Rn mt L (d + 3)) L (fun _ _ _ _ => False) Q 52 [some (ar 0 b), some (ai (I p)), some (ai (I (BT P))), some (ai (I r)), some (ai (I q)), u] [ai (I (BT (HS G 0 q)))] h := fun c => hmid (HS G 0 q) (fun i _ _ => ⟨fun z => ⟨c, z⟩, fun z => z.2⟩)
          have hm0 : ¬ OC G s q → Rch bX0_groupAround (Rn mt L (d + 3)) L (fun _ _ _ _ => False) Q 52 [some (ar 0 b), some (ai (I p)), some (ai (I (BT P))), some (ai (I r)), some (ai (I q)), u] [ai (I 0)] h := fun c => by
            rw [← BT_emp]
            exact hmid (fun _ => False) (fun i _ _ => ⟨False.elim, fun z => c z.1⟩)
          clear hmid ij ih
          refine Rch.blk' (Rn_mono mt _ _) bl_X0_groupAround_17 (i_iload rfl (i_aload_n rfl (i_gfi rfl (t_ic_ge 91 26 rfl rfl (by first | exact hI_R | exact band_R | exact bor_R | exact bshr_R | exact lcm_R | omega | (simp (disch := omega) only [e_n]; omega)) (by first | exact hI_R | exact band_R | exact bor_R | exact bshr_R | exact lcm_R | omega | (simp (disch := omega) only [e_n]; omega)) (fun hc => ?_) (fun hc => ?_))))) <;> (try (simp (disch := omega) only [e_n] at hc ⊢)) <;> (first | (exfalso; omega) | skip)
          refine Rch.blk' (Rn_mono mt _ _) bl_X0_groupAround_26 (i_aload_n rfl (i_iload rfl (i_aload_n rfl (i_gfr rfl (i_iload_n rfl (i_iald (n := 10) rfl (by first | omega | (simp (disch := omega) only [e_s]; omega)) (by first | omega | (simp (disch := omega) only [e_s]; omega)) (by first | omega | (simp (disch := omega) only [e_s]; omega)) (t_cv3 (Rn_mono mt _ _) 38 rfl (Nat.le_of_ble_eq_true rfl) ?_))))))) <;> (try (simp (disch := omega) only [e_s]))
          refine c_X0_isThereOf hG hO ⟨by omega, by omega⟩ ⟨by omega, by omega⟩ (fun _ _ c1 _ c2 => ?_) (fun c => ?_)
          · skip
            refine Rch.blk' (Rn_mono mt _ _) bl_X0_groupAround_38 (t_if_eq 51 41 rfl rfl (by first | exact hI_R | exact band_R | exact bor_R | exact bshr_R | exact lcm_R | omega) (fun hc => ?_) (fun hc => ?_)) <;> (first | (exfalso; omega) | skip)
            refine Rch.blk' (Rn_mono mt _ _) bl_X0_groupAround_41 (i_aload_n rfl (i_iload rfl (i_iconst k_0 (t_cv3 (Rn_mono mt _ _) 48 rfl (Nat.le_of_ble_eq_true rfl) ?_))))
            refine c_X0_hearersOf (ra := 0) hG hO (Or.inl rfl) ⟨by omega, by omega⟩ (fun _ _ _ => ?_) (fun z => absurd ⟨q0, q1, c2⟩ z)
            have hm := hm1 ⟨c1, c2⟩
            repeat' (first
              | exact hm
              | (show Rn _ _ _ 3 _ _ _; refine c_X0_isThereOf (by assumption) (by assumption) (by first | omega | exact hI_R) (by first | omega | exact hI_R) (fun _ _ _ _ _ => ?_) (fun _ => ?_))
              | (show Rn _ _ _ 25 _ _ _; refine c_X0_hearersOf (by assumption) (by assumption) (by omega) (by first | omega | exact hI_R) (fun _ _ _ => ?_) (fun _ => ?_) <;> (first | (exfalso; omega) | skip))
              | (show Rch _ _ _ _ _ 0 _ _ _; refine Rch.blk' (Rn_mono mt _ _) bl_X0_groupAround_0 (i_iconst k_1 (i_iload_n rfl (i_ishl (i_istore2 trivial (i_iconst k_1 (i_istore3 trivial (t_none ?_))))))))
              | (show Rch _ _ _ _ _ 6 _ _ _; refine Rch.blk' (Rn_mono mt _ _) bl_X0_groupAround_6 (i_iload_n rfl (i_aload_n rfl (i_gfi rfl (t_ic_ge 97 14 rfl rfl (by first | exact hI_R | exact band_R | exact bor_R | exact bshr_R | exact lcm_R | omega) (by first | exact hI_R | exact band_R | exact bor_R | exact bshr_R | exact lcm_R | omega) (fun hc => ?_) (fun hc => ?_))))) <;> (first | (exfalso; omega) | skip))
              | (show Rch _ _ _ _ _ 14 _ _ _; refine Rch.blk' (Rn_mono mt _ _) bl_X0_groupAround_14 (i_iconst k_0 (i_istore4 trivial (t_none ?_))))
              | (show Rch _ _ _ _ _ 17 _ _ _; refine Rch.blk' (Rn_mono mt _ _) bl_X0_groupAround_17 (i_iload rfl (i_aload_n rfl (i_gfi rfl (t_ic_ge 91 26 rfl rfl (by first | exact hI_R | exact band_R | exact bor_R | exact bshr_R | exact lcm_R | omega) (by first | exact hI_R | exact band_R | exact bor_R | exact bshr_R | exact lcm_R | omega) (fun hc => ?_) (fun hc => ?_))))) <;> (first | (exfalso; omega) | skip))
              | (show Rch _ _ _ _ _ 26 _ _ _; refine Rch.blk' (Rn_mono mt _ _) bl_X0_groupAround_26 (i_aload_n rfl (i_iload rfl (i_aload_n rfl (i_gfr rfl (i_iload_n rfl (i_iald (n := 10) rfl (by omega) (by omega) (by omega) (t_cv3 (Rn_mono mt _ _) 38 rfl (Nat.le_of_ble_eq_true rfl) ?_))))))))
              | (show Rch _ _ _ _ _ 38 _ _ _; refine Rch.blk' (Rn_mono mt _ _) bl_X0_groupAround_38 (t_if_eq 51 41 rfl rfl (by first | exact hI_R | exact band_R | exact bor_R | exact bshr_R | exact lcm_R | omega) (fun hc => ?_) (fun hc => ?_)) <;> (first | (exfalso; omega) | skip))
              | (show Rch _ _ _ _ _ 41 _ _ _; refine Rch.blk' (Rn_mono mt _ _) bl_X0_groupAround_41 (i_aload_n rfl (i_iload rfl (i_iconst k_0 (t_cv3 (Rn_mono mt _ _) 48 rfl (Nat.le_of_ble_eq_true rfl) ?_)))))
              | (show Rch _ _ _ _ _ 48 _ _ _; refine Rch.blk' (Rn_mono mt _ _) bl_X0_groupAround_48 (t_goto 52 rfl ?_))
              | (show Rch _ _ _ _ _ 51 _ _ _; refine Rch.blk' (Rn_mono mt _ _) bl_X0_groupAround_51 (i_iconst k_0 (t_none ?_)))
              | (show Rch _ _ _ _ _ 63 _ _ _; refine Rch.blk' (Rn_mono mt _ _) bl_X0_groupAround_63 (i_iload_n rfl (i_iload rfl (i_ior (i_istore2 trivial (t_goto 85 rfl ?_))))))
              | (show Rch _ _ _ _ _ 71 _ _ _; refine Rch.blk' (Rn_mono mt _ _) bl_X0_groupAround_71 (i_iload_n rfl (i_iload rfl (i_iand (t_if_eq 85 78 rfl rfl (by first | exact hI_R | exact band_R | exact bor_R | exact bshr_R | exact lcm_R | omega) (fun hc => ?_) (fun hc => ?_))))) <;> (first | (exfalso; omega) | skip))
              | (show Rch _ _ _ _ _ 78 _ _ _; refine Rch.blk' (Rn_mono mt _ _) bl_X0_groupAround_78 (i_iload_n rfl (i_iconst k_1 (i_iload rfl (i_ishl (i_ior (i_istore2 trivial (t_none ?_))))))))
              | (show Rch _ _ _ _ _ 85 _ _ _; refine Rch.blk' (Rn_mono mt _ _) bl_X0_groupAround_85 (i_iinc4 trivial k_1 (t_goto 17 rfl ?_)))
              | (show Rch _ _ _ _ _ 91 _ _ _; refine Rch.blk' (Rn_mono mt _ _) bl_X0_groupAround_91 (i_iinc3 trivial k_1 (t_goto 6 rfl ?_)))
              | (show Rch _ _ _ _ _ 97 _ _ _; refine Rch.blk' (Rn_mono mt _ _) bl_X0_groupAround_97 (i_iload_n rfl (t_iret ?_))))
          · have hm := hm0 (fun z => c ⟨q0, q1, z.1, z.2⟩)
            repeat' (first
              | exact hm
              | (show Rn _ _ _ 3 _ _ _; refine c_X0_isThereOf (by assumption) (by assumption) (by first | omega | exact hI_R) (by first | omega | exact hI_R) (fun _ _ _ _ _ => ?_) (fun _ => ?_))
              | (show Rn _ _ _ 25 _ _ _; refine c_X0_hearersOf (by assumption) (by assumption) (by omega) (by first | omega | exact hI_R) (fun _ _ _ => ?_) (fun _ => ?_) <;> (first | (exfalso; omega) | skip))
              | (show Rch _ _ _ _ _ 0 _ _ _; refine Rch.blk' (Rn_mono mt _ _) bl_X0_groupAround_0 (i_iconst k_1 (i_iload_n rfl (i_ishl (i_istore2 trivial (i_iconst k_1 (i_istore3 trivial (t_none ?_))))))))
              | (show Rch _ _ _ _ _ 6 _ _ _; refine Rch.blk' (Rn_mono mt _ _) bl_X0_groupAround_6 (i_iload_n rfl (i_aload_n rfl (i_gfi rfl (t_ic_ge 97 14 rfl rfl (by first | exact hI_R | exact band_R | exact bor_R | exact bshr_R | exact lcm_R | omega) (by first | exact hI_R | exact band_R | exact bor_R | exact bshr_R | exact lcm_R | omega) (fun hc => ?_) (fun hc => ?_))))) <;> (first | (exfalso; omega) | skip))
              | (show Rch _ _ _ _ _ 14 _ _ _; refine Rch.blk' (Rn_mono mt _ _) bl_X0_groupAround_14 (i_iconst k_0 (i_istore4 trivial (t_none ?_))))
              | (show Rch _ _ _ _ _ 17 _ _ _; refine Rch.blk' (Rn_mono mt _ _) bl_X0_groupAround_17 (i_iload rfl (i_aload_n rfl (i_gfi rfl (t_ic_ge 91 26 rfl rfl (by first | exact hI_R | exact band_R | exact bor_R | exact bshr_R | exact lcm_R | omega) (by first | exact hI_R | exact band_R | exact bor_R | exact bshr_R | exact lcm_R | omega) (fun hc => ?_) (fun hc => ?_))))) <;> (first | (exfalso; omega) | skip))
              | (show Rch _ _ _ _ _ 26 _ _ _; refine Rch.blk' (Rn_mono mt _ _) bl_X0_groupAround_26 (i_aload_n rfl (i_iload rfl (i_aload_n rfl (i_gfr rfl (i_iload_n rfl (i_iald (n := 10) rfl (by omega) (by omega) (by omega) (t_cv3 (Rn_mono mt _ _) 38 rfl (Nat.le_of_ble_eq_true rfl) ?_))))))))
              | (show Rch _ _ _ _ _ 38 _ _ _; refine Rch.blk' (Rn_mono mt _ _) bl_X0_groupAround_38 (t_if_eq 51 41 rfl rfl (by first | exact hI_R | exact band_R | exact bor_R | exact bshr_R | exact lcm_R | omega) (fun hc => ?_) (fun hc => ?_)) <;> (first | (exfalso; omega) | skip))
              | (show Rch _ _ _ _ _ 41 _ _ _; refine Rch.blk' (Rn_mono mt _ _) bl_X0_groupAround_41 (i_aload_n rfl (i_iload rfl (i_iconst k_0 (t_cv3 (Rn_mono mt _ _) 48 rfl (Nat.le_of_ble_eq_true rfl) ?_)))))
              | (show Rch _ _ _ _ _ 48 _ _ _; refine Rch.blk' (Rn_mono mt _ _) bl_X0_groupAround_48 (t_goto 52 rfl ?_))
              | (show Rch _ _ _ _ _ 51 _ _ _; refine Rch.blk' (Rn_mono mt _ _) bl_X0_groupAround_51 (i_iconst k_0 (t_none ?_)))
              | (show Rch _ _ _ _ _ 63 _ _ _; refine Rch.blk' (Rn_mono mt _ _) bl_X0_groupAround_63 (i_iload_n rfl (i_iload rfl (i_ior (i_istore2 trivial (t_goto 85 rfl ?_))))))
              | (show Rch _ _ _ _ _ 71 _ _ _; refine Rch.blk' (Rn_mono mt _ _) bl_X0_groupAround_71 (i_iload_n rfl (i_iload rfl (i_iand (t_if_eq 85 78 rfl rfl (by first | exact hI_R | exact band_R | exact bor_R | exact bshr_R | exact lcm_R | omega) (fun hc => ?_) (fun hc => ?_))))) <;> (first | (exfalso; omega) | skip))
              | (show Rch _ _ _ _ _ 78 _ _ _; refine Rch.blk' (Rn_mono mt _ _) bl_X0_groupAround_78 (i_iload_n rfl (i_iconst k_1 (i_iload rfl (i_ishl (i_ior (i_istore2 trivial (t_none ?_))))))))
              | (show Rch _ _ _ _ _ 85 _ _ _; refine Rch.blk' (Rn_mono mt _ _) bl_X0_groupAround_85 (i_iinc4 trivial k_1 (t_goto 17 rfl ?_)))
              | (show Rch _ _ _ _ _ 91 _ _ _; refine Rch.blk' (Rn_mono mt _ _) bl_X0_groupAround_91 (i_iinc3 trivial k_1 (t_goto 6 rfl ?_)))
              | (show Rch _ _ _ _ _ 97 _ _ _; refine Rch.blk' (Rn_mono mt _ _) bl_X0_groupAround_97 (i_iload_n rfl (t_iret ?_))))
        · obtain rfl : q = nn G := by omega
          have kk := ih P (some (ai (I (nn G)))) u (gInv_up g_n.1 hS h1 h2 h3 (fun x y hx he => h4 x y hx he (he.2.2.elim (fun c => Or.inr ⟨c, he.2.1.2.1⟩) (fun c => Or.inl ⟨c, he.1.2.1⟩))))
          clear ij ih
          refine Rch.blk' (Rn_mono mt _ _) bl_X0_groupAround_17 (i_iload rfl (i_aload_n rfl (i_gfi rfl (t_ic_ge 91 26 rfl rfl (by first | exact hI_R | exact band_R | exact bor_R | exact bshr_R | exact lcm_R | omega | (simp (disch := omega) only [e_n]; omega)) (by first | exact hI_R | exact band_R | exact bor_R | exact bshr_R | exact lcm_R | omega | (simp (disch := omega) only [e_n]; omega)) (fun hc => ?_) (fun hc => ?_))))) <;> (try (simp (disch := omega) only [e_n] at hc ⊢)) <;> (first | (exfalso; omega) | skip)
          repeat' (first
            | exact kk
            | (show Rn _ _ _ 3 _ _ _; refine c_X0_isThereOf (by assumption) (by assumption) (by first | omega | exact hI_R) (by first | omega | exact hI_R) (fun _ _ _ _ _ => ?_) (fun _ => ?_))
            | (show Rn _ _ _ 25 _ _ _; refine c_X0_hearersOf (by assumption) (by assumption) (by omega) (by first | omega | exact hI_R) (fun _ _ _ => ?_) (fun _ => ?_) <;> (first | (exfalso; omega) | skip))
            | (show Rch _ _ _ _ _ 0 _ _ _; refine Rch.blk' (Rn_mono mt _ _) bl_X0_groupAround_0 (i_iconst k_1 (i_iload_n rfl (i_ishl (i_istore2 trivial (i_iconst k_1 (i_istore3 trivial (t_none ?_))))))))
            | (show Rch _ _ _ _ _ 14 _ _ _; refine Rch.blk' (Rn_mono mt _ _) bl_X0_groupAround_14 (i_iconst k_0 (i_istore4 trivial (t_none ?_))))
            | (show Rch _ _ _ _ _ 26 _ _ _; refine Rch.blk' (Rn_mono mt _ _) bl_X0_groupAround_26 (i_aload_n rfl (i_iload rfl (i_aload_n rfl (i_gfr rfl (i_iload_n rfl (i_iald (n := 10) rfl (by omega) (by omega) (by omega) (t_cv3 (Rn_mono mt _ _) 38 rfl (Nat.le_of_ble_eq_true rfl) ?_))))))))
            | (show Rch _ _ _ _ _ 38 _ _ _; refine Rch.blk' (Rn_mono mt _ _) bl_X0_groupAround_38 (t_if_eq 51 41 rfl rfl (by first | exact hI_R | exact band_R | exact bor_R | exact bshr_R | exact lcm_R | omega) (fun hc => ?_) (fun hc => ?_)) <;> (first | (exfalso; omega) | skip))
            | (show Rch _ _ _ _ _ 41 _ _ _; refine Rch.blk' (Rn_mono mt _ _) bl_X0_groupAround_41 (i_aload_n rfl (i_iload rfl (i_iconst k_0 (t_cv3 (Rn_mono mt _ _) 48 rfl (Nat.le_of_ble_eq_true rfl) ?_)))))
            | (show Rch _ _ _ _ _ 48 _ _ _; refine Rch.blk' (Rn_mono mt _ _) bl_X0_groupAround_48 (t_goto 52 rfl ?_))
            | (show Rch _ _ _ _ _ 51 _ _ _; refine Rch.blk' (Rn_mono mt _ _) bl_X0_groupAround_51 (i_iconst k_0 (t_none ?_)))
            | (show Rch _ _ _ _ _ 52 _ _ _; refine Rch.blk' (Rn_mono mt _ _) bl_X0_groupAround_52 (i_istore5 trivial (i_iload_n rfl (i_iload rfl (i_ishr (i_iconst k_1 (i_iand (t_if_eq 71 63 rfl rfl (by first | exact hI_R | exact band_R | exact bor_R | exact bshr_R | exact lcm_R | omega) (fun hc => ?_) (fun hc => ?_)))))))) <;> (first | (exfalso; omega) | skip))
            | (show Rch _ _ _ _ _ 63 _ _ _; refine Rch.blk' (Rn_mono mt _ _) bl_X0_groupAround_63 (i_iload_n rfl (i_iload rfl (i_ior (i_istore2 trivial (t_goto 85 rfl ?_))))))
            | (show Rch _ _ _ _ _ 71 _ _ _; refine Rch.blk' (Rn_mono mt _ _) bl_X0_groupAround_71 (i_iload_n rfl (i_iload rfl (i_iand (t_if_eq 85 78 rfl rfl (by first | exact hI_R | exact band_R | exact bor_R | exact bshr_R | exact lcm_R | omega) (fun hc => ?_) (fun hc => ?_))))) <;> (first | (exfalso; omega) | skip))
            | (show Rch _ _ _ _ _ 78 _ _ _; refine Rch.blk' (Rn_mono mt _ _) bl_X0_groupAround_78 (i_iload_n rfl (i_iconst k_1 (i_iload rfl (i_ishl (i_ior (i_istore2 trivial (t_none ?_))))))))
            | (show Rch _ _ _ _ _ 85 _ _ _; refine Rch.blk' (Rn_mono mt _ _) bl_X0_groupAround_85 (i_iinc4 trivial k_1 (t_goto 17 rfl ?_)))
            | (show Rch _ _ _ _ _ 91 _ _ _; refine Rch.blk' (Rn_mono mt _ _) bl_X0_groupAround_91 (i_iinc3 trivial k_1 (t_goto 6 rfl ?_)))
            | (show Rch _ _ _ _ _ 97 _ _ _; refine Rch.blk' (Rn_mono mt _ _) bl_X0_groupAround_97 (i_iload_n rfl (t_iret ?_))))
      have i0 := inner 0 (by omega) (by omega) S u2 (fun _ z => z) hS.2.1 hS.2.2.1 (fun x y hx he hd => by
        have a0 := he.1.1
        have b0 := he.2.1.1
        rcases hd with ⟨_, hd⟩ | ⟨_, hd⟩ <;> omega)
      clear inner ih
      refine Rch.blk' (Rn_mono mt _ _) bl_X0_groupAround_6 (i_iload_n rfl (i_aload_n rfl (i_gfi rfl (t_ic_ge 97 14 rfl rfl (by first | exact hI_R | exact band_R | exact bor_R | exact bshr_R | exact lcm_R | omega | (simp (disch := omega) only [e_n]; omega)) (by first | exact hI_R | exact band_R | exact bor_R | exact bshr_R | exact lcm_R | omega | (simp (disch := omega) only [e_n]; omega)) (fun hc => ?_) (fun hc => ?_))))) <;> (try (simp (disch := omega) only [e_n] at hc ⊢)) <;> (first | (exfalso; omega) | skip)
      repeat' (first
        | exact i0
        | (show Rn _ _ _ 3 _ _ _; refine c_X0_isThereOf (by assumption) (by assumption) (by first | omega | exact hI_R) (by first | omega | exact hI_R) (fun _ _ _ _ _ => ?_) (fun _ => ?_))
        | (show Rn _ _ _ 25 _ _ _; refine c_X0_hearersOf (by assumption) (by assumption) (by omega) (by first | omega | exact hI_R) (fun _ _ _ => ?_) (fun _ => ?_) <;> (first | (exfalso; omega) | skip))
        | (show Rch _ _ _ _ _ 0 _ _ _; refine Rch.blk' (Rn_mono mt _ _) bl_X0_groupAround_0 (i_iconst k_1 (i_iload_n rfl (i_ishl (i_istore2 trivial (i_iconst k_1 (i_istore3 trivial (t_none ?_))))))))
        | (show Rch _ _ _ _ _ 14 _ _ _; refine Rch.blk' (Rn_mono mt _ _) bl_X0_groupAround_14 (i_iconst k_0 (i_istore4 trivial (t_none ?_))))
        | (show Rch _ _ _ _ _ 26 _ _ _; refine Rch.blk' (Rn_mono mt _ _) bl_X0_groupAround_26 (i_aload_n rfl (i_iload rfl (i_aload_n rfl (i_gfr rfl (i_iload_n rfl (i_iald (n := 10) rfl (by omega) (by omega) (by omega) (t_cv3 (Rn_mono mt _ _) 38 rfl (Nat.le_of_ble_eq_true rfl) ?_))))))))
        | (show Rch _ _ _ _ _ 38 _ _ _; refine Rch.blk' (Rn_mono mt _ _) bl_X0_groupAround_38 (t_if_eq 51 41 rfl rfl (by first | exact hI_R | exact band_R | exact bor_R | exact bshr_R | exact lcm_R | omega) (fun hc => ?_) (fun hc => ?_)) <;> (first | (exfalso; omega) | skip))
        | (show Rch _ _ _ _ _ 41 _ _ _; refine Rch.blk' (Rn_mono mt _ _) bl_X0_groupAround_41 (i_aload_n rfl (i_iload rfl (i_iconst k_0 (t_cv3 (Rn_mono mt _ _) 48 rfl (Nat.le_of_ble_eq_true rfl) ?_)))))
        | (show Rch _ _ _ _ _ 48 _ _ _; refine Rch.blk' (Rn_mono mt _ _) bl_X0_groupAround_48 (t_goto 52 rfl ?_))
        | (show Rch _ _ _ _ _ 51 _ _ _; refine Rch.blk' (Rn_mono mt _ _) bl_X0_groupAround_51 (i_iconst k_0 (t_none ?_)))
        | (show Rch _ _ _ _ _ 52 _ _ _; refine Rch.blk' (Rn_mono mt _ _) bl_X0_groupAround_52 (i_istore5 trivial (i_iload_n rfl (i_iload rfl (i_ishr (i_iconst k_1 (i_iand (t_if_eq 71 63 rfl rfl (by first | exact hI_R | exact band_R | exact bor_R | exact bshr_R | exact lcm_R | omega) (fun hc => ?_) (fun hc => ?_)))))))) <;> (first | (exfalso; omega) | skip))
        | (show Rch _ _ _ _ _ 63 _ _ _; refine Rch.blk' (Rn_mono mt _ _) bl_X0_groupAround_63 (i_iload_n rfl (i_iload rfl (i_ior (i_istore2 trivial (t_goto 85 rfl ?_))))))
        | (show Rch _ _ _ _ _ 71 _ _ _; refine Rch.blk' (Rn_mono mt _ _) bl_X0_groupAround_71 (i_iload_n rfl (i_iload rfl (i_iand (t_if_eq 85 78 rfl rfl (by first | exact hI_R | exact band_R | exact bor_R | exact bshr_R | exact lcm_R | omega) (fun hc => ?_) (fun hc => ?_))))) <;> (first | (exfalso; omega) | skip))
        | (show Rch _ _ _ _ _ 78 _ _ _; refine Rch.blk' (Rn_mono mt _ _) bl_X0_groupAround_78 (i_iload_n rfl (i_iconst k_1 (i_iload rfl (i_ishl (i_ior (i_istore2 trivial (t_none ?_))))))))
        | (show Rch _ _ _ _ _ 85 _ _ _; refine Rch.blk' (Rn_mono mt _ _) bl_X0_groupAround_85 (i_iinc4 trivial k_1 (t_goto 17 rfl ?_)))
        | (show Rch _ _ _ _ _ 91 _ _ _; refine Rch.blk' (Rn_mono mt _ _) bl_X0_groupAround_91 (i_iinc3 trivial k_1 (t_goto 6 rfl ?_)))
        | (show Rch _ _ _ _ _ 97 _ _ _; refine Rch.blk' (Rn_mono mt _ _) bl_X0_groupAround_97 (i_iload_n rfl (t_iret ?_))))
    · have e := gInv_end hS g_n.1 (by omega)
      rw [← e] at hq
      clear ih
      refine Rch.blk' (Rn_mono mt _ _) bl_X0_groupAround_6 (i_iload_n rfl (i_aload_n rfl (i_gfi rfl (t_ic_ge 97 14 rfl rfl (by first | exact hI_R | exact band_R | exact bor_R | exact bshr_R | exact lcm_R | omega | (simp (disch := omega) only [e_n]; omega)) (by first | exact hI_R | exact band_R | exact bor_R | exact bshr_R | exact lcm_R | omega | (simp (disch := omega) only [e_n]; omega)) (fun hc => ?_) (fun hc => ?_))))) <;> (try (simp (disch := omega) only [e_n] at hc ⊢)) <;> (first | (exfalso; omega) | skip)
      repeat' (first
        | exact hq
        | (show Rn _ _ _ 3 _ _ _; refine c_X0_isThereOf (by assumption) (by assumption) (by first | omega | exact hI_R) (by first | omega | exact hI_R) (fun _ _ _ _ _ => ?_) (fun _ => ?_))
        | (show Rn _ _ _ 25 _ _ _; refine c_X0_hearersOf (by assumption) (by assumption) (by omega) (by first | omega | exact hI_R) (fun _ _ _ => ?_) (fun _ => ?_) <;> (first | (exfalso; omega) | skip))
        | (show Rch _ _ _ _ _ 0 _ _ _; refine Rch.blk' (Rn_mono mt _ _) bl_X0_groupAround_0 (i_iconst k_1 (i_iload_n rfl (i_ishl (i_istore2 trivial (i_iconst k_1 (i_istore3 trivial (t_none ?_))))))))
        | (show Rch _ _ _ _ _ 14 _ _ _; refine Rch.blk' (Rn_mono mt _ _) bl_X0_groupAround_14 (i_iconst k_0 (i_istore4 trivial (t_none ?_))))
        | (show Rch _ _ _ _ _ 26 _ _ _; refine Rch.blk' (Rn_mono mt _ _) bl_X0_groupAround_26 (i_aload_n rfl (i_iload rfl (i_aload_n rfl (i_gfr rfl (i_iload_n rfl (i_iald (n := 10) rfl (by omega) (by omega) (by omega) (t_cv3 (Rn_mono mt _ _) 38 rfl (Nat.le_of_ble_eq_true rfl) ?_))))))))
        | (show Rch _ _ _ _ _ 38 _ _ _; refine Rch.blk' (Rn_mono mt _ _) bl_X0_groupAround_38 (t_if_eq 51 41 rfl rfl (by first | exact hI_R | exact band_R | exact bor_R | exact bshr_R | exact lcm_R | omega) (fun hc => ?_) (fun hc => ?_)) <;> (first | (exfalso; omega) | skip))
        | (show Rch _ _ _ _ _ 41 _ _ _; refine Rch.blk' (Rn_mono mt _ _) bl_X0_groupAround_41 (i_aload_n rfl (i_iload rfl (i_iconst k_0 (t_cv3 (Rn_mono mt _ _) 48 rfl (Nat.le_of_ble_eq_true rfl) ?_)))))
        | (show Rch _ _ _ _ _ 48 _ _ _; refine Rch.blk' (Rn_mono mt _ _) bl_X0_groupAround_48 (t_goto 52 rfl ?_))
        | (show Rch _ _ _ _ _ 51 _ _ _; refine Rch.blk' (Rn_mono mt _ _) bl_X0_groupAround_51 (i_iconst k_0 (t_none ?_)))
        | (show Rch _ _ _ _ _ 52 _ _ _; refine Rch.blk' (Rn_mono mt _ _) bl_X0_groupAround_52 (i_istore5 trivial (i_iload_n rfl (i_iload rfl (i_ishr (i_iconst k_1 (i_iand (t_if_eq 71 63 rfl rfl (by first | exact hI_R | exact band_R | exact bor_R | exact bshr_R | exact lcm_R | omega) (fun hc => ?_) (fun hc => ?_)))))))) <;> (first | (exfalso; omega) | skip))
        | (show Rch _ _ _ _ _ 63 _ _ _; refine Rch.blk' (Rn_mono mt _ _) bl_X0_groupAround_63 (i_iload_n rfl (i_iload rfl (i_ior (i_istore2 trivial (t_goto 85 rfl ?_))))))
        | (show Rch _ _ _ _ _ 71 _ _ _; refine Rch.blk' (Rn_mono mt _ _) bl_X0_groupAround_71 (i_iload_n rfl (i_iload rfl (i_iand (t_if_eq 85 78 rfl rfl (by first | exact hI_R | exact band_R | exact bor_R | exact bshr_R | exact lcm_R | omega) (fun hc => ?_) (fun hc => ?_))))) <;> (first | (exfalso; omega) | skip))
        | (show Rch _ _ _ _ _ 78 _ _ _; refine Rch.blk' (Rn_mono mt _ _) bl_X0_groupAround_78 (i_iload_n rfl (i_iconst k_1 (i_iload rfl (i_ishl (i_ior (i_istore2 trivial (t_none ?_))))))))
        | (show Rch _ _ _ _ _ 85 _ _ _; refine Rch.blk' (Rn_mono mt _ _) bl_X0_groupAround_85 (i_iinc4 trivial k_1 (t_goto 17 rfl ?_)))
        | (show Rch _ _ _ _ _ 91 _ _ _; refine Rch.blk' (Rn_mono mt _ _) bl_X0_groupAround_91 (i_iinc3 trivial k_1 (t_goto 6 rfl ?_)))
        | (show Rch _ _ _ _ _ 97 _ _ _; refine Rch.blk' (Rn_mono mt _ _) bl_X0_groupAround_97 (i_iload_n rfl (t_iret ?_))))
  have kz := key 1 (by omega) (by omega) (fun i => i = p) none none (gInv_0 p0 p1)
  rw [← b_one p0 (by omega)] at kz
  clear key
  repeat' (first
    | exact kz
    | (show Rn _ _ _ 3 _ _ _; refine c_X0_isThereOf (by assumption) (by assumption) (by first | omega | exact hI_R) (by first | omega | exact hI_R) (fun _ _ _ _ _ => ?_) (fun _ => ?_))
    | (show Rn _ _ _ 25 _ _ _; refine c_X0_hearersOf (by assumption) (by assumption) (by omega) (by first | omega | exact hI_R) (fun _ _ _ => ?_) (fun _ => ?_) <;> (first | (exfalso; omega) | skip))
    | (show Rch _ _ _ _ _ 0 _ _ _; refine Rch.blk' (Rn_mono mt _ _) bl_X0_groupAround_0 (i_iconst k_1 (i_iload_n rfl (i_ishl (i_istore2 trivial (i_iconst k_1 (i_istore3 trivial (t_none ?_))))))))
    | (show Rch _ _ _ _ _ 14 _ _ _; refine Rch.blk' (Rn_mono mt _ _) bl_X0_groupAround_14 (i_iconst k_0 (i_istore4 trivial (t_none ?_))))
    | (show Rch _ _ _ _ _ 17 _ _ _; refine Rch.blk' (Rn_mono mt _ _) bl_X0_groupAround_17 (i_iload rfl (i_aload_n rfl (i_gfi rfl (t_ic_ge 91 26 rfl rfl (by first | exact hI_R | exact band_R | exact bor_R | exact bshr_R | exact lcm_R | omega) (by first | exact hI_R | exact band_R | exact bor_R | exact bshr_R | exact lcm_R | omega) (fun hc => ?_) (fun hc => ?_))))) <;> (first | (exfalso; omega) | skip))
    | (show Rch _ _ _ _ _ 26 _ _ _; refine Rch.blk' (Rn_mono mt _ _) bl_X0_groupAround_26 (i_aload_n rfl (i_iload rfl (i_aload_n rfl (i_gfr rfl (i_iload_n rfl (i_iald (n := 10) rfl (by omega) (by omega) (by omega) (t_cv3 (Rn_mono mt _ _) 38 rfl (Nat.le_of_ble_eq_true rfl) ?_))))))))
    | (show Rch _ _ _ _ _ 38 _ _ _; refine Rch.blk' (Rn_mono mt _ _) bl_X0_groupAround_38 (t_if_eq 51 41 rfl rfl (by first | exact hI_R | exact band_R | exact bor_R | exact bshr_R | exact lcm_R | omega) (fun hc => ?_) (fun hc => ?_)) <;> (first | (exfalso; omega) | skip))
    | (show Rch _ _ _ _ _ 41 _ _ _; refine Rch.blk' (Rn_mono mt _ _) bl_X0_groupAround_41 (i_aload_n rfl (i_iload rfl (i_iconst k_0 (t_cv3 (Rn_mono mt _ _) 48 rfl (Nat.le_of_ble_eq_true rfl) ?_)))))
    | (show Rch _ _ _ _ _ 48 _ _ _; refine Rch.blk' (Rn_mono mt _ _) bl_X0_groupAround_48 (t_goto 52 rfl ?_))
    | (show Rch _ _ _ _ _ 51 _ _ _; refine Rch.blk' (Rn_mono mt _ _) bl_X0_groupAround_51 (i_iconst k_0 (t_none ?_)))
    | (show Rch _ _ _ _ _ 52 _ _ _; refine Rch.blk' (Rn_mono mt _ _) bl_X0_groupAround_52 (i_istore5 trivial (i_iload_n rfl (i_iload rfl (i_ishr (i_iconst k_1 (i_iand (t_if_eq 71 63 rfl rfl (by first | exact hI_R | exact band_R | exact bor_R | exact bshr_R | exact lcm_R | omega) (fun hc => ?_) (fun hc => ?_)))))))) <;> (first | (exfalso; omega) | skip))
    | (show Rch _ _ _ _ _ 63 _ _ _; refine Rch.blk' (Rn_mono mt _ _) bl_X0_groupAround_63 (i_iload_n rfl (i_iload rfl (i_ior (i_istore2 trivial (t_goto 85 rfl ?_))))))
    | (show Rch _ _ _ _ _ 71 _ _ _; refine Rch.blk' (Rn_mono mt _ _) bl_X0_groupAround_71 (i_iload_n rfl (i_iload rfl (i_iand (t_if_eq 85 78 rfl rfl (by first | exact hI_R | exact band_R | exact bor_R | exact bshr_R | exact lcm_R | omega) (fun hc => ?_) (fun hc => ?_))))) <;> (first | (exfalso; omega) | skip))
    | (show Rch _ _ _ _ _ 78 _ _ _; refine Rch.blk' (Rn_mono mt _ _) bl_X0_groupAround_78 (i_iload_n rfl (i_iconst k_1 (i_iload rfl (i_ishl (i_ior (i_istore2 trivial (t_none ?_))))))))
    | (show Rch _ _ _ _ _ 85 _ _ _; refine Rch.blk' (Rn_mono mt _ _) bl_X0_groupAround_85 (i_iinc4 trivial k_1 (t_goto 17 rfl ?_)))
    | (show Rch _ _ _ _ _ 91 _ _ _; refine Rch.blk' (Rn_mono mt _ _) bl_X0_groupAround_91 (i_iinc3 trivial k_1 (t_goto 6 rfl ?_)))
    | (show Rch _ _ _ _ _ 97 _ _ _; refine Rch.blk' (Rn_mono mt _ _) bl_X0_groupAround_97 (i_iload_n rfl (t_iret ?_))))
theorem c_X0_groupsOf (hG : RC h b G) (hO : OKB G) {s : Int} (hs : s = 0 ∨ s = 1) (hq : Q (some (ai (I (GNs G s (nn G))))) h) : Rn mt L (d + 5) 38 [ar 0 b, ai (I s)] h Q := by
  refine Rn.intro iX0_groupsOf rfl rfl ?_
  show Rch bX0_groupsOf _ _ _ _ 0 [some (ar 0 b), some (ai (I s)), none, none, none] [] _
  have e_n := hG.n
  have g_n := hO.n
  have key : ∀ k : Int, k ≤ nn G → 0 ≤ k → RH L bX0_groupsOf (d + 4) Q 7 [some (ar 0 b), some (ai (I s)), some (ai (I (GNs G s k))), some (ai (I (BT (GSs G s k)))), some (ai (I k))] h := by
    refine up_ind (fun k hk ih hk0 => ?_)
    by_cases hk1 : k < nn G
    · have ih := ih hk1 (by omega)
      rw [GNs_up hk0] at ih
      have e := b_has (P := GSs G s k) hk0 (show k < 10 by omega)
      by_cases hP : OC G s k ∧ ¬ GSs G s k k
      · rw [ifp_p hP, GSs_1 hk0 hP, ← b_or] at ih
        rw [ifp_n hP.2] at e
        refine Rch.blk' (Rn_mono mt _ _) bl_X0_groupsOf_7 (i_iload rfl (i_aload_n rfl (i_gfi rfl (t_ic_ge 53 16 rfl rfl (by first | exact hI_R | exact band_R | exact bor_R | exact bshr_R | exact lcm_R | omega | (simp (disch := omega) only [e_n]; omega)) (by first | exact hI_R | exact band_R | exact bor_R | exact bshr_R | exact lcm_R | omega | (simp (disch := omega) only [e_n]; omega)) (fun hc => ?_) (fun hc => ?_))))) <;> (try (simp (disch := omega) only [e_n] at hc ⊢)) <;> (first | (exfalso; omega) | skip)
        refine Rch.blk' (Rn_mono mt _ _) bl_X0_groupsOf_16 (i_aload_n rfl (i_iload rfl (i_iload_n rfl (t_cv3 (Rn_mono mt _ _) 23 rfl (Nat.le_of_ble_eq_true rfl) ?_))))
        refine c_X0_isThereOf hG hO ⟨by omega, by omega⟩ ⟨by omega, by omega⟩ (fun _ _ c1 _ c2 => ?_) (fun c => absurd ⟨hk0, hk1, hP.1.1, hP.1.2⟩ c)
        refine Rch.blk' (Rn_mono mt _ _) bl_X0_groupsOf_23 (t_if_eq 47 26 rfl rfl (by first | exact hI_R | exact band_R | exact bor_R | exact bshr_R | exact lcm_R | omega) (fun hc => ?_) (fun hc => ?_)) <;> (first | (exfalso; omega) | skip)
        refine Rch.blk' (Rn_mono mt _ _) bl_X0_groupsOf_26 (i_iload_n rfl (i_iload rfl (i_ishr (i_iconst k_1 (i_iand (t_if_ne 47 35 rfl rfl (by first | exact hI_R | exact band_R | exact bor_R | exact bshr_R | exact lcm_R | omega | (simp (disch := omega) only [e]; omega)) (fun hc => ?_) (fun hc => ?_))))))) <;> (first | (exfalso; omega) | skip)
        refine Rch.blk' (Rn_mono mt _ _) bl_X0_groupsOf_35 (i_iload_n rfl (i_aload_n rfl (i_iload rfl (t_cv2 (Rn_mono mt _ _) 42 rfl (Nat.le_of_ble_eq_true rfl) ?_))))
        refine c_X0_groupAround hG hO hk0 hk1 hP.1 ?_
        repeat' (first
          | exact ih
          | (show Rn _ _ _ 3 _ _ _; refine c_X0_isThereOf (by assumption) (by assumption) (by first | omega | exact hI_R) (by first | omega | exact hI_R) (fun _ _ _ _ _ => ?_) (fun _ => ?_))
          | (show Rch _ _ _ _ _ 0 _ _ _; refine Rch.blk' (Rn_mono mt _ _) bl_X0_groupsOf_0 (i_iconst k_0 (i_istore2 trivial (i_iconst k_0 (i_istore3 trivial (i_iconst k_0 (i_istore4 trivial (t_none ?_))))))))
          | (show Rch _ _ _ _ _ 16 _ _ _; refine Rch.blk' (Rn_mono mt _ _) bl_X0_groupsOf_16 (i_aload_n rfl (i_iload rfl (i_iload_n rfl (t_cv3 (Rn_mono mt _ _) 23 rfl (Nat.le_of_ble_eq_true rfl) ?_)))))
          | (show Rch _ _ _ _ _ 23 _ _ _; refine Rch.blk' (Rn_mono mt _ _) bl_X0_groupsOf_23 (t_if_eq 47 26 rfl rfl (by first | exact hI_R | exact band_R | exact bor_R | exact bshr_R | exact lcm_R | omega) (fun hc => ?_) (fun hc => ?_)) <;> (first | (exfalso; omega) | skip))
          | (show Rch _ _ _ _ _ 26 _ _ _; refine Rch.blk' (Rn_mono mt _ _) bl_X0_groupsOf_26 (i_iload_n rfl (i_iload rfl (i_ishr (i_iconst k_1 (i_iand (t_if_ne 47 35 rfl rfl (by first | exact hI_R | exact band_R | exact bor_R | exact bshr_R | exact lcm_R | omega) (fun hc => ?_) (fun hc => ?_))))))) <;> (first | (exfalso; omega) | skip))
          | (show Rch _ _ _ _ _ 35 _ _ _; refine Rch.blk' (Rn_mono mt _ _) bl_X0_groupsOf_35 (i_iload_n rfl (i_aload_n rfl (i_iload rfl (t_cv2 (Rn_mono mt _ _) 42 rfl (Nat.le_of_ble_eq_true rfl) ?_)))))
          | (show Rch _ _ _ _ _ 42 _ _ _; refine Rch.blk' (Rn_mono mt _ _) bl_X0_groupsOf_42 (i_ior (i_istore3 trivial (i_iinc2 trivial k_1 (t_none ?_)))))
          | (show Rch _ _ _ _ _ 47 _ _ _; refine Rch.blk' (Rn_mono mt _ _) bl_X0_groupsOf_47 (i_iinc4 trivial k_1 (t_goto 7 rfl ?_)))
          | (show Rch _ _ _ _ _ 53 _ _ _; refine Rch.blk' (Rn_mono mt _ _) bl_X0_groupsOf_53 (i_iload_n rfl (t_iret ?_))))
      · rw [ifp_n hP, GSs_0 hk0 hP, Int.add_zero] at ih
        refine Rch.blk' (Rn_mono mt _ _) bl_X0_groupsOf_7 (i_iload rfl (i_aload_n rfl (i_gfi rfl (t_ic_ge 53 16 rfl rfl (by first | exact hI_R | exact band_R | exact bor_R | exact bshr_R | exact lcm_R | omega | (simp (disch := omega) only [e_n]; omega)) (by first | exact hI_R | exact band_R | exact bor_R | exact bshr_R | exact lcm_R | omega | (simp (disch := omega) only [e_n]; omega)) (fun hc => ?_) (fun hc => ?_))))) <;> (try (simp (disch := omega) only [e_n] at hc ⊢)) <;> (first | (exfalso; omega) | skip)
        refine Rch.blk' (Rn_mono mt _ _) bl_X0_groupsOf_16 (i_aload_n rfl (i_iload rfl (i_iload_n rfl (t_cv3 (Rn_mono mt _ _) 23 rfl (Nat.le_of_ble_eq_true rfl) ?_))))
        refine c_X0_isThereOf hG hO ⟨by omega, by omega⟩ ⟨by omega, by omega⟩ (fun _ _ c1 _ c2 => ?_) (fun c => ?_)
        · have hP2 : GSs G s k k := Classical.byContradiction (fun z => hP ⟨⟨c1, c2⟩, z⟩)
          rw [ifp_p hP2] at e
          refine Rch.blk' (Rn_mono mt _ _) bl_X0_groupsOf_23 (t_if_eq 47 26 rfl rfl (by first | exact hI_R | exact band_R | exact bor_R | exact bshr_R | exact lcm_R | omega) (fun hc => ?_) (fun hc => ?_)) <;> (first | (exfalso; omega) | skip)
          refine Rch.blk' (Rn_mono mt _ _) bl_X0_groupsOf_26 (i_iload_n rfl (i_iload rfl (i_ishr (i_iconst k_1 (i_iand (t_if_ne 47 35 rfl rfl (by first | exact hI_R | exact band_R | exact bor_R | exact bshr_R | exact lcm_R | omega | (simp (disch := omega) only [e]; omega)) (fun hc => ?_) (fun hc => ?_))))))) <;> (first | (exfalso; omega) | skip)
          repeat' (first
            | exact ih
            | (show Rn _ _ _ 3 _ _ _; refine c_X0_isThereOf (by assumption) (by assumption) (by first | omega | exact hI_R) (by first | omega | exact hI_R) (fun _ _ _ _ _ => ?_) (fun _ => ?_))
            | (show Rch _ _ _ _ _ 0 _ _ _; refine Rch.blk' (Rn_mono mt _ _) bl_X0_groupsOf_0 (i_iconst k_0 (i_istore2 trivial (i_iconst k_0 (i_istore3 trivial (i_iconst k_0 (i_istore4 trivial (t_none ?_))))))))
            | (show Rch _ _ _ _ _ 16 _ _ _; refine Rch.blk' (Rn_mono mt _ _) bl_X0_groupsOf_16 (i_aload_n rfl (i_iload rfl (i_iload_n rfl (t_cv3 (Rn_mono mt _ _) 23 rfl (Nat.le_of_ble_eq_true rfl) ?_)))))
            | (show Rch _ _ _ _ _ 23 _ _ _; refine Rch.blk' (Rn_mono mt _ _) bl_X0_groupsOf_23 (t_if_eq 47 26 rfl rfl (by first | exact hI_R | exact band_R | exact bor_R | exact bshr_R | exact lcm_R | omega) (fun hc => ?_) (fun hc => ?_)) <;> (first | (exfalso; omega) | skip))
            | (show Rch _ _ _ _ _ 26 _ _ _; refine Rch.blk' (Rn_mono mt _ _) bl_X0_groupsOf_26 (i_iload_n rfl (i_iload rfl (i_ishr (i_iconst k_1 (i_iand (t_if_ne 47 35 rfl rfl (by first | exact hI_R | exact band_R | exact bor_R | exact bshr_R | exact lcm_R | omega) (fun hc => ?_) (fun hc => ?_))))))) <;> (first | (exfalso; omega) | skip))
            | (show Rch _ _ _ _ _ 35 _ _ _; refine Rch.blk' (Rn_mono mt _ _) bl_X0_groupsOf_35 (i_iload_n rfl (i_aload_n rfl (i_iload rfl (t_cv2 (Rn_mono mt _ _) 42 rfl (Nat.le_of_ble_eq_true rfl) ?_)))))
            | (show Rch _ _ _ _ _ 42 _ _ _; refine Rch.blk' (Rn_mono mt _ _) bl_X0_groupsOf_42 (i_ior (i_istore3 trivial (i_iinc2 trivial k_1 (t_none ?_)))))
            | (show Rch _ _ _ _ _ 47 _ _ _; refine Rch.blk' (Rn_mono mt _ _) bl_X0_groupsOf_47 (i_iinc4 trivial k_1 (t_goto 7 rfl ?_)))
            | (show Rch _ _ _ _ _ 53 _ _ _; refine Rch.blk' (Rn_mono mt _ _) bl_X0_groupsOf_53 (i_iload_n rfl (t_iret ?_))))
        · skip
          repeat' (first
            | exact ih
            | (show Rn _ _ _ 3 _ _ _; refine c_X0_isThereOf (by assumption) (by assumption) (by first | omega | exact hI_R) (by first | omega | exact hI_R) (fun _ _ _ _ _ => ?_) (fun _ => ?_))
            | (show Rch _ _ _ _ _ 0 _ _ _; refine Rch.blk' (Rn_mono mt _ _) bl_X0_groupsOf_0 (i_iconst k_0 (i_istore2 trivial (i_iconst k_0 (i_istore3 trivial (i_iconst k_0 (i_istore4 trivial (t_none ?_))))))))
            | (show Rch _ _ _ _ _ 16 _ _ _; refine Rch.blk' (Rn_mono mt _ _) bl_X0_groupsOf_16 (i_aload_n rfl (i_iload rfl (i_iload_n rfl (t_cv3 (Rn_mono mt _ _) 23 rfl (Nat.le_of_ble_eq_true rfl) ?_)))))
            | (show Rch _ _ _ _ _ 23 _ _ _; refine Rch.blk' (Rn_mono mt _ _) bl_X0_groupsOf_23 (t_if_eq 47 26 rfl rfl (by first | exact hI_R | exact band_R | exact bor_R | exact bshr_R | exact lcm_R | omega) (fun hc => ?_) (fun hc => ?_)) <;> (first | (exfalso; omega) | skip))
            | (show Rch _ _ _ _ _ 26 _ _ _; refine Rch.blk' (Rn_mono mt _ _) bl_X0_groupsOf_26 (i_iload_n rfl (i_iload rfl (i_ishr (i_iconst k_1 (i_iand (t_if_ne 47 35 rfl rfl (by first | exact hI_R | exact band_R | exact bor_R | exact bshr_R | exact lcm_R | omega) (fun hc => ?_) (fun hc => ?_))))))) <;> (first | (exfalso; omega) | skip))
            | (show Rch _ _ _ _ _ 35 _ _ _; refine Rch.blk' (Rn_mono mt _ _) bl_X0_groupsOf_35 (i_iload_n rfl (i_aload_n rfl (i_iload rfl (t_cv2 (Rn_mono mt _ _) 42 rfl (Nat.le_of_ble_eq_true rfl) ?_)))))
            | (show Rch _ _ _ _ _ 42 _ _ _; refine Rch.blk' (Rn_mono mt _ _) bl_X0_groupsOf_42 (i_ior (i_istore3 trivial (i_iinc2 trivial k_1 (t_none ?_)))))
            | (show Rch _ _ _ _ _ 47 _ _ _; refine Rch.blk' (Rn_mono mt _ _) bl_X0_groupsOf_47 (i_iinc4 trivial k_1 (t_goto 7 rfl ?_)))
            | (show Rch _ _ _ _ _ 53 _ _ _; refine Rch.blk' (Rn_mono mt _ _) bl_X0_groupsOf_53 (i_iload_n rfl (t_iret ?_))))
    · obtain rfl : k = nn G := by omega
      clear ih
      refine Rch.blk' (Rn_mono mt _ _) bl_X0_groupsOf_7 (i_iload rfl (i_aload_n rfl (i_gfi rfl (t_ic_ge 53 16 rfl rfl (by first | exact hI_R | exact band_R | exact bor_R | exact bshr_R | exact lcm_R | omega | (simp (disch := omega) only [e_n]; omega)) (by first | exact hI_R | exact band_R | exact bor_R | exact bshr_R | exact lcm_R | omega | (simp (disch := omega) only [e_n]; omega)) (fun hc => ?_) (fun hc => ?_))))) <;> (try (simp (disch := omega) only [e_n] at hc ⊢)) <;> (first | (exfalso; omega) | skip)
      repeat' (first
        | exact hq
        | (show Rn _ _ _ 3 _ _ _; refine c_X0_isThereOf (by assumption) (by assumption) (by first | omega | exact hI_R) (by first | omega | exact hI_R) (fun _ _ _ _ _ => ?_) (fun _ => ?_))
        | (show Rch _ _ _ _ _ 0 _ _ _; refine Rch.blk' (Rn_mono mt _ _) bl_X0_groupsOf_0 (i_iconst k_0 (i_istore2 trivial (i_iconst k_0 (i_istore3 trivial (i_iconst k_0 (i_istore4 trivial (t_none ?_))))))))
        | (show Rch _ _ _ _ _ 16 _ _ _; refine Rch.blk' (Rn_mono mt _ _) bl_X0_groupsOf_16 (i_aload_n rfl (i_iload rfl (i_iload_n rfl (t_cv3 (Rn_mono mt _ _) 23 rfl (Nat.le_of_ble_eq_true rfl) ?_)))))
        | (show Rch _ _ _ _ _ 23 _ _ _; refine Rch.blk' (Rn_mono mt _ _) bl_X0_groupsOf_23 (t_if_eq 47 26 rfl rfl (by first | exact hI_R | exact band_R | exact bor_R | exact bshr_R | exact lcm_R | omega) (fun hc => ?_) (fun hc => ?_)) <;> (first | (exfalso; omega) | skip))
        | (show Rch _ _ _ _ _ 26 _ _ _; refine Rch.blk' (Rn_mono mt _ _) bl_X0_groupsOf_26 (i_iload_n rfl (i_iload rfl (i_ishr (i_iconst k_1 (i_iand (t_if_ne 47 35 rfl rfl (by first | exact hI_R | exact band_R | exact bor_R | exact bshr_R | exact lcm_R | omega) (fun hc => ?_) (fun hc => ?_))))))) <;> (first | (exfalso; omega) | skip))
        | (show Rch _ _ _ _ _ 35 _ _ _; refine Rch.blk' (Rn_mono mt _ _) bl_X0_groupsOf_35 (i_iload_n rfl (i_aload_n rfl (i_iload rfl (t_cv2 (Rn_mono mt _ _) 42 rfl (Nat.le_of_ble_eq_true rfl) ?_)))))
        | (show Rch _ _ _ _ _ 42 _ _ _; refine Rch.blk' (Rn_mono mt _ _) bl_X0_groupsOf_42 (i_ior (i_istore3 trivial (i_iinc2 trivial k_1 (t_none ?_)))))
        | (show Rch _ _ _ _ _ 47 _ _ _; refine Rch.blk' (Rn_mono mt _ _) bl_X0_groupsOf_47 (i_iinc4 trivial k_1 (t_goto 7 rfl ?_)))
        | (show Rch _ _ _ _ _ 53 _ _ _; refine Rch.blk' (Rn_mono mt _ _) bl_X0_groupsOf_53 (i_iload_n rfl (t_iret ?_))))
  have kz := key 0 (by omega) (by omega)
  have e0 : BT (GSs G s 0) = 0 := BT_z.mpr (fun i _ _ z => z)
  rw [e0] at kz
  clear key
  repeat' (first
    | exact kz
    | (show Rn _ _ _ 3 _ _ _; refine c_X0_isThereOf (by assumption) (by assumption) (by first | omega | exact hI_R) (by first | omega | exact hI_R) (fun _ _ _ _ _ => ?_) (fun _ => ?_))
    | (show Rch _ _ _ _ _ 0 _ _ _; refine Rch.blk' (Rn_mono mt _ _) bl_X0_groupsOf_0 (i_iconst k_0 (i_istore2 trivial (i_iconst k_0 (i_istore3 trivial (i_iconst k_0 (i_istore4 trivial (t_none ?_))))))))
    | (show Rch _ _ _ _ _ 16 _ _ _; refine Rch.blk' (Rn_mono mt _ _) bl_X0_groupsOf_16 (i_aload_n rfl (i_iload rfl (i_iload_n rfl (t_cv3 (Rn_mono mt _ _) 23 rfl (Nat.le_of_ble_eq_true rfl) ?_)))))
    | (show Rch _ _ _ _ _ 23 _ _ _; refine Rch.blk' (Rn_mono mt _ _) bl_X0_groupsOf_23 (t_if_eq 47 26 rfl rfl (by first | exact hI_R | exact band_R | exact bor_R | exact bshr_R | exact lcm_R | omega) (fun hc => ?_) (fun hc => ?_)) <;> (first | (exfalso; omega) | skip))
    | (show Rch _ _ _ _ _ 26 _ _ _; refine Rch.blk' (Rn_mono mt _ _) bl_X0_groupsOf_26 (i_iload_n rfl (i_iload rfl (i_ishr (i_iconst k_1 (i_iand (t_if_ne 47 35 rfl rfl (by first | exact hI_R | exact band_R | exact bor_R | exact bshr_R | exact lcm_R | omega) (fun hc => ?_) (fun hc => ?_))))))) <;> (first | (exfalso; omega) | skip))
    | (show Rch _ _ _ _ _ 35 _ _ _; refine Rch.blk' (Rn_mono mt _ _) bl_X0_groupsOf_35 (i_iload_n rfl (i_aload_n rfl (i_iload rfl (t_cv2 (Rn_mono mt _ _) 42 rfl (Nat.le_of_ble_eq_true rfl) ?_)))))
    | (show Rch _ _ _ _ _ 42 _ _ _; refine Rch.blk' (Rn_mono mt _ _) bl_X0_groupsOf_42 (i_ior (i_istore3 trivial (i_iinc2 trivial k_1 (t_none ?_)))))
    | (show Rch _ _ _ _ _ 47 _ _ _; refine Rch.blk' (Rn_mono mt _ _) bl_X0_groupsOf_47 (i_iinc4 trivial k_1 (t_goto 7 rfl ?_)))
    | (show Rch _ _ _ _ _ 53 _ _ _; refine Rch.blk' (Rn_mono mt _ _) bl_X0_groupsOf_53 (i_iload_n rfl (t_iret ?_))))
noncomputable def vSide (G : Bd) (s w : Int) : Int := if (s = 0 ∨ s = 1) ∧ 0 ≤ w ∧ w ≤ 3 then (if w = 0 then GNs G s (nn G) else if w = 1 then WO G s else if w = 2 then vFar G s else CT G s) else -1
theorem c_X3_side (hG : RC h 0 G) (hO : OKB G) {s w : Int} (hs : inR s) (hw : inR w) (hq : ∀ v h', v = vSide G s w → JX h h' → Q (some (ai (I v))) h') : Rn mt L (d + 6) 70 [ar 2 0, ai (I s), ai (I w)] h Q := by
  refine Rn.intro iX3_side rfl rfl ?_
  show Rch bX3_side _ _ _ _ 0 [some (ar 2 0), some (ai (I s)), some (ai (I w))] [] _
  have k0 : (s = 0 ∨ s = 1) → w = 0 → Q (some (ai (I (GNs G s (nn G))))) h := fun a e => hq _ _ (by unfold vSide; rw [if_pos ⟨a, by omega, by omega⟩, if_pos e]) JX.rf
  have k1 : (s = 0 ∨ s = 1) → w = 1 → Q (some (ai (I (WO G s)))) h := fun a e => hq _ _ (by unfold vSide; rw [if_pos ⟨a, by omega, by omega⟩, if_neg (by omega), if_pos e]) JX.rf
  have k2 : (s = 0 ∨ s = 1) → w = 2 → Q (some (ai (I (vFar G s)))) h := fun a e => hq _ _ (by unfold vSide; rw [if_pos ⟨a, by omega, by omega⟩, if_neg (by omega), if_neg (by omega), if_pos e]) JX.rf
  have k3 : (s = 0 ∨ s = 1) → w = 3 → Q (some (ai (I (CT G s)))) h := fun a e => hq _ _ (by unfold vSide; rw [if_pos ⟨a, by omega, by omega⟩, if_neg (by omega), if_neg (by omega), if_neg (by omega)]) JX.rf
  have k4 : ∀ v, v = -1 → ¬ ((s = 0 ∨ s = 1) ∧ 0 ≤ w ∧ w ≤ 3) → Q (some (ai (I v))) h := fun v e a => hq _ _ (by unfold vSide; rw [if_neg a]; exact e) JX.rf
  clear hq
  repeat' (first
    | (show Rn _ _ _ 38 _ _ _; refine c_X0_groupsOf hG hO (by omega) ?_)
    | ((with_reducible refine k0 ?_ ?_) <;> omega)
    | ((with_reducible refine k1 ?_ ?_) <;> omega)
    | ((with_reducible refine k2 ?_ ?_) <;> omega)
    | ((with_reducible refine k3 ?_ ?_) <;> omega)
    | ((with_reducible refine k4 _ ?_ ?_) <;> omega)
    | (show Rn _ _ _ 9 _ _ _; refine c_X3_isSide (by first | omega | exact hI_R) (fun _ => ?_) (fun _ => ?_))
    | (show Rn _ _ _ 35 _ _ _; refine c_X0_worthOf (by assumption) (by assumption) (by first | omega | exact hI_R) (fun _ _ => ?_))
    | (show Rn _ _ _ 39 _ _ _; refine c_X0_farthestOf (by assumption) (by assumption) (by omega) ?_)
    | (show Rn _ _ _ 27 _ _ _; refine c_X0_howManyOf (by assumption) (by assumption) (by first | omega | exact hI_R) (fun _ _ => ?_))
    | (show Rch _ _ _ _ _ 0 _ _ _; refine Rch.blk' (Rn_mono mt _ _) bl_X3_side_0 (i_iload_n rfl (t_cs1 (Rn_mono mt _ _) 4 rfl (Nat.le_of_ble_eq_true rfl) ?_)))
    | (show Rch _ _ _ _ _ 4 _ _ _; refine Rch.blk' (Rn_mono mt _ _) bl_X3_side_4 (t_if_ne 9 7 rfl rfl (by first | exact hI_R | exact band_R | exact bor_R | exact bshr_R | exact lcm_R | omega) (fun hc => ?_) (fun hc => ?_)) <;> (first | (exfalso; omega) | skip))
    | (show Rch _ _ _ _ _ 7 _ _ _; refine Rch.blk' (Rn_mono mt _ _) bl_X3_side_7 (i_iconst k_m1 (t_iret ?_)))
    | (show Rch _ _ _ _ _ 9 _ _ _; refine Rch.blk' (Rn_mono mt _ _) bl_X3_side_9 (i_iload_n rfl (t_tsw 0 3 76 rfl rfl (by omega) rfl (by first | exact hI_R | exact band_R | exact bor_R | exact bshr_R | exact lcm_R | omega) (by omega) (sw_c 0 40 1 rfl rfl (by first | exact hI_R | exact band_R | exact bor_R | exact bshr_R | exact lcm_R | omega) (by omega) rfl (fun hc => ?_) (sw_c 1 49 2 rfl rfl (by first | exact hI_R | exact band_R | exact bor_R | exact bshr_R | exact lcm_R | omega) (by omega) rfl (fun hc => ?_) (sw_c 2 58 3 rfl rfl (by first | exact hI_R | exact band_R | exact bor_R | exact bshr_R | exact lcm_R | omega) (by omega) rfl (fun hc => ?_) (sw_c 3 67 4 rfl rfl (by first | exact hI_R | exact band_R | exact bor_R | exact bshr_R | exact lcm_R | omega) (by omega) rfl (fun hc => ?_) sw_n)))) (fun hc => ?_))) <;> (first | (exfalso; omega) | skip))
    | (show Rch _ _ _ _ _ 40 _ _ _; refine Rch.blk' (Rn_mono mt _ _) bl_X3_side_40 (i_aload_n rfl (i_gfs rfl (i_iload_n rfl (t_cv2 (Rn_mono mt _ _) 48 rfl (Nat.le_of_ble_eq_true rfl) ?_)))))
    | (show Rch _ _ _ _ _ 48 _ _ _; refine Rch.blk' (Rn_mono mt _ _) bl_X3_side_48 (t_iret ?_))
    | (show Rch _ _ _ _ _ 49 _ _ _; refine Rch.blk' (Rn_mono mt _ _) bl_X3_side_49 (i_aload_n rfl (i_gfs rfl (i_iload_n rfl (t_cv2 (Rn_mono mt _ _) 57 rfl (Nat.le_of_ble_eq_true rfl) ?_)))))
    | (show Rch _ _ _ _ _ 57 _ _ _; refine Rch.blk' (Rn_mono mt _ _) bl_X3_side_57 (t_iret ?_))
    | (show Rch _ _ _ _ _ 58 _ _ _; refine Rch.blk' (Rn_mono mt _ _) bl_X3_side_58 (i_aload_n rfl (i_gfs rfl (i_iload_n rfl (t_cv2 (Rn_mono mt _ _) 66 rfl (Nat.le_of_ble_eq_true rfl) ?_)))))
    | (show Rch _ _ _ _ _ 66 _ _ _; refine Rch.blk' (Rn_mono mt _ _) bl_X3_side_66 (t_iret ?_))
    | (show Rch _ _ _ _ _ 67 _ _ _; refine Rch.blk' (Rn_mono mt _ _) bl_X3_side_67 (i_aload_n rfl (i_gfs rfl (i_iload_n rfl (t_cv2 (Rn_mono mt _ _) 75 rfl (Nat.le_of_ble_eq_true rfl) ?_)))))
    | (show Rch _ _ _ _ _ 75 _ _ _; refine Rch.blk' (Rn_mono mt _ _) bl_X3_side_75 (t_iret ?_))
    | (show Rch _ _ _ _ _ 76 _ _ _; refine Rch.blk' (Rn_mono mt _ _) bl_X3_side_76 (i_iconst k_m1 (t_iret ?_))))
end C29


