/-! WHAT THE PROPERTY RESTS ON: values alone -/
theorem sub_0 {P S : Int → Prop} (h : ∀ i, 0 ≤ i → i < 10 → P i → S i) : band (BT P) (bxor (BT S) (-1)) = 0 := by
  rw [b_notS]; exact BT_z.mpr (fun i a b z => z.2 (h i a b z.1))
theorem GNs_c {G : Bd} {s : Int} : ∀ k : Int, 0 ≤ k → (0 ≤ GNs G s k ∧ GNs G s k ≤ cnt (OC G s) k) ∧ (∀ i, GSs G s k i → 0 < GNs G s k) ∧ (0 < cnt (OC G s) k → 0 < GNs G s k) := by
  refine ind0 ⟨⟨Int.le_refl _, Int.le_refl _⟩, fun i z => z.elim, fun z => by rw [cnt_0] at z; omega⟩ (fun k k0 ih => ?_)
  obtain ⟨⟨a1, a2⟩, b, c⟩ := ih
  rw [GNs_up k0]
  have g := @cnt_R (OC G s) k k0
  by_cases h1 : OC G s k ∧ ¬ GSs G s k k
  · rw [ifp_p h1, cnt_u1 k0 h1.1]
    exact ⟨by omega, fun _ _ => by omega, fun _ => by omega⟩
  · rw [ifp_n h1, GSs_0 k0 h1]
    by_cases h2 : OC G s k
    · rw [cnt_u1 k0 h2]
      have h3 : 0 < GNs G s k := b k (Classical.byContradiction (fun z => h1 ⟨h2, z⟩))
      exact ⟨by omega, fun _ _ => by omega, fun _ => by omega⟩
    · rw [cnt_u0 k0 h2]
      exact ⟨by omega, fun i z => by have := b i z; omega, fun z => by have := c z; omega⟩
theorem GNs_e {G : Bd} (hO : OKB G) {s : Int} : (0 ≤ GNs G s (nn G) ∧ GNs G s (nn G) ≤ CT G s) ∧ (GNs G s (nn G) = 0 ↔ CT G s = 0) := by
  obtain ⟨a, -, c⟩ := @GNs_c G s (nn G) hO.n.1
  have g := CT_R hO s
  have a2 : GNs G s (nn G) ≤ CT G s := a.2
  have c2 : 0 < CT G s → 0 < GNs G s (nn G) := c
  exact ⟨⟨a.1, a2⟩, by omega⟩
theorem danger_0 {G : Bd} : band (BT (DS G 0 (nn G))) (BT (DS G 1 (nn G))) = 0 := by
  rw [b_and]
  refine BT_z.mpr (fun i _ _ z => ?_)
  obtain ⟨⟨o, _, _, h1⟩, ⟨o', _, _, h2⟩⟩ := z
  have a1 := h1.2.2.1.2.2.2
  have a2 := h2.2.2.1.2.2.2
  rw [h1.2.2.2] at a1
  rw [h2.2.2.2] at a2
  omega
/-- where a piece may go: nobody there, or one of the other side -/
def TG (G : Bd) (p q : Int) : Prop := ons G q = -4 ∨ (0 ≤ ons G q ∧ sd G (ons G q) = 1 - sd G p)
theorem TG_n {G : Bd} (hO : OKB G) {p q : Int} (p0 : 0 ≤ p) (p1 : p < nn G) (q0 : 0 ≤ q) (q1 : q < 36) (h : ¬ hby G q (sd G p)) : TG G p q := by
  rcases ons_c G q with ⟨a, -⟩ | ⟨a, b, -⟩
  · exact Or.inl a
  · have g := (hO.pc p p0 p1).2.2.1
    have g2 := (hO.pc (ons G q) a b).2.2.1
    have : ¬ sd G (ons G q) = sd G p := fun z => h ⟨q0, q1, a, z⟩
    exact Or.inr ⟨a, by omega⟩
theorem sld_TG {G : Bd} {p r c : Int} : ∀ (m : Nat) (k f : Int), (f = -4 ∨ TG G p f) → (sld G p r c m k f = -4 ∨ TG G p (sld G p r c m k f))
  | 0, k, f, h => h
  | m + 1, k, f, h => by
    rw [sld]
    rcases @ifp_C (hby G (bk G p (k * r) (k * c)) (1 - sd G p)) (bk G p (k * r) (k * c)) (ifp (fre G (bk G p (k * r) (k * c))) (sld G p r c m (k + 1) (bk G p (k * r) (k * c))) f) with ⟨a, e⟩ | ⟨_, e⟩
    · rw [e]; exact Or.inr (Or.inr ⟨a.2.2.1, a.2.2.2⟩)
    · rw [e]
      rcases @ifp_C (fre G (bk G p (k * r) (k * c))) (sld G p r c m (k + 1) (bk G p (k * r) (k * c))) f with ⟨a, e⟩ | ⟨_, e⟩
      · rw [e]; exact sld_TG m (k + 1) _ (Or.inr (Or.inl a.2.2))
      · rw [e]; exact h
theorem sli_TG {G : Bd} {p r c : Int} : sli G p r c = -4 ∨ TG G p (sli G p r c) := sld_TG _ _ _ (Or.inl rfl)
theorem bii_TG {G : Bd} (hO : OKB G) {p y : Int} (p0 : 0 ≤ p) (p1 : p < nn G) : bii G p y = -4 ∨ TG G p (bii G p y) := by
  rcases @ifp_C (¬ bk G p 1 1 = -4 ∧ ¬ hby G (bk G p 1 1) (sd G p) ∧ y % (fg G p + 2) = 0) (bk G p 1 1) (-4) with ⟨a, e⟩ | ⟨_, e⟩
  · right
    rw [bii, e]
    have : bk G p 1 1 = -4 ∨ (0 ≤ bk G p 1 1 ∧ bk G p 1 1 < 36) := sqO_R2
    exact TG_n hO p0 p1 (by omega) (by omega) a.2.1
  · left; exact e
theorem ide_TG {G : Bd} (hO : OKB G) {p y : Int} (p0 : 0 ≤ p) (p1 : p < nn G) : ide G p y = -4 ∨ TG G p (ide G p y) := by
  have g := hO.pc p p0 p1
  obtain ⟨e1, e26, e3, e4, e5, e7, e0⟩ := @ide_is G p y
  have hk : kd G p = 1 ∨ (kd G p = 2 ∨ kd G p = 6) ∨ kd G p = 3 ∨ kd G p = 4 ∨ kd G p = 5 ∨ kd G p = 7 ∨ kd G p = 0 := by omega
  rcases hk with k | k | k | k | k | k | k
  · rw [e1 k, kni]
    rcases @ifp_C (¬ bk G p 2 1 = -4 ∧ ¬ hby G (bk G p 2 1) (sd G p)) (bk G p 2 1) (ifp (¬ bk G p 2 (-1) = -4 ∧ ¬ hby G (bk G p 2 (-1)) (sd G p)) (bk G p 2 (-1)) (-4)) with ⟨a, e⟩ | ⟨_, e⟩
    · right; rw [e]
      have : bk G p 2 1 = -4 ∨ (0 ≤ bk G p 2 1 ∧ bk G p 2 1 < 36) := sqO_R2
      exact TG_n hO p0 p1 (by omega) (by omega) a.2
    · rw [e]
      rcases @ifp_C (¬ bk G p 2 (-1) = -4 ∧ ¬ hby G (bk G p 2 (-1)) (sd G p)) (bk G p 2 (-1)) (-4) with ⟨a, e⟩ | ⟨_, e⟩
      · right; rw [e]
        have : bk G p 2 (-1) = -4 ∨ (0 ≤ bk G p 2 (-1) ∧ bk G p 2 (-1) < 36) := sqO_R2
        exact TG_n hO p0 p1 (by omega) (by omega) a.2
      · left; exact e
  · rw [e26 k]; exact sli_TG
  · rw [e3 k]; exact bii_TG hO p0 p1
  · rw [e4 k]
    split
    · exact sli_TG
    · exact sli_TG
  · rw [e5 k, kgi]
    rcases @ifp_C (fre G (bk G p (-1) 0) ∧ ∃ o, 0 ≤ o ∧ o < nn G ∧ sd G o = 1 - sd G p ∧ sq G o < 36 ∧ fr (sq G o) (sq G p) ≤ 1) (bk G p (-1) 0) (-4) with ⟨a, e⟩ | ⟨_, e⟩
    · rw [e]; exact Or.inr (Or.inl a.1.2.2)
    · left; exact e
  · rw [e7 k]
    rcases @ifp_C (fre G (bk G p 0 (-1))) (bk G p 0 (-1)) (bii G p y) with ⟨a, e⟩ | ⟨_, e⟩
    · rw [e]; exact Or.inr (Or.inl a.2.2)
    · rw [e]; exact bii_TG hO p0 p1
  · rw [e0 k, pwi]
    rcases @ifp_C (fre G (bk G p 1 0)) (bk G p 1 0) (ifp (hby G (bk G p 1 1) (1 - sd G p)) (bk G p 1 1) (-4)) with ⟨a, e⟩ | ⟨_, e⟩
    · rw [e]; exact Or.inr (Or.inl a.2.2)
    · rw [e]
      rcases @ifp_C (hby G (bk G p 1 1) (1 - sd G p)) (bk G p 1 1) (-4) with ⟨a, e⟩ | ⟨_, e⟩
      · rw [e]; exact Or.inr (Or.inr ⟨a.2.2.1, a.2.2.2⟩)
      · left; exact e
theorem ide_setd {G : Bd} {z p y : Int} : ide (setd G z) p y = ide G p y := rfl
theorem goer_setd {G : Bd} {z y : Int} : goer (setd G z) no0 0 y = goer G no0 0 y := rfl
theorem ons_setd {G : Bd} {z q : Int} : ons (setd G z) q = ons G q := rfl
theorem day_no {G : Bd} (h : goer G no0 0 (dy G + 1) = -4) : (∀ i, sq (DAY G no0 0) i = sq G i) ∧ th (DAY G no0 0) = (if th G < 9999 then th G + 1 else 9999) ∧ tn (DAY G no0 0) = 1 - tn G := by
  rw [DAY_no (goer_setd.trans h)]
  exact ⟨fun _ => rfl, rfl, rfl⟩
theorem day_go {G : Bd} {g s : Int} (hg : goer G no0 0 (dy G + 1) = g) (h : ¬ g = -4) (hs : ide G g (dy G + 1) = s) : (∀ i, 0 ≤ i → sq (DAY G no0 0) i = if i = g then s else if i = ons G s then 36 else sq G i) ∧ th (DAY G no0 0) = th G ∧ tn (DAY G no0 0) = 1 - tn G := by
  rw [DAY_go (goer_setd.trans hg) h (ide_setd.trans hs), ons_setd]
  refine ⟨fun i i0 => ?_, ?_, rfl⟩
  · show (if i = g then s else sq (tof (setd G (dy G + 1)) (ons G s)) i) = _
    by_cases hi : i = g
    · rw [if_pos hi, if_pos hi]
    · rw [if_neg hi, if_neg hi]
      unfold tof
      by_cases ho : ons G s = -4
      · rw [if_pos ho, if_neg (by omega)]; rfl
      · rw [if_neg ho]; rfl
  · show th (tof (setd G (dy G + 1)) (ons G s)) = th G
    unfold tof
    split <;> rfl
theorem th_DAY {G : Bd} (hO : OKB G) : th G ≤ th (DAY G no0 0) := by
  have g := hO.2.2.1
  by_cases h : goer G no0 0 (dy G + 1) = -4
  · rw [(day_no h).2.1]; split <;> omega
  · rw [(day_go rfl h rfl).2.1]; omega
theorem th_DN {G : Bd} (hO : OKB G) : ∀ n : Int, 0 ≤ n → th G ≤ th (DN G no0 n) := by
  refine ind0 (Int.le_refl _) (fun n n0 ih => ?_)
  rw [DN_up n0]
  have := th_DAY (DN_f (M := no0) hO n n0).1
  omega
theorem TS_DN {G : Bd} (hO : OKB G) {n : Int} (n0 : 0 ≤ n) {i : Int} (i0 : 0 ≤ i) (h : TS (DN G no0 n) i) : TS G i := by
  have g := DN_f (M := no0) hO n n0
  have h1 : i < nn G := by rw [← g.2.1]; exact h.1
  refine ⟨h1, Classical.byContradiction (fun z => ?_)⟩
  have g2 := (hO.pc i i0 h1).2.2.2
  have e := DN_taken (M := no0) (a := 0) hO i0 h1 (by omega) (show sq G i = 36 by omega) n n0
  rw [Int.zero_add] at e
  have := h.2
  omega
theorem GB_max {C : Int → Prop} {w : Int → Int} {j : Int} (j0 : 0 ≤ j) (hC : C j) : ∀ k : Int, 0 ≤ k → j < k → w j ≤ w (GB C w k) := by
  refine ind0 (fun h => by omega) (fun k k0 ih hk => ?_)
  rw [GB_up k0]
  by_cases c : C k ∧ (GB C w k < 0 ∨ w (GB C w k) < w k)
  · rw [ifp_p c]
    by_cases e : j = k
    · rw [e]; exact Int.le_refl _
    · have h1 := GB_ge (w := w) j0 hC k k0 (by omega)
      have h2 := ih (by omega)
      rcases c.2 with a | a <;> omega
  · rw [ifp_n c]
    by_cases e : j = k
    · subst e
      have : ¬ (GB C w j < 0 ∨ w (GB C w j) < w j) := fun z => c ⟨hC, z⟩
      omega
    · exact ih (by omega)
theorem then_w {G : Bd} {s : Int} (hs : s = 0 ∨ s = 1) : vThen G 3 (2 + s) = WO (DN G no0 3) s ∧ vThen G 3 (3 - s) = WO (DN G no0 3) (1 - s) := by
  rcases hs with rfl | rfl <;> exact ⟨rfl, rfl⟩
theorem WO_off {G : Bd} (hO : OKB G) {p : Int} (p0 : 0 ≤ p) (p1 : p < nn G) (h : sq G p < 36) : WO (mov G p 36) (sd G p) = WO G (sd G p) - wo (kd G p) (fg G p) := by
  rw [WO_wo hO (s := sd G p) ⟨rfl, h⟩ p0 p1, ← ww36 (V := mov G p 36) (s := sd G p) (p := p) (OKB_off hO p) (by rw [sq_mov, if_pos rfl])]
  unfold WS
  refine SM_ext (c := nn G) (fun i i0 i1 => ?_) (nn G) hO.n.1 (Int.le_refl _)
  show ifp (OS (mov G p 36) (sd G p) i ∧ ¬ i = p) (wo (kd G i) (fg G i)) 0 = ifp (OS G (sd G p) i ∧ ¬ i = p) (wo (kd G i) (fg G i)) 0
  congr 1
  refine propext ⟨fun z => ⟨⟨z.1.1, z.1.2.1, ?_⟩, z.2⟩, fun z => ⟨⟨z.1.1, z.1.2.1, ?_⟩, z.2⟩⟩
  · have := z.1.2.2
    rw [sq_mov, if_neg z.2] at this
    exact this
  · rw [sq_mov, if_neg z.2]; exact z.1.2.2
theorem falls_0 {G : Bd} {p : Int} (h : sq G p = 36) : FO G p = 0 := fst_is (by omega) (by omega) h (fun j _ _ => by omega)
theorem TS_off {G : Bd} {p : Int} (p0 : 0 ≤ p) (p1 : p < 10) : BT (TS (mov G p 36)) = band (BT (TS G)) (bxor (bshl 1 p) (-1)) := by
  rw [b_not p0 p1]
  refine BT_ext (fun i _ _ => ⟨fun z => ?_, fun z => ⟨z.1.1, ?_⟩⟩)
  · have z2 := z.2
    rw [sq_mov] at z2
    by_cases e : i = p
    · rw [if_pos e] at z2; omega
    · rw [if_neg e] at z2; exact ⟨⟨z.1, z2⟩, e⟩
  · rw [sq_mov, if_neg z.2]; exact z.1.2
theorem TS_no {G : Bd} {p : Int} (p0 : 0 ≤ p) (p1 : p < 10) (h : ¬ sq G p < 36) : BT (TS G) = band (BT (TS G)) (bxor (bshl 1 p) (-1)) := by
  rw [b_not p0 p1]
  exact BT_ext (fun i _ _ => ⟨fun z => ⟨z, fun e => h (by rw [← e]; exact z.2)⟩, fun z => z.1⟩)
/-- who is taken on a day: the board without it -/
theorem TS_day {G : Bd} (hO : OKB G) {g s : Int} (hg : goer G no0 0 (dy G + 1) = g) (h : ¬ g = -4) (hs : ide G g (dy G + 1) = s) : (ons G s = -4 → BT (TS (DAY G no0 0)) = BT (TS G)) ∧ (0 ≤ ons G s → BT (TS (DAY G no0 0)) = band (BT (TS G)) (bxor (bshl 1 (ons G s)) (-1))) := by
  have hd := (day_go hg h hs).1
  have hn := (@DAY_f G no0 0).1
  have hr := goer_R (G := G) (M := no0) (ra := 0) (y := dy G + 1) hO
  rw [hg] at hr
  have hr : 0 ≤ g ∧ g < nn G ∧ cand G no0 (dy G + 1) g := by
    rcases hr with e | e
    · exact absurd e h
    · exact e
  have hsR := @ide_R G g (dy G + 1)
  have hs4 := hr.2.2.2.2.2
  rw [hs] at hsR hs4
  have hT := @ide_TG G hO g (dy G + 1) hr.1 hr.2.1
  rw [hs] at hT
  refine ⟨fun e => BT_ext (fun i i0 _ => ?_), fun e => ?_⟩
  · have hdi := hd i i0
    rw [e] at hdi
    by_cases hi : i = g
    · rw [if_pos hi] at hdi
      exact ⟨fun z => ⟨by rw [hi]; exact hr.2.1, by rw [hi]; exact hr.2.2.2.1⟩, fun z => ⟨by rw [hn]; exact z.1, by rw [hdi]; omega⟩⟩
    · rw [if_neg hi, if_neg (by omega)] at hdi
      unfold TS
      rw [hn, hdi]
  · have hon := ons_R G hO s
    have hg10 := hO.n
    rw [b_not e (by omega)]
    have hne : ¬ g = ons G s := by
      intro z
      rcases hT with a | a | a
      · omega
      · omega
      · have := a.2
        rw [← z] at this
        have := (hO.pc g hr.1 hr.2.1).2.2.1
        omega
    refine BT_ext (fun i i0 _ => ?_)
    have hdi := hd i i0
    by_cases hi : i = g
    · rw [if_pos hi] at hdi
      exact ⟨fun z => ⟨⟨by rw [hi]; exact hr.2.1, by rw [hi]; exact hr.2.2.2.1⟩, by rw [hi]; exact hne⟩, fun z => ⟨by rw [hn]; exact z.1.1, by rw [hdi]; omega⟩⟩
    · rw [if_neg hi] at hdi
      by_cases ho : i = ons G s
      · rw [if_pos ho] at hdi
        exact ⟨fun z => by have := z.2; omega, fun z => absurd ho z.2⟩
      · rw [if_neg ho] at hdi
        unfold TS
        rw [hn, hdi]
        exact ⟨fun z => ⟨z, ho⟩, fun z => z.1⟩

