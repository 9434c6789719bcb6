/-! THE CLASS'S CALLS AS THE LAW MAKES THEM -/
section C75
variable {d L : Nat} {h : Mem} {K : Option AV → Mem → Prop} {G Gi : Bd} {T : Int} {S : Sv} {v : Int}
theorem CW.chc {h1 : Mem} {G' : Bd} (H : CW h G T Gi S) (R : RC h1 0 G') (F : FrC h h1 0) : CW h1 G' T Gi S := H.chg R (fun t b k hn => F t b k (fun z => hn ⟨z.2, Or.inl z.1⟩))
theorem k_count (hW : CW h G T Gi S) (hO : OKB G) {w : Int} (hw : 0 ≤ w ∧ w ≤ 4) (ev : vCount G w = v) (k : ∀ h', CW h' G T Gi S → K (some (ai (I v))) h') : Rn mt L (d + 8) 74 [ar 2 0, ai (I w)] h K :=
  c_X3_count (d := d + 4) hW.1 hO ⟨by omega, by omega⟩ (fun u h' e hJ => by rw [e, ev]; exact k h' (hW.jx hJ))
theorem k_piece (hW : CW h G T Gi S) (hO : OKB G) (hy : dy G ≤ 999) {p w : Int} (hp : 0 ≤ p ∧ p ≤ 1000) (hw : 0 ≤ w ∧ w ≤ 6) (ev : vPiece G p w = v) (k : ∀ h', CW h' G T Gi S → K (some (ai (I v))) h') : Rn mt L (d + 8) 52 [ar 2 0, ai (I p), ai (I w)] h K :=
  c_X3_piece (d := d + 4) hW.1 hO hy ⟨by omega, by omega⟩ ⟨by omega, by omega⟩ (fun u h' e hJ => by rw [e, ev]; exact k h' (hW.jx hJ))
theorem k_on (hW : CW h G T Gi S) (hO : OKB G) {q : Int} (hq : 0 ≤ q ∧ q < 36) (k : ∀ h', CW h' G T Gi S → K (some (ai (I (ons G q)))) h') : Rn mt L (d + 8) 53 [ar 2 0, ai (I q)] h K :=
  c_X3_on (d := d + 6) hW.1 hO ⟨by omega, by omega⟩ (fun u h' e hJ => by rw [e, vOn, if_pos hq]; exact k h' (hW.jx hJ))
theorem k_side (hW : CW h G T Gi S) (hO : OKB G) {s w : Int} (hs : 0 ≤ s ∧ s ≤ 1) (hw : 0 ≤ w ∧ w ≤ 3) (ev : vSide G s w = v) (k : ∀ h', CW h' G T Gi S → K (some (ai (I v))) h') : Rn mt L (d + 8) 70 [ar 2 0, ai (I s), ai (I w)] h K :=
  c_X3_side (d := d + 2) hW.1 hO ⟨by omega, by omega⟩ ⟨by omega, by omega⟩ (fun u h' e hJ => by rw [e, ev]; exact k h' (hW.jx hJ))
theorem k_free (hW : CW h G T Gi S) (hO : OKB G) (hy : dy G ≤ 999) {w : Int} (hw : 0 ≤ w ∧ w ≤ 3) (ev : vFree G w = v) (k : ∀ h', CW h' G T Gi S → K (some (ai (I v))) h') : Rn mt L (d + 8) 71 [ar 2 0, ai (I w)] h K :=
  c_X3_free (d := d + 3) hW.1 hO hy ⟨by omega, by omega⟩ (fun u h' e hJ => by rw [e, ev]; exact k h' (hW.jx hJ))
theorem k_danger (hW : CW h G T Gi S) (hO : OKB G) (hy : dy G ≤ 999) {s : Int} (hs : s = 0 ∨ s = 1) (k : ∀ h', CW h' G T Gi S → K (some (ai (I (BT (DS G s (nn G)))))) h') : Rn mt L (d + 8) 66 [ar 2 0, ai (I s)] h K :=
  c_X3_danger (d := d + 4) hW.1 hO hy ⟨by omega, by omega⟩ (fun u h' e hJ => by rw [e, vDanger, if_pos hs]; exact k h' (hW.jx hJ))
theorem k_next (hW : CW h G T Gi S) (hO : OKB G) (hy : dy G ≤ 999) {w : Int} (hw : 0 ≤ w ∧ w ≤ 3) (ev : vNext G w = v) (k : ∀ h', CW h' G T Gi S → K (some (ai (I v))) h') : Rn mt L (d + 8) 64 [ar 2 0, ai (I w)] h K :=
  c_X3_next (d := d + 3) hW.1 hO hy ⟨by omega, by omega⟩ (fun u h' e hJ => by rw [e, ev]; exact k h' (hW.jx hJ))
theorem k_then (hW : CW h G T Gi S) (hO : OKB G) (hy : dy G ≤ 999) {n w : Int} (hn : 0 ≤ n ∧ n ≤ 60) (hw : 0 ≤ w ∧ w ≤ 3) (ev : vThen G n w = v) (k : ∀ h', CW h' G T Gi S → K (some (ai (I v))) h') : Rn mt L (d + 8) 60 [ar 2 0, ai (I n), ai (I w)] h K :=
  c_X3_then (d := d) hW.1 hO hy ⟨by omega, by omega⟩ ⟨by omega, by omega⟩ (fun u h' e hJ => by rw [e, ev]; exact k h' (hW.jx hJ))
theorem k_heard (hW : CW h G T Gi S) (hO : OKB G) {p : Int} (p0 : 0 ≤ p) (p1 : p < nn G) (hp : sq G p < 36) (k : ∀ h', CW h' G T Gi S → K (some (ai (I (BT (HS G 0 p))))) h') : Rn mt L (d + 8) 65 [ar 2 0, ai (I p)] h K := by
  have g := hO.n
  exact c_X3_heard (d := d + 4) hW.1 hO ⟨by omega, by omega⟩ (fun u h' e hJ => by rw [e, vHeard, if_pos ⟨p0, p1⟩, if_pos hp]; exact k h' (hW.jx hJ))
theorem k_stand (hW : CW h G T Gi S) (hO : OKB G) (hy : dy G ≤ 999) {p n w : Int} (hp : 0 ≤ p ∧ p ≤ 1000) (hn : 0 ≤ n ∧ n ≤ 60) (hw : 0 ≤ w ∧ w ≤ 3) (ev : vStand G p n w = v) (k : ∀ h', CW h' G T Gi S → K (some (ai (I v))) h') : Rn mt L (d + 8) 68 [ar 2 0, ai (I p), ai (I n), ai (I w)] h K :=
  c_X3_stand (d := d + 1) hW.1 hO hy ⟨by omega, by omega⟩ ⟨by omega, by omega⟩ ⟨by omega, by omega⟩ (fun u h' e hJ => by rw [e, ev]; exact k h' (hW.jx hJ))
theorem k_falls (hW : CW h G T Gi S) (hO : OKB G) (hy : dy G ≤ 999) {p : Int} (hp : -1 ≤ p ∧ p ≤ 1000) (ev : vFalls G p = v) (k : ∀ h', CW h' G T Gi S → K (some (ai (I v))) h') : Rn mt L (d + 8) 62 [ar 2 0, ai (I p)] h K :=
  c_X3_falls (d := d + 1) hW.1 hO hy ⟨by omega, by omega⟩ (fun u h' e hJ => by rw [e, ev]; exact k h' (hW.jx hJ))
theorem k_still (hW : CW h G T Gi S) (hO : OKB G) (hy : dy G ≤ 999) (k : ∀ h', CW h' G T Gi S → K (some (ai (I (vStill G)))) h') : Rn mt L (d + 8) 63 [ar 2 0] h K :=
  c_X3_still (d := d + 2) hW.1 hO hy (fun u h' e hJ => by rw [e]; exact k h' (hW.jx hJ))
theorem k_off (hW : CW h G T Gi S) (hO : OKB G) (hy : dy G ≤ 999) {n : Int} (hn : 0 ≤ n ∧ n ≤ 60) (k : ∀ h', CW h' G T Gi S → K (some (ai (I (vOff G n)))) h') : Rn mt L (d + 8) 69 [ar 2 0, ai (I n)] h K :=
  c_X3_off (d := d + 1) hW.1 hO hy ⟨by omega, by omega⟩ (fun u h' e hJ => by rw [e]; exact k h' (hW.jx hJ))
theorem k_sight (hW : CW h G T Gi S) (hO : OKB G) (hy : dy G ≤ 999) (k : ∀ h', CW h' G T Gi S → K (some (al (SGT G))) h') : Rn mt L (d + 8) 93 [ar 2 0] h K :=
  c_L_sight (d := d + 3) hW.1 hO hy (fun h' hJ => k h' (hW.jx hJ))
theorem k_days (hW : CW h G T Gi S) (hO : OKB G) (hy : dy G ≤ 999) {n : Int} (hn : 0 ≤ n ∧ n ≤ 60) {G' : Bd} (ev : oDays G n = (v, G')) (k : ∀ h', CW h' G' T Gi S → K (some (ai (I v))) h') : Rn mt L (d + 8) 58 [ar 2 0, ai (I n)] h K :=
  c_X3_days (d := d + 1) hW.1 hO hy ⟨by omega, by omega⟩ (fun u G2 h' e hC hF => by
    obtain ⟨rfl, rfl⟩ := pair_inj (ev.symm.trans e)
    exact k h' (hW.chc hC hF))
theorem k_stands (hW : CW h G T Gi S) (hO : OKB G) {p q : Int} (hp : 0 ≤ p ∧ p ≤ 1000) (hq : 0 ≤ q ∧ q < 36) {G' : Bd} (ev : oStands G p q = (v, G')) (k : ∀ h', CW h' G' T Gi S → K (some (ai (I v))) h') : Rn mt L (d + 8) 55 [ar 2 0, ai (I p), ai (I q)] h K :=
  c_X3_stands (d := d + 4) hW.1 hO ⟨by omega, by omega⟩ ⟨by omega, by omega⟩ (fun u G2 h' e hC hF => by
    obtain ⟨rfl, rfl⟩ := pair_inj (ev.symm.trans e)
    exact k h' (hW.chc hC hF))
theorem k_takes (hW : CW h G T Gi S) (hO : OKB G) {p : Int} (hp : 0 ≤ p ∧ p ≤ 1000) {G' : Bd} (ev : oTakes G p = (v, G')) (k : ∀ h', CW h' G' T Gi S → K (some (ai (I v))) h') : Rn mt L (d + 8) 56 [ar 2 0, ai (I p)] h K :=
  c_X3_takes (d := d + 4) hW.1 hO ⟨by omega, by omega⟩ (fun u G2 h' e hC hF => by
    obtain ⟨rfl, rfl⟩ := pair_inj (ev.symm.trans e)
    exact k h' (hW.chc hC hF))
theorem k_turn (hW : CW h G T Gi S) (hO : OKB G) {s : Int} (hs : 0 ≤ s ∧ s ≤ 1000) {G' : Bd} (ev : oTurn G s = (v, G')) (k : ∀ h', CW h' G' T Gi S → K (some (ai (I v))) h') : Rn mt L (d + 8) 57 [ar 2 0, ai (I s)] h K :=
  c_X3_turn (d := d + 5) hW.1 hO ⟨by omega, by omega⟩ (fun u G2 h' e hC hF => by
    obtain ⟨rfl, rfl⟩ := pair_inj (ev.symm.trans e)
    exact k h' (hW.chc hC hF))
theorem k_keep (hW : CW h G T Gi S) (k : ∀ (u : Int) (S' : Sv) (h' : Mem), oKeep S 1 1 4 2 = (u, S') → CW h' G T Gi S' → K (some (ai (I u))) h') : Rn mt L (d + 8) 75 [ar 2 0, ai (I 1), ai (I 1), ai (I 4), ai (I 2)] h K :=
  c_X3_keep (d := d + 6) hW.2.2.2 ⟨by omega, by omega⟩ ⟨by omega, by omega⟩ ⟨by omega, by omega⟩ ⟨by omega, by omega⟩ (fun u S2 h' e hS hF => k u S2 h' e (hW.shf hS hF))
theorem k_comes (hW : CW h G T Gi S) (hO : OKB G) (hK : OKS S) {q : Int} (hq : 0 ≤ q ∧ q < 36) (k : ∀ (u : Int) (G' : Bd) (h' : Mem), oComes G S 1 0 q = (u, G') → CW h' G' T Gi S → K (some (ai (I u))) h') : Rn mt L (d + 8) 54 [ar 2 0, ai (I 1), ai (I 0), ai (I q)] h K :=
  c_X3_comes (d := d + 5) hW.1 hO hW.2.2.2 hK ⟨by omega, by omega⟩ ⟨by omega, by omega⟩ ⟨by omega, by omega⟩ (fun u G2 h' e hC hF => k u G2 h' e (hW.chc hC hF))
theorem k_image (hW : CW h G T Gi S) (hO : OKB G) (k : ∀ h', CW h' G 1 G S → K (some (ai (I (dy G)))) h') : Rn mt L (d + 8) 72 [ar 2 0] h K :=
  c_X3_image (d := d + 6) hW hO (fun h' H _ => k h' H)
theorem k_restore (hW : CW h G 1 Gi S) (hOi : OKB Gi) (k : ∀ h', CW h' Gi 1 Gi S → K (some (ai (I (dy Gi)))) h') : Rn mt L (d + 8) 73 [ar 2 0] h K :=
  c_X3_restore (d := d + 6) hW (Or.inr rfl) (fun _ => hOi) (fun u G2 h' e H _ => by
    unfold oRestore at e
    rw [if_pos rfl] at e
    obtain ⟨rfl, rfl⟩ := pair_inj e
    exact k h' H)
theorem k_game9 (hW : CW h G T Gi S) (hO : OKB G) (hy : dy G ≤ 999) (hK : OKS S) (hE : OKE S) (k : ∀ h', CW h' G T Gi S → K (some (ai (I (-1)))) h') : Rn mt L (d + 8) 51 [ar 2 0, ai (I 9)] h K :=
  c_X3_game (d := d) hW.1 hO hy hW.2.2.2 hK hE ⟨by omega, by omega⟩ (fun u G2 h' e hC hF => by
    have e9 : rfu S 9 2 = -1 := by unfold rfu; rw [if_neg (by omega)]
    unfold oGame at e
    rw [if_pos (by rw [e9]; omega), e9] at e
    obtain ⟨rfl, rfl⟩ := pair_inj e
    exact k h' (hW.chg hC hF))
end C75
/-! values at the law's arguments -/
theorem pc_v {G : Bd} {p : Int} (p0 : 0 ≤ p) (p1 : p < nn G) : vPiece G p 2 = sd G p ∧ vPiece G p 3 = m4 (sq G p) ∧ vPiece G p 5 = wo (kd G p) (fg G p) ∧ vPiece G p 6 = ideN G p := by
  refine ⟨?_, ?_, ?_, ?_⟩ <;> (unfold vPiece; rw [if_pos ⟨p0, p1, by omega, by omega⟩]; rfl)
theorem pc_10 {G : Bd} (hO : OKB G) : vPiece G 10 0 = -1 := by
  have := hO.n
  unfold vPiece
  rw [if_neg (by omega)]
theorem next_n {G : Bd} (h : goer G no0 0 (dy G + 1) = -4) : vNext G 0 = -4 ∧ vNext G 1 = -4 ∧ vNext G 2 = 0 := by
  refine ⟨?_, ?_, ?_⟩ <;> (unfold vNext; rw [if_pos (by omega), if_pos h]; rfl)
theorem next_g {G : Bd} (h : ¬ goer G no0 0 (dy G + 1) = -4) : vNext G 0 = goer G no0 0 (dy G + 1) ∧ vNext G 1 = ide G (goer G no0 0 (dy G + 1)) (dy G + 1) ∧ vNext G 2 = NH G 0 (goer G no0 0 (dy G + 1)) := by
  refine ⟨?_, ?_, ?_⟩ <;> (unfold vNext; rw [if_pos (by omega), if_neg h]; rfl)
theorem days_1 {G : Bd} : (dy G + 1 ≤ 999 → oDays G 1 = (NT (DAY G no0 0), DAY G no0 0)) ∧ (¬ dy G + 1 ≤ 999 → oDays G 1 = (-3, G)) := by
  have e : DN G no0 1 = DAY G no0 0 := @DN_up G no0 0 (by omega)
  refine ⟨fun a => ?_, fun a => ?_⟩ <;> (unfold oDays; rw [if_pos (by omega)])
  · rw [if_pos a, e]
  · rw [if_neg a]
theorem stands_v {G : Bd} {p q : Int} (q0 : 0 ≤ q) (q1 : q < 36) : (¬ (0 ≤ p ∧ p < nn G) → oStands G p q = (-1, G)) ∧ ((0 ≤ p ∧ p < nn G) → (ons G q = -4 ∨ ons G q = p) → oStands G p q = (m4 (sq G p), mov G p q)) ∧ ((0 ≤ p ∧ p < nn G) → ¬ (ons G q = -4 ∨ ons G q = p) → oStands G p q = (-3, G)) := by
  refine ⟨fun a => ?_, fun a b => ?_, fun a b => ?_⟩ <;> unfold oStands
  · rw [if_neg (fun z => a z.1)]
  · rw [if_pos ⟨a, q0, q1⟩, if_pos b]
  · rw [if_pos ⟨a, q0, q1⟩, if_neg b]
theorem takes_v {G : Bd} {p : Int} (p0 : 0 ≤ p) (p1 : p < nn G) : (sq G p < 36 → oTakes G p = (sq G p, mov G p 36)) ∧ (¬ sq G p < 36 → oTakes G p = (-3, G)) := by
  refine ⟨fun a => ?_, fun a => ?_⟩ <;> (unfold oTakes; rw [if_pos ⟨p0, p1⟩])
  · rw [if_pos a]
  · rw [if_neg a]
theorem falls_v {G : Bd} {p : Int} (p0 : 0 ≤ p) (p1 : p < nn G) (h : sq G p = 36) : vFalls G p = 0 := by
  unfold vFalls
  rw [if_neg (by omega), if_pos ⟨p0, p1⟩, falls_0 h]
theorem stand_v {G : Bd} {p : Int} (p0 : 0 ≤ p) (p1 : p < nn G) (h : sq G p < 36) : vStand G p 3 0 = GB (stC G p) (stW G p 3) 36 ∧ vStand G p 3 1 = stW G p 3 (GB (stC G p) (stW G p 3) 36) + 100 := by
  refine ⟨?_, ?_⟩ <;> (unfold vStand; rw [if_pos ⟨⟨p0, p1⟩, by omega, by omega⟩, if_pos h]; rfl)
theorem side_v {G : Bd} {s : Int} (hs : s = 0 ∨ s = 1) : vSide G s 0 = GNs G s (nn G) ∧ vSide G s 1 = WO G s ∧ vSide G s 3 = CT G s := by
  refine ⟨?_, ?_, ?_⟩ <;> (unfold vSide; rw [if_pos ⟨hs, by omega⟩]; rfl)
theorem lcm_s {x : Int64} : lcm x x = 0 := lcm_e rfl

