/-! CHANGES OF A VALUE -/
def setd (G : Bd) (z : Int) : Bd := mkB (nn G) (tn G) (th G) z (kd G) (fg G) (sd G) (sq G)
def sett (G : Bd) (z : Int) : Bd := mkB (nn G) z (th G) (dy G) (kd G) (fg G) (sd G) (sq G)
def seth (G : Bd) (z : Int) : Bd := mkB (nn G) (tn G) z (dy G) (kd G) (fg G) (sd G) (sq G)
/-- one to a square (36: taken) -/
def mov (G : Bd) (z s : Int) : Bd := mkB (nn G) (tn G) (th G) (dy G) (kd G) (fg G) (sd G) (fun i => if i = z then s else sq G i)
def stk (G : Bd) (z k f : Int) : Bd := mkB (nn G) (tn G) (th G) (dy G) (fun i => if i = z then k else kd G i) (fun i => if i = z then f else fg G i) (sd G) (sq G)
def addp (G : Bd) (k f s q : Int) : Bd := mkB (nn G + 1) (tn G) (th G) (dy G) (fun i => if i = nn G then k else kd G i) (fun i => if i = nn G then f else fg G i) (fun i => if i = nn G then s else sd G i) (fun i => if i = nn G then q else sq G i)
theorem ons_no {G : Bd} {q : Int} (h : ∀ p, 0 ≤ p → p < nn G → ¬ sq G p = q) : ons G q = -4 := by
  rcases ons_c G q with ⟨e, -⟩ | ⟨a, b, c⟩
  · exact e
  · exact absurd c (h _ a b)
theorem ons_is {G : Bd} (hO : OKB G) {p q : Int} (h0 : 0 ≤ p) (h1 : p < nn G) (h2 : sq G p = q) (h3 : q < 36) : ons G q = p := by
  subst h2; exact ons_at hO h0 h1 h3
theorem OKB_setd {G : Bd} (hO : OKB G) {z : Int} (hz : 0 ≤ z) : OKB (setd G z) := ⟨hO.1, hO.2.1, hO.2.2.1, hz, hO.2.2.2.2.1, hO.2.2.2.2.2⟩
theorem OKB_sett {G : Bd} (hO : OKB G) {z : Int} (hz : z = 0 ∨ z = 1) : OKB (sett G z) := ⟨hO.1, hz, hO.2.2.1, hO.2.2.2.1, hO.2.2.2.2.1, hO.2.2.2.2.2⟩
theorem OKB_seth {G : Bd} (hO : OKB G) {z : Int} (hz : 0 ≤ z ∧ z ≤ 9999) : OKB (seth G z) := ⟨hO.1, hO.2.1, hz, hO.2.2.2.1, hO.2.2.2.2.1, hO.2.2.2.2.2⟩
theorem sq_mov (G : Bd) (z s i : Int) : sq (mov G z s) i = if i = z then s else sq G i := rfl
theorem OKB_mov {G : Bd} (hO : OKB G) {z s : Int} (s0 : 0 ≤ s) (s1 : s ≤ 36) (hs : s < 36 → ons G s = -4 ∨ ons G s = z) : OKB (mov G z s) := by
  refine ⟨hO.1, hO.2.1, hO.2.2.1, hO.2.2.2.1, fun p p0 p1 => ?_, fun p q p0 p1 q0 q1 e h => ?_⟩
  · have g := hO.pc p p0 p1
    refine ⟨g.1, g.2.1, g.2.2.1, ?_⟩
    rw [sq_mov]
    omega
  · rw [sq_mov] at e h
    rw [sq_mov] at e
    have p1 : p < nn G := p1
    have q1 : q < nn G := q1
    have key : ∀ r, 0 ≤ r → r < nn G → ¬ r = z → s < 36 → ¬ sq G r = s := by
      intro r r0 r1 rz hs36 er
      have := ons_is hO r0 r1 er hs36
      have := hs hs36
      omega
    by_cases pz : p = z
    · by_cases qz : q = z
      · omega
      · rw [if_pos pz] at e h
        rw [if_neg qz] at e
        exact absurd e.symm (key q q0 q1 qz h)
    · by_cases qz : q = z
      · rw [if_neg pz] at e h
        rw [if_pos qz] at e
        exact absurd e (key p p0 p1 pz (by omega))
      · rw [if_neg pz] at e h
        rw [if_neg qz] at e
        exact hO.2.2.2.2.2 p q p0 p1 q0 q1 e h
theorem ons_mov {G : Bd} (hO : OKB G) {z s : Int} (z0 : 0 ≤ z) (z1 : z < nn G) (s0 : 0 ≤ s) (s1 : s ≤ 36) (hs : s < 36 → ons G s = -4 ∨ ons G s = z) {q : Int} (q1 : q < 36) : ons (mov G z s) q = if q = s then z else if q = sq G z then -4 else ons G q := by
  have hO' := OKB_mov hO s0 s1 hs
  by_cases e1 : q = s
  · rw [if_pos e1]
    exact ons_is hO' z0 z1 (by rw [sq_mov, if_pos rfl, e1]) q1
  · rw [if_neg e1]
    by_cases e2 : q = sq G z
    · rw [if_pos e2]
      refine ons_no (fun p p0 p1 ep => ?_)
      have p1 : p < nn G := p1
      rw [sq_mov] at ep
      by_cases pz : p = z
      · rw [if_pos pz] at ep; omega
      · rw [if_neg pz] at ep
        exact pz (hO.2.2.2.2.2 p z p0 p1 z0 z1 (by omega) (by omega))
    · rw [if_neg e2]
      rcases ons_c G q with ⟨e, hn⟩ | ⟨a, b, c⟩
      · rw [e]
        refine ons_no (fun p p0 p1 ep => ?_)
        have p1 : p < nn G := p1
        rw [sq_mov] at ep
        by_cases pz : p = z
        · rw [if_pos pz] at ep; omega
        · rw [if_neg pz] at ep; exact hn p p0 p1 ep
      · refine ons_is hO' a b ?_ q1
        rw [sq_mov, if_neg, c]
        intro e; rw [e] at c; omega
theorem mov_mov (G : Bd) (z s s' : Int) : mov (mov G z s) z s' = mov G z s' := by
  have e : (fun i => if i = z then s' else sq (mov G z s) i) = fun i => if i = z then s' else sq G i := by
    funext i
    rw [sq_mov]
    split <;> rfl
  show mkB (nn G) (tn G) (th G) (dy G) (kd G) (fg G) (sd G) (fun i => if i = z then s' else sq (mov G z s) i) = _
  rw [e]
  rfl
theorem mov_id {G : Bd} {z : Int} : mov G z (sq G z) = G := by
  obtain ⟨a, b, c, d, e, f, g, q⟩ := G
  unfold mov mkB
  congr
  funext i
  show (if i = z then q z else q i) = q i
  split
  · rename_i h; rw [h]
  · rfl
theorem OKB_stk {G : Bd} (hO : OKB G) {z k f : Int} (hk : 0 ≤ k ∧ k < 8) (hf : 0 ≤ f ∧ f < 10) : OKB (stk G z k f) := by
  refine ⟨hO.1, hO.2.1, hO.2.2.1, hO.2.2.2.1, fun p p0 p1 => ?_, hO.2.2.2.2.2⟩
  have g := hO.pc p p0 p1
  refine ⟨?_, ?_, g.2.2⟩
  · show 0 ≤ (if p = z then k else kd G p) ∧ (if p = z then k else kd G p) < 8
    omega
  · show 0 ≤ (if p = z then f else fg G p) ∧ (if p = z then f else fg G p) < 10
    omega
theorem OKB_addp {G : Bd} (hO : OKB G) (hn : nn G < 10) {k f s q : Int} (hk : 0 ≤ k ∧ k < 8) (hf : 0 ≤ f ∧ f < 10) (hs : s = 0 ∨ s = 1) (q0 : 0 ≤ q) (q1 : q < 36) (hq : ons G q = -4) : OKB (addp G k f s q) := by
  have hn0 := hO.n
  have key : ∀ r, 0 ≤ r → r < nn G → ¬ sq G r = q := fun r r0 r1 er => by
    have := ons_is hO r0 r1 er q1; omega
  refine ⟨⟨by show 0 ≤ nn G + 1; omega, by show nn G + 1 ≤ 10; omega⟩, hO.2.1, hO.2.2.1, hO.2.2.2.1, fun p p0 p1 => ?_, fun p r p0 p1 r0 r1 e h => ?_⟩
  · have p1 : p < nn G + 1 := p1
    have g : p < nn G → _ := fun z => hO.pc p p0 z
    refine ⟨?_, ?_, ?_, ?_⟩
    · show 0 ≤ (if p = nn G then k else kd G p) ∧ (if p = nn G then k else kd G p) < 8
      omega
    · show 0 ≤ (if p = nn G then f else fg G p) ∧ (if p = nn G then f else fg G p) < 10
      omega
    · show (if p = nn G then s else sd G p) = 0 ∨ (if p = nn G then s else sd G p) = 1
      omega
    · show 0 ≤ (if p = nn G then q else sq G p) ∧ (if p = nn G then q else sq G p) ≤ 36
      omega
  · have p1 : p < nn G + 1 := p1
    have r1 : r < nn G + 1 := r1
    have e : (if p = nn G then q else sq G p) = (if r = nn G then q else sq G r) := e
    have h : (if p = nn G then q else sq G p) < 36 := h
    by_cases pz : p = nn G
    · by_cases rz : r = nn G
      · omega
      · rw [if_pos pz, if_neg rz] at e
        exact absurd e.symm (key r r0 (by omega))
    · by_cases rz : r = nn G
      · rw [if_neg pz, if_pos rz] at e
        exact absurd e (key p p0 (by omega))
      · rw [if_neg pz, if_neg rz] at e
        rw [if_neg pz] at h
        exact hO.2.2.2.2.2 p r p0 (by omega) r0 (by omega) e h
theorem ons_addp {G : Bd} (hO : OKB G) (hn : nn G < 10) {k f s q : Int} (hk : 0 ≤ k ∧ k < 8) (hf : 0 ≤ f ∧ f < 10) (hs : s = 0 ∨ s = 1) (q0 : 0 ≤ q) (q1 : q < 36) (hq : ons G q = -4) {r : Int} (r1 : r < 36) : ons (addp G k f s q) r = if r = q then nn G else ons G r := by
  have hn0 := hO.n
  have hO' := OKB_addp hO hn hk hf hs q0 q1 hq
  by_cases e : r = q
  · rw [if_pos e]
    exact ons_is hO' hn0.1 (show nn G < nn G + 1 by omega) (show (if nn G = nn G then q else sq G (nn G)) = r by rw [if_pos rfl, e]) r1
  · rw [if_neg e]
    rcases ons_c G r with ⟨e2, hno⟩ | ⟨a, b, c⟩
    · rw [e2]
      refine ons_no (fun p p0 p1 ep => ?_)
      have p1 : p < nn G + 1 := p1
      have ep : (if p = nn G then q else sq G p) = r := ep
      by_cases pz : p = nn G
      · rw [if_pos pz] at ep; omega
      · rw [if_neg pz] at ep; exact hno p p0 (by omega) ep
    · exact ons_is hO' a (show ons G r < nn G + 1 by omega) (show (if ons G r = nn G then q else sq G (ons G r)) = r by rw [if_neg (by omega), c]) r1
/-! a day -/
def tof (G : Bd) (o : Int) : Bd := if o = -4 then G else mov G o 36
noncomputable def DAY (G : Bd) (M : Int → Prop) (ra : Int) : Bd := if goer (setd G (dy G + 1)) M ra (dy G + 1) = -4 then sett (seth (setd G (dy G + 1)) (if th G < 9999 then th G + 1 else 9999)) (1 - tn G) else sett (mov (tof (setd G (dy G + 1)) (ons (setd G (dy G + 1)) (ide (setd G (dy G + 1)) (goer (setd G (dy G + 1)) M ra (dy G + 1)) (dy G + 1)))) (goer (setd G (dy G + 1)) M ra (dy G + 1)) (ide (setd G (dy G + 1)) (goer (setd G (dy G + 1)) M ra (dy G + 1)) (dy G + 1))) (1 - tn G)
theorem DAY_no {G : Bd} {M : Int → Prop} {ra : Int} (h : goer (setd G (dy G + 1)) M ra (dy G + 1) = -4) : DAY G M ra = sett (seth (setd G (dy G + 1)) (if th G < 9999 then th G + 1 else 9999)) (1 - tn G) := if_pos h
theorem DAY_go {G : Bd} {M : Int → Prop} {ra g s : Int} (hg : goer (setd G (dy G + 1)) M ra (dy G + 1) = g) (h : ¬ g = -4) (hs : ide (setd G (dy G + 1)) g (dy G + 1) = s) : DAY G M ra = sett (mov (tof (setd G (dy G + 1)) (ons (setd G (dy G + 1)) s)) g s) (1 - tn G) := by
  subst hg; subst hs; exact if_neg h
theorem OKB_tof {G : Bd} (hO : OKB G) (o : Int) : OKB (tof G o) := by
  unfold tof
  split
  · exact hO
  · exact OKB_mov hO (by omega) (by omega) (fun z => by omega)
theorem nn_tof {G : Bd} {o : Int} : nn (tof G o) = nn G := by unfold tof; split <;> rfl
/-- the square one goes to is free once who stood there is taken off -/
theorem ons_tof {G : Bd} (hO : OKB G) {s : Int} (s0 : 0 ≤ s) (s1 : s < 36) : ons (tof G (ons G s)) s = -4 := by
  unfold tof
  rcases ons_c G s with ⟨e, -⟩ | ⟨a, b, c⟩
  · rw [if_pos e]; exact e
  · rw [if_neg (by omega), ons_mov hO a b (by omega) (by omega) (fun z => by omega) s1, if_neg (by omega), if_pos c.symm]
theorem OKB_DAY {G : Bd} (hO : OKB G) {M : Int → Prop} {ra : Int} : OKB (DAY G M ra) := by
  have hd := hO.2.2.2.1
  have ht := hO.2.1
  have hth := hO.2.2.1
  have hO1 : OKB (setd G (dy G + 1)) := OKB_setd hO (by omega)
  by_cases hg : goer (setd G (dy G + 1)) M ra (dy G + 1) = -4
  · rw [DAY_no hg]
    exact OKB_sett (OKB_seth hO1 (by omega)) (by omega)
  · rw [DAY_go rfl hg rfl]
    rcases goer_R (G := setd G (dy G + 1)) (M := M) (ra := ra) (y := dy G + 1) hO1 with e | ⟨e0, e1, e2⟩
    · exact absurd e hg
    · have hi := @ide_R (setd G (dy G + 1)) (goer (setd G (dy G + 1)) M ra (dy G + 1)) (dy G + 1)
      have hi2 := e2.2.2.2
      exact OKB_sett (OKB_mov (OKB_tof hO1 _) (by omega) (by omega) (fun _ => Or.inl (ons_tof hO1 (by omega) (by omega)))) (by omega)
theorem DAY_f {G : Bd} {M : Int → Prop} {ra : Int} : nn (DAY G M ra) = nn G ∧ dy (DAY G M ra) = dy G + 1 ∧ kd (DAY G M ra) = kd G ∧ fg (DAY G M ra) = fg G ∧ sd (DAY G M ra) = sd G := by
  unfold DAY tof
  split
  · exact ⟨rfl, rfl, rfl, rfl, rfl⟩
  · split <;> exact ⟨rfl, rfl, rfl, rfl, rfl⟩
/-- n days on -/
noncomputable def dn (G : Bd) (M : Int → Prop) : Nat → Bd
  | 0 => G
  | n + 1 => DAY (dn G M n) M 0
noncomputable def DN (G : Bd) (M : Int → Prop) (n : Int) : Bd := dn G M n.toNat
theorem DN_0 (G : Bd) (M : Int → Prop) : DN G M 0 = G := rfl
theorem DN_up {G : Bd} {M : Int → Prop} {n : Int} (h : 0 ≤ n) : DN G M (n + 1) = DAY (DN G M n) M 0 := by
  obtain ⟨m, rfl⟩ := Int.eq_ofNat_of_zero_le h
  unfold DN
  rw [show ((m : Int) + 1).toNat = m + 1 by omega, show ((m : Int)).toNat = m by omega]
  rfl
theorem DN_f {G : Bd} {M : Int → Prop} (hO : OKB G) : ∀ n : Int, 0 ≤ n → OKB (DN G M n) ∧ nn (DN G M n) = nn G ∧ dy (DN G M n) = dy G + n ∧ kd (DN G M n) = kd G ∧ fg (DN G M n) = fg G ∧ sd (DN G M n) = sd G := by
  refine ind0 ⟨hO, rfl, by rw [DN_0]; omega, rfl, rfl, rfl⟩ (fun n h0 ih => ?_)
  rw [DN_up h0]
  have g := @DAY_f (DN G M n) M 0
  obtain ⟨i0, i1, i2, i3, i4, i5⟩ := ih
  exact ⟨OKB_DAY i0, g.1.trans i1, by rw [g.2.1, i2]; omega, g.2.2.1.trans i3, g.2.2.2.1.trans i4, g.2.2.2.2.trans i5⟩
abbrev no0 : Int → Prop := fun _ => False
/-! frames -/
def FrC (h h' : Mem) (b : Nat) : Prop := ∀ (t b' k : Nat), ¬ (b' = b ∧ (t = 0 ∨ (4 ≤ t ∧ t ≤ 8))) → hI h' t b' k = hI h t b' k
def FrR (h h' : Mem) (w : Nat) : Prop := ∀ (t b' k : Nat), ¬ (t = 12 ∧ b' = w) → hI h' t b' k = hI h t b' k
theorem FrC.rf {h : Mem} {b : Nat} : FrC h h b := fun _ _ _ _ => rfl
theorem FrR.rf {h : Mem} {b : Nat} : FrR h h b := fun _ _ _ _ => rfl
theorem FrC.tr {h h1 h2 : Mem} {b : Nat} (a : FrC h h1 b) (c : FrC h1 h2 b) : FrC h h2 b := fun t b' k hn => (c t b' k hn).trans (a t b' k hn)
theorem FrR.tr {h h1 h2 : Mem} {b : Nat} (a : FrR h h1 b) (c : FrR h1 h2 b) : FrR h h2 b := fun t b' k hn => (c t b' k hn).trans (a t b' k hn)
theorem hI_nt {h : Mem} {t b k : Nat} {x : Int32} {t' b' k' : Nat} (ht : ¬ t' = t) : hI (mset h t b k x) t' b' k' = hI h t' b' k' := by
  unfold hI mset; rw [if_neg (fun z => ht z.1)]
theorem hI_nb {h : Mem} {t b k : Nat} {x : Int32} {t' b' k' : Nat} (ht : ¬ b' = b) : hI (mset h t b k x) t' b' k' = hI h t' b' k' := by
  unfold hI mset; rw [if_neg (fun z => ht z.2.1)]
theorem hI_nk {h : Mem} {t b k : Nat} {x : Int32} {t' b' k' : Nat} (ht : ¬ k' = k) : hI (mset h t b k x) t' b' k' = hI h t' b' k' := by
  unfold hI mset; rw [if_neg (fun z => ht z.2.2)]
theorem hI_eq {h : Mem} {t b k : Nat} {z : Int} (hz : inR z) : hI (mset h t b k (I z)) t b k = z := by
  unfold hI mset; rw [if_pos ⟨rfl, rfl, rfl⟩, I_toInt hz]
theorem FrC.ms {h h' : Mem} {b t k : Nat} {x : Int32} (a : FrC h h' b) (ht : t = 0 ∨ (4 ≤ t ∧ t ≤ 8)) : FrC h (mset h' t b k x) b := by
  intro t' b' k' hn
  rw [← a t' b' k' hn]
  by_cases e : b' = b
  · exact hI_nt (fun z => hn ⟨e, by rw [z]; exact ht⟩)
  · exact hI_nb e
theorem FrR.ms {h h' : Mem} {w k : Nat} {x : Int32} (a : FrR h h' w) : FrR h (mset h' 12 w k x) w := by
  intro t' b' k' hn
  rw [← a t' b' k' hn]
  by_cases e : t' = 12
  · exact hI_nb (fun z => hn ⟨e, z⟩)
  · exact hI_nt e
theorem RC.fr {h h' : Mem} {b b1 : Nat} {G : Bd} (H : RC h b G) (hF : FrC h h' b1) (hb : ¬ b = b1) : RC h' b G := by
  have e : ∀ t k, hI h' t b k = hI h t b k := fun t k => hF t b k (fun z => hb z.1)
  unfold RC
  simp only [e]
  exact H
theorem RC.frR {h h' : Mem} {b w : Nat} {G : Bd} (H : RC h b G) (hF : FrR h h' w) : RC h' b G := by
  unfold RC
  rw [hF 0 b 5 (by omega), hF 0 b 6 (by omega), hF 0 b 7 (by omega), hF 0 b 8 (by omega)]
  refine ⟨H.1, H.2.1, H.2.2.1, H.2.2.2.1, fun p p0 p1 => ?_, fun q q0 q1 => ?_⟩
  · rw [hF 4 b _ (by omega), hF 5 b _ (by omega), hF 6 b _ (by omega), hF 7 b _ (by omega)]
    exact H.2.2.2.2.1 p p0 p1
  · rw [hF 8 b _ (by omega)]
    exact H.2.2.2.2.2 q q0 q1
theorem RR.frC {h h' : Mem} {b w : Nat} {G : Bd} {M : Int → Prop} {ra : Int} (H : RR h w G M ra) (hF : FrC h h' b) : RR h' w G M ra := by
  have e : ∀ k, hI h' 12 w k = hI h 12 w k := fun k => hF 12 w k (fun z => by omega)
  unfold RR
  simp only [e]
  exact H
theorem RR.fr {h h' : Mem} {w w1 : Nat} {G : Bd} {M : Int → Prop} {ra : Int} (H : RR h w G M ra) (hF : FrR h h' w1) (hb : ¬ w = w1) : RR h' w G M ra := by
  have e : ∀ k, hI h' 12 w k = hI h 12 w k := fun k => hF 12 w k (fun z => hb z.2)
  unfold RR
  simp only [e]
  exact H


