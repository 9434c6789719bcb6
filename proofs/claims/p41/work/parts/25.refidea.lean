/-! THE REFERENCE'S ROW AS A VALUE, and its ideas -/
def m4 (q : Int) : Int := if q = 36 then -4 else q
/-- row k holds G; mute: M; rains: ra -/
def RR (h : Mem) (k : Nat) (G : Bd) (M : Int → Prop) (ra : Int) : Prop := hI h 12 k 0 = nn G ∧ hI h 12 k 1 = dy G ∧ hI h 12 k 2 = tn G ∧ hI h 12 k 3 = th G ∧ hI h 12 k 4 = BT M ∧ hI h 12 k 5 = ra ∧ ∀ p : Int, 0 ≤ p → p < nn G → hI h 12 k (6 + 4 * p + 0).toNat = kd G p ∧ hI h 12 k (6 + 4 * p + 1).toNat = fg G p ∧ hI h 12 k (6 + 4 * p + 2).toNat = sd G p ∧ hI h 12 k (6 + 4 * p + 3).toNat = m4 (sq G p)
section R0
variable {h : Mem} {w : Nat} {G : Bd} {M : Int → Prop} {ra : Int}
theorem RR.n (H : RR h w G M ra) : hI h 12 w (Int.toNat 0) = nn G := H.1
theorem RR.d (H : RR h w G M ra) : hI h 12 w (Int.toNat 1) = dy G := H.2.1
theorem RR.t (H : RR h w G M ra) : hI h 12 w (Int.toNat 2) = tn G := H.2.2.1
theorem RR.o (H : RR h w G M ra) : hI h 12 w (Int.toNat 3) = th G := H.2.2.2.1
theorem RR.k (H : RR h w G M ra) {p : Int} (h0 : 0 ≤ p) (h1 : p < nn G) : hI h 12 w (6 + 4 * p + 0).toNat = kd G p := (H.2.2.2.2.2.2 p h0 h1).1
theorem RR.f (H : RR h w G M ra) {p : Int} (h0 : 0 ≤ p) (h1 : p < nn G) : hI h 12 w (6 + 4 * p + 1).toNat = fg G p := (H.2.2.2.2.2.2 p h0 h1).2.1
theorem RR.s (H : RR h w G M ra) {p : Int} (h0 : 0 ≤ p) (h1 : p < nn G) : hI h 12 w (6 + 4 * p + 2).toNat = sd G p := (H.2.2.2.2.2.2 p h0 h1).2.2.1
theorem RR.q (H : RR h w G M ra) {p : Int} (h0 : 0 ≤ p) (h1 : p < nn G) : hI h 12 w (6 + 4 * p + 3).toNat = m4 (sq G p) := (H.2.2.2.2.2.2 p h0 h1).2.2.2
theorem m4_p {q : Int} (h : q < 36) : m4 q = q := by unfold m4; omega
theorem m4_R {q : Int} : (¬ q = 36 ∧ m4 q = q) ∨ (q = 36 ∧ m4 q = -4) := by unfold m4; omega
end R0


