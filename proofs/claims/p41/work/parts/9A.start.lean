/-! AT THE START: the memory -/
def h0M (xs : Nat → Int32) : Mem := fun t _ k => if t = 8 then fll 36 (I (-4)) zI k else if t = 22 then xs k else I 0
def G0 : Bd := (0, 0, 0, 0, fun _ => 0, fun _ => 0, fun _ => 0, fun _ => 0)
def S0 : Sv := (fun _ => 0, fun _ => 0, fun _ => 0, fun _ => 0, fun _ => 0, fun _ _ => 0)
theorem h0_z {xs : Nat → Int32} {t b k : Nat} (h : t < 8 ∨ (8 < t ∧ t < 22)) : hI (h0M xs) t b k = 0 := by
  unfold hI h0M
  rw [if_neg (by omega), if_neg (by omega)]
  exact I_toInt ⟨by omega, by omega⟩
theorem h0_8 {xs : Nat → Int32} {b k : Nat} (h : k < 36) : hI (h0M xs) 8 b k = -4 := by
  unfold hI h0M
  rw [if_pos rfl]
  unfold fll
  rw [if_pos h]
  exact I_toInt ⟨by omega, by omega⟩
theorem h0_RC (xs : Nat → Int32) : RC (h0M xs) 0 G0 := by
  refine ⟨h0_z (by omega), h0_z (by omega), h0_z (by omega), h0_z (by omega), fun p p0 p1 => ?_, fun q q0 q1 => ?_⟩
  · have : nn G0 = 0 := rfl
    omega
  · rw [h0_8 (by omega)]
    have : nn G0 = 0 := rfl
    rcases ons_c G0 q with h | h
    · exact h.1.symm
    · omega
theorem h0_RV (xs : Nat → Int32) : RV (h0M xs) G0 := by
  refine ⟨h0_z (by omega), h0_z (by omega), h0_z (by omega), h0_z (by omega), (h0_z (by omega)).trans (BT_emp : BT no0 = 0).symm, h0_z (by omega), fun p p0 p1 => ?_⟩
  have : nn G0 = 0 := rfl
  omega
theorem h0_SC (xs : Nat → Int32) : SC (h0M xs) S0 := fun d d0 d1 => ⟨h0_z (by omega), fun e => by have : ho S0 d = 0 := rfl; omega, fun e => by have : ho S0 d = 0 := rfl; omega⟩
theorem G0_ok : OKB G0 := by
  have : nn G0 = 0 := rfl
  exact ⟨⟨by omega, by omega⟩, Or.inl rfl, ⟨by decide, by decide⟩, by decide, fun p p0 p1 => by omega, fun p q p0 p1 => by omega⟩
theorem S0_ok : OKS S0 := fun d d0 d1 => by
  have : ho S0 d = 0 := rfl
  exact ⟨Or.inl rfl, fun e => by omega, fun e => by omega⟩
theorem S0_oke : OKE S0 := fun d d0 d1 e => by
  have : ho S0 d = 0 := rfl
  omega
