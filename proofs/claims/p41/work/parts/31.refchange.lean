/-! CHANGES, the reference's -/
section R1
variable {h : Mem} {w : Nat} {G : Bd} {M : Int → Prop} {ra : Int}
theorem RR.set_d (H : RR h w G M ra) {z : Int} (hz : inR z) {j : Nat} (hj : j = 1) : RR (mset h 12 w j (I z)) w (setd G z) M ra := by
  subst hj
  refine ⟨?_, ?_, ?_, ?_, ?_, ?_, fun p p0 p1 => ⟨?_, ?_, ?_, ?_⟩⟩
  · rw [hI_nk (by omega)]; exact H.1
  · rw [hI_eq hz]; rfl
  · rw [hI_nk (by omega)]; exact H.2.2.1
  · rw [hI_nk (by omega)]; exact H.2.2.2.1
  · rw [hI_nk (by omega)]; exact H.2.2.2.2.1
  · rw [hI_nk (by omega)]; exact H.2.2.2.2.2.1
  · rw [hI_nk (by omega)]; exact H.k p0 p1
  · rw [hI_nk (by omega)]; exact H.f p0 p1
  · rw [hI_nk (by omega)]; exact H.s p0 p1
  · rw [hI_nk (by omega)]; exact H.q p0 p1
theorem RR.set_t (H : RR h w G M ra) {z : Int} (hz : inR z) {j : Nat} (hj : j = 2) : RR (mset h 12 w j (I z)) w (sett G z) M ra := by
  subst hj
  refine ⟨?_, ?_, ?_, ?_, ?_, ?_, fun p p0 p1 => ⟨?_, ?_, ?_, ?_⟩⟩
  · rw [hI_nk (by omega)]; exact H.1
  · rw [hI_nk (by omega)]; exact H.2.1
  · rw [hI_eq hz]; rfl
  · rw [hI_nk (by omega)]; exact H.2.2.2.1
  · rw [hI_nk (by omega)]; exact H.2.2.2.2.1
  · rw [hI_nk (by omega)]; exact H.2.2.2.2.2.1
  · rw [hI_nk (by omega)]; exact H.k p0 p1
  · rw [hI_nk (by omega)]; exact H.f p0 p1
  · rw [hI_nk (by omega)]; exact H.s p0 p1
  · rw [hI_nk (by omega)]; exact H.q p0 p1
theorem RR.set_h (H : RR h w G M ra) {z : Int} (hz : inR z) {j : Nat} (hj : j = 3) : RR (mset h 12 w j (I z)) w (seth G z) M ra := by
  subst hj
  refine ⟨?_, ?_, ?_, ?_, ?_, ?_, fun p p0 p1 => ⟨?_, ?_, ?_, ?_⟩⟩
  · rw [hI_nk (by omega)]; exact H.1
  · rw [hI_nk (by omega)]; exact H.2.1
  · rw [hI_nk (by omega)]; exact H.2.2.1
  · rw [hI_eq hz]; rfl
  · rw [hI_nk (by omega)]; exact H.2.2.2.2.1
  · rw [hI_nk (by omega)]; exact H.2.2.2.2.2.1
  · rw [hI_nk (by omega)]; exact H.k p0 p1
  · rw [hI_nk (by omega)]; exact H.f p0 p1
  · rw [hI_nk (by omega)]; exact H.s p0 p1
  · rw [hI_nk (by omega)]; exact H.q p0 p1
end R1


