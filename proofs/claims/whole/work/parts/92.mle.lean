/-! the law's long array: stored and read; the law's element -/
theorem lng_set (h : Mem) {v : Int} (hv : inR v) : ∃ h2 : Mem, (∀ t b : Nat, ¬ (t = 23 ∧ b = 0) → h2 t b = h t b) ∧ lng (h2 23 0) 0 = L v := by
  by_cases v0 : 0 ≤ v
  · refine ⟨mset (mset h 23 0 0 (I 0)) 23 0 1 (I (v - 2147483648)), fun t b hn => by rw [mset_ne hn, mset_ne hn], ?_⟩
    unfold lng L
    have e0 : (mset (mset h 23 0 0 (I 0)) 23 0 1 (I (v - 2147483648)) 23 0 0).toInt = 0 := by
      show hI _ 23 0 0 = 0
      rw [hI_nk (by omega), hI_eq ⟨by omega, by omega⟩]
    have e1 : (mset (mset h 23 0 0 (I 0)) 23 0 1 (I (v - 2147483648)) 23 0 1).toInt = v - 2147483648 := by
      show hI _ 23 0 1 = _
      rw [hI_eq ⟨by omega, by omega⟩]
    rw [e0, e1]
    congr 1
    omega
  · refine ⟨mset (mset h 23 0 0 (I (-1))) 23 0 1 (I (v + 2147483648)), fun t b hn => by rw [mset_ne hn, mset_ne hn], ?_⟩
    unfold lng L
    have e0 : (mset (mset h 23 0 0 (I (-1))) 23 0 1 (I (v + 2147483648)) 23 0 0).toInt = -1 := by
      show hI _ 23 0 0 = -1
      rw [hI_nk (by omega), hI_eq ⟨by omega, by omega⟩]
    have e1 : (mset (mset h 23 0 0 (I (-1))) 23 0 1 (I (v + 2147483648)) 23 0 1).toInt = v + 2147483648 := by
      show hI _ 23 0 1 = _
      rw [hI_eq ⟨by omega, by omega⟩]
    rw [e0, e1]
    congr 1
    omega
section LA
variable {p : Program} {l : Launch} {e : Env} {R : Room} {s : State} {m : MethodId} {args : Array Value} {below : List Frame} {meth : Method} {c : Code} {cells slots : Nat} {Q : State → Prop} {cc : ByteArray} {own nL : Nat} {D : va_G} {cI cS cB : ClassId} {ad : Nat → Nat → Nat} {A : Nat → Prop} {xs : Nat → Int32}
/-- the long array's class is known too -/
def KL (D : va_G) (ad : Nat → Nat → Nat) (cI cS cB : ClassId) (U : State) : Prop := va_K D vwCl ((ad 23 1, .long) :: tysA cI cS cB) U
theorem i0_in : vp_in (I 0) 1 := I_vp (n := 1) (by omega) (by omega) (by omega)
theorem i0_nat : (I 0).toNatClampNeg = 0 := I_nat (a := 0) (by omega) (by omega)
theorem sn_last (hF : Fx p s m args c cc own nL D cI cS cB) (hK2 : KL D ad cI cS cB s) {h : Mem} {H : Heap} {locs : List Loc} (hW : Wd ad cI cS cB D A s xs h H locs) {pc : Nat} {ls : Array Slot} {rest : List Value} {x : Int64} (hd : decode cc pc = .ok (.lastore, 1)) (h2 : Mem) (hh : ∀ t' b', ¬ (t' = 23 ∧ b' = 0) → h2 t' b' = h t' b') (hx : lng (h2 23 0) 0 = x)
    (kk : ∀ (H1 : Heap) (locs1 : List Loc), Wd ad cI cS cB D A s xs h2 H1 locs1 → W p l e R s m args below meth c H1 locs1 cells slots Q (F0 m (pc + 1) ls rest)) : W p l e R s m args below meth c H locs cells slots Q (F0 m pc ls (.long x :: .int (I 0) :: .ref (ad 23 0) :: rest)) := by
  obtain ⟨q, hq, hq2⟩ := wsA_23 (ad := ad) (cI := cI) (cS := cS) (cB := cB) (h := h)
  rw [cellA_23] at hq2
  refine va_last hF.1 hF.2.1 hK2 hW.1 hW.2.1 hW.2.2.1 q 0 hq2 rfl i0_in hd (fun H1 locs1 hP hD hS => kk H1 locs1 ⟨?_, vaD_ad hW.2.1, hS, by rw [hh 22 0 (by omega)]; exact hW.2.2.2⟩)
  rw [← wsA_set (ad := ad) (cI := cI) (cS := cS) (cB := cB) hq hh]
  intro k q' hk
  have hl := (List.getElem?_eq_some_iff.mp hq2).1
  by_cases e : q = k
  · subst e
    rw [List.getElem?_set_self hl] at hk
    cases hk
    have h9 := hP q (ad 23 0, .inl (ad 23 1, 1, .inr (.inl (vp_updL (lng (h 23 0)) (I 0).toNatClampNeg x)))) (List.getElem?_set_self hl)
    show H1[ad 23 0]? = some (vp_cell _ _)
    rw [lng_cell (f := lng (h2 23 0)) (g := vp_updL (lng (h 23 0)) (I 0).toNatClampNeg x) (by rw [hx, i0_nat]; exact (if_pos rfl).symm)]
    exact h9
  · rw [List.getElem?_set_ne e] at hk
    exact hP k q' (by rw [List.getElem?_set_ne e]; exact hk)
theorem sn_lald (hF : Fx p s m args c cc own nL D cI cS cB) (hK2 : KL D ad cI cS cB s) {h : Mem} {H : Heap} {locs : List Loc} (hW : Wd ad cI cS cB D A s xs h H locs) {pc : Nat} {ls : Array Slot} {rest : List Value} (hd : decode cc pc = .ok (.laload, 1))
    (kk : W p l e R s m args below meth c H locs cells slots Q (F0 m (pc + 1) ls (.long (lng (h 23 0) 0) :: rest))) : W p l e R s m args below meth c H locs cells slots Q (F0 m pc ls (.int (I 0) :: .ref (ad 23 0) :: rest)) := by
  obtain ⟨q, hq, hq2⟩ := wsA_23 (ad := ad) (cI := cI) (cS := cS) (cB := cB) (h := h)
  rw [cellA_23] at hq2
  refine va_lald hF.1 hF.2.1 hK2 hW.1 q 0 hq2 rfl i0_in hd ?_
  rw [i0_nat]
  exact kk
end LA
def aPcL (ad : Nat → Nat → Nat) (cI cS cB : ClassId) (D : va_G) (as : List AV) (h : Mem) (sz : Nat) : Array Value → State → Prop := fun a U => aPcX ad cI cS cB D as h sz a U ∧ KL D ad cI cS cB U
theorem aPcL_blind {ad : Nat → Nat → Nat} {cI cS cB : ClassId} {D : va_G} {as : List AV} {h : Mem} {sz : Nat} : FrameBlind (aPcL ad cI cS cB D as h sz) := by
  intro a U g mk q
  exact ⟨aPcX_blind a U g mk q.1, va_K.moved (u := U) (U := U.calling g mk a) (Vm.Alike.refl U.vm) q.2⟩
def hhE : List (Nat × Nat × Nat × Nat) := [(0, 9, 12, 13), (0, 9, 16, 15)]
def wsLE : List Jvm.Cond := .codeWith yL_element cL_element 5 (some .int) hhE :: WSg
def rmLE : Room := { frames := 40, cells := 1, slots := 6, locals := 1600 }
set_option maxRecDepth 100000 in
theorem le_k13 : InT (.classLink "TakenUpByThePiecesLaw" 13 eIA) := ⟨by decide +kernel, rfl⟩
set_option maxRecDepth 100000 in
theorem le_k15 : InT (.classLink "TakenUpByThePiecesLaw" 15 eIS) := ⟨by decide +kernel, rfl⟩
set_option maxRecDepth 100000 in
theorem le_l7 : InT (.methodLink "TakenUpByThePiecesLaw" 7 yX3_element) := ⟨by decide +kernel, rfl⟩
set_option maxRecDepth 100000 in
theorem le_iEL : InT (.instanceMethod yX3_element) := ⟨by decide +kernel, rfl⟩
set_option maxRecDepth 100000 in
theorem le_nEL : InT (.initialized yX3_element.cls) := ⟨by decide +kernel, rfl⟩
set_option maxRecDepth 100000 in
theorem le_sEL : InT (.selects yX3_element.cls yX3_element yX3_element) := ⟨by decide +kernel, rfl⟩
set_option maxRecDepth 100000 in
theorem le_cEL : InT (.code yX3_element cX3_element 4 (some .long)) := ⟨by decide +kernel, rfl⟩
theorem dL_element_5 : decode cL_element 5 = .ok (.invokevirtual 7, 3) := by decide +kernel
theorem dL_element_8 : decode cL_element 8 = .ok (.lastore, 1) := by decide +kernel
theorem dL_element_12 : decode cL_element 12 = .ok (.astore 4, 2) := by decide +kernel
theorem dL_element_16 : decode cL_element 16 = .ok (.astore 4, 2) := by decide +kernel
def lRt (S : Sv) (z w : Int) (h : Mem) : Option AV → Mem → Prop := fun v h' => v = some (ai (I (vThr S z w))) ∧ (∀ t b : Nat, ¬ (t = 23 ∧ b = 0) → h' t b = h t b) ∧ (vThr S z w = 0 → lng (h' 23 0) 0 = L (vElt S z w))
