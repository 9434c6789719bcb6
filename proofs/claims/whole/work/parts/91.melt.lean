/-! element's contract: the class's, which throws -/
def wsEL : List Jvm.Cond := .code yX3_element cX3_element 4 (some .long) :: WSg
def rmE : Room := { frames := 20, cells := 1, slots := 6, locals := 800 }
set_option maxRecDepth 100000 in
theorem el_k277 : InT (.classLink "TakenUpByThePieces" 277 eIA) := ⟨by decide +kernel, rfl⟩
set_option maxRecDepth 100000 in
theorem el_l289 : InT (.methodLink "TakenUpByThePieces" 289 yX2_hasPlace) := ⟨by decide +kernel, rfl⟩
set_option maxRecDepth 100000 in
theorem el_ihp : InT (.instanceMethod yX2_hasPlace) := ⟨by decide +kernel, rfl⟩
set_option maxRecDepth 100000 in
theorem el_nhp : InT (.initialized yX2_hasPlace.cls) := ⟨by decide +kernel, rfl⟩
set_option maxRecDepth 100000 in
theorem el_shp : InT (.selects yX2_hasPlace.cls yX2_hasPlace yX2_hasPlace) := ⟨by decide +kernel, rfl⟩
theorem cv_289 : cvP (2, 289, 48, 2) := ⟨iX2_hasPlace, rfl, el_l289, el_ihp, el_nhp, el_shp, by decide, by decide +kernel⟩
theorem dX3_element_10 : decode cX3_element 10 = .ok (.new 277, 3) := by decide +kernel
theorem dX3_element_13 : decode cX3_element 13 = .ok (.dup, 1) := by decide +kernel
theorem dX3_element_14 : decode cX3_element 14 = .ok (.ldc_w 279, 3) := by decide +kernel
theorem dX3_element_17 : decode cX3_element 17 = .ok (.invokespecial 281, 3) := by decide +kernel
theorem dX3_element_20 : decode cX3_element 20 = .ok (.athrow, 1) := by decide +kernel
theorem dX3_element_29 : decode cX3_element 29 = .ok (.new 284, 3) := by decide +kernel
theorem dX3_element_32 : decode cX3_element 32 = .ok (.dup, 1) := by decide +kernel
theorem dX3_element_33 : decode cX3_element 33 = .ok (.ldc_w 286, 3) := by decide +kernel
theorem dX3_element_36 : decode cX3_element 36 = .ok (.invokespecial 288, 3) := by decide +kernel
theorem dX3_element_39 : decode cX3_element 39 = .ok (.athrow, 1) := by decide +kernel
theorem dX3_element_42 : decode cX3_element 42 = .ok (.invokevirtual 289, 3) := by decide +kernel
theorem dX3_element_48 : decode cX3_element 48 = .ok (.new 284, 3) := by decide +kernel
theorem dX3_element_51 : decode cX3_element 51 = .ok (.dup, 1) := by decide +kernel
theorem dX3_element_52 : decode cX3_element 52 = .ok (.ldc_w 292, 3) := by decide +kernel
theorem dX3_element_55 : decode cX3_element 55 = .ok (.invokespecial 288, 3) := by decide +kernel
theorem dX3_element_58 : decode cX3_element 58 = .ok (.athrow, 1) := by decide +kernel
def elX (S : Sv) (z w : Int) : String → Prop := fun E => (vThr S z w = 1 ∧ E = eIA) ∨ (vThr S z w = 2 ∧ E = eIS)
section ME
set_option maxHeartbeats 4000000 in
set_option maxRecDepth 10000 in
theorem m_elt (l : Launch) (hl : l.stackTraces = false) (ad : Nat → Nat → Nat) (cI cS cB : ClassId) (D : va_G) {z w : Int} (hz : inR z) (hw : inR w) {S : Sv} (h : Mem) (hS : SC h S) (hKS : OKS S) (sz : Nat) :
    vx_Met l yX3_element wsEL rmE (aPcX ad cI cS cB D [ar 2 0, ai (I z), ai (I w)] h sz) (aQc ad cI cS cB D (aA ad cI cS cB h sz) h (eRt S z w h)) (aXc ad cI cS cB D (aA ad cI cS cB h sz) h (elX S z w)) 1 6 (aA ad cI cS cB h sz) := by
  refine vx_ofW (cc := cX3_element) (maxL := 4) (ret := some .long) (by decide +kernel) rfl ?_
  intro p e s m args below meth c s₁ B hml htb hv
  obtain ⟨⟨rfl, hsz, hP, hK, hD0, hN⟩, hX⟩ := hv
  subst hsz
  have hts := atoms_spec (ws := wsEL) B.pre
  have hown : s.vm.findClass yX3_element.cls = some m.cls := findClass_of_methodNamed B.named
  have hts1 : ∀ w' ∈ WSg, w'.before ([ar 2 0, ai (I z), ai (I w)].map (conc ad)).toArray s = true := fun w hw => hts w (List.mem_cons_of_mem _ hw)
  have hwd : ∀ w', InT w' → w'.before ([ar 2 0, ai (I z), ai (I w)].map (conc ad)).toArray s = true := fun w hw => hts1 w (WSg_in hw)
  have hF : Fx p s m ([ar 2 0, ai (I z), ai (I w)].map (conc ad)).toArray c cX3_element 2 4 D cI cS cB := ⟨B.exec, B.bytes, hml, hown, hts1, hK, hN⟩
  have hW : Wd ad cI cS cB D (aA ad cI cS cB h s.heap.size) s (h 22 0) h s.heap [] := ⟨hP, hD0.self, va_S.rf, rfl⟩
  have hA : ∀ q, s.heap.size ≤ q → aA ad cI cS cB h s.heap.size q := fun q hq => Or.inr hq
  have hlocks := B.notSynchronized
  have hret := B.returns
  have hX' := hX.2.2.2.2
  have hR : 3 + 1 ≤ (headSpec wsEL rmE).room.frames ∧ 40 * (3 + 1) ≤ (headSpec wsEL rmE).room.locals ∧ 0 ≤ (headSpec wsEL rmE).room.cells ∧ 0 ≤ (headSpec wsEL rmE).room.slots := ⟨by decide, by decide, Nat.zero_le _, Nat.zero_le _⟩
  have kr : ∀ (v : Option AV) (ins : Instr) (pc' : Nat) (h' : Mem) (H' : Heap) (locs' : List Loc) (Lm' : Array Slot), Wd ad cI cS cB D (aA ad cI cS cB h s.heap.size) s (h 22 0) h' H' locs' → (∀ w, v = some w → vld w) → retOk (some .long) v ins → decode cX3_element pc' = .ok (ins, 1) → eRt S z w h v h' → W p l e (headSpec wsEL rmE).room s m ([ar 2 0, ai (I z), ai (I w)].map (conc ad)).toArray below meth c H' locs' 0 0 (vx_MQ below (aQc ad cI cS cB D (aA ad cI cS cB h s.heap.size) h (eRt S z w h)) (aXc ad cI cS cB D (aA ad cI cS cB h s.heap.size) h (elX S z w)) ([ar 2 0, ai (I z), ai (I w)].map (conc ad)).toArray s 1 6 (aA ad cI cS cB h s.heap.size)) (F0 m pc' Lm' (v.toList.map (conc ad))) := by
    intro v ins pc' h' H' locs' Lm' hW' hvl hro hdc hq
    obtain ⟨rfl, rfl, h0⟩ := hq
    obtain ⟨rfl, hr0⟩ := hro
    refine vx_ret (W.widen (k := 1) (n := 6) (Nat.zero_le _) (Nat.zero_le _) ?_)
    exact W.lret B.exec B.bytes hret (fun t ht hWm => ⟨some (al (L (vElt S z w))), h', rfl, hvl, ⟨rfl, rfl, h0⟩, by rw [ht]; exact hW'.1, hW'.2.2.2, hW'.2.2.1.F ht⟩) hW'.2.2.1.2.2 hdc
  have hxc : ∀ (H' : Heap) (locs' : List Loc), Wd ad cI cS cB D (aA ad cI cS cB h s.heap.size) s (h 22 0) h H' locs' → ∀ cls, elX S z w cls → ∀ t : State, s.vm.Alike t.vm → H'.size ≤ t.heap.size → (∀ q : Nat, q < H'.size → t.heap[q]? = H'[q]?) → aXc ad cI cS cB D (aA ad cI cS cB h s.heap.size) h (elX S z w) cls s t := by
    intro H' locs' hW' cls hcls t _ z1 z2
    refine ⟨hcls, fun i q hq => (hW'.1 i q hq).kept (z2 _ ((hW'.1 i q hq).lt)), Nat.le_trans hW'.2.2.1.1 z1, fun q h1 h2 => ?_⟩
    rw [z2 q (Nat.lt_of_lt_of_le h1 hW'.2.2.1.1)]
    exact hW'.2.2.1.2.1 q h1 h2
  have hgd : ∀ {a b : Jvm.Cond} {r : List Jvm.Cond}, vx_ot a = true → vx_ot b = true → (∀ w ∈ r, vx_ot w = true) → ∀ w ∈ a :: b :: r, vx_ot w = true := by
    intro a b r ha hb hr w hw
    rcases List.mem_cons.mp hw with rfl | hw
    · exact ha
    rcases List.mem_cons.mp hw with rfl | hw
    · exact hb
    · exact hr w hw
  obtain ⟨i1, i2⟩ := sub_hat sub_281 hts1 hX'
  obtain ⟨j1, j2⟩ := sub_hat sub_288 hts1 hX'
  rw [lg_entry_eq]
  refine snR (st := []) hF (L := 0) (Or.inl rfl) (met_all l ad cI cS cB D 3) hR hA okX3_element (fun pc' ls' st' h' H' locs' Lm' hW' hL' hv' hs => ?_) (fun _ _ _ _ _ _ _ _ _ _ _ z => z.elim) (r_elt0 (d := 1) (w := w) hS hz) hW (ent_Rls (as := [ar 2 0, ai (I z), ai (I w)]) (n := 4) (vlds_c (v := ar 2 0) (show (0 : Nat) < ocn 2 by decide) (vI (vI (fun _ q => by cases q)))) (Nat.le_of_ble_eq_true rfl)) (fun _ q => by cases q)
  unfold eStop at hs
  have hsz2 : Lm'.size = c.maxLocals := by rw [hml]; exact hL'.2.1.1
  obtain ⟨rfl, ⟨rfl, rfl, c1⟩ | ⟨rfl, rfl, c1, c2⟩ | ⟨rfl, rfl, rfl, ⟨z0, z1⟩, hh⟩⟩ := hs
  · obtain ⟨sa, hsa⟩ := hX.2.2.1 ("TakenUpByThePieces", 279, "no such shelf") (by simp [XST])
    exact vx_throwSW B.exec B.bytes hl (own := "TakenUpByThePieces") (cls := eIA) (names := rtn) (ik := 277) (is := 279) (ic := 281) hown (by decide +kernel) (by decide +kernel) (hwd _ el_k277) (hwd _ fw_iIA) hsa i1 (hgd (by decide +kernel) (by decide +kernel) i2) hX.1 hX.2.1 hW'.2.2.1 hsz2 dX3_element_10 dX3_element_13 dX3_element_14 dX3_element_17 dX3_element_20 (fun x hx => (htb x hx).elim) (by decide) (Nat.le_of_ble_eq_true rfl) (by decide) (by decide) hlocks (hxc _ _ hW' _ (Or.inl ⟨by unfold vThr; rw [if_pos c1], rfl⟩)) hW'.2.2.1.2.2 (Nat.le_refl _) (Nat.le_refl _)
  · obtain ⟨sa, hsa⟩ := hX.2.2.1 ("TakenUpByThePieces", 286, "no row") (by simp [XST])
    exact vx_throwSW B.exec B.bytes hl (own := "TakenUpByThePieces") (cls := eIS) (names := rtn) (ik := 284) (is := 286) (ic := 288) hown (by decide +kernel) (by decide +kernel) (hwd _ to_k284) (hwd _ fw_iIS) hsa j1 (hgd (by decide +kernel) (by decide +kernel) j2) hX.1 hX.2.1 hW'.2.2.1 hsz2 dX3_element_29 dX3_element_32 dX3_element_33 dX3_element_36 dX3_element_39 (fun x hx => (htb x hx).elim) (by decide) (Nat.le_of_ble_eq_true rfl) (by decide) (by decide) hlocks (hxc _ _ hW' _ (Or.inr ⟨by unfold vThr; omega, rfl⟩)) hW'.2.2.1.2.2 (Nat.le_refl _) (Nat.le_refl _)
  · refine sn_callV (d := 3) (CL := Rn mt 3) (n := 2) (t := 1) hF (met_all l ad cI cS cB D 3) hR cv_289 (fun mi hmi => by cases hmi; rfl) (by decide) hW' hA hL'.2.1.1 hv' (by simp) (Nat.le_of_ble_eq_true rfl) rfl dX3_element_42 (r_eltH (d := 2) hS hKS hw z0 z1 hh) (fun v h2 H2 locs2 hvl hq hW2 => ?_)
    obtain ⟨rfl, ⟨rfl, w0, w1⟩ | ⟨rfl, w1⟩⟩ := hq
    · exact snR (st := [ai (I 1)]) hF (L := 0) (Or.inl rfl) (met_all l ad cI cS cB D 3) hR hA okX3_element (fun _ _ _ _ _ _ _ _ _ _ z => z.elim) kr (r_elt1 (d := 1) hS hKS hw z0 z1 hh w0 w1) hW2 hL' (vI (fun _ q => by cases q))
    · refine snR (st := [ai (I 0)]) hF (L := 0) (Or.inl rfl) (met_all l ad cI cS cB D 3) hR hA okX3_element (fun pc' ls' st' h' H' locs' Lm' hW' hL' hv' hs => ?_) kr (r_elt2 (d := 1)) hW2 hL' (vI (fun _ q => by cases q))
      unfold eStop2 at hs
      obtain ⟨rfl, rfl, rfl⟩ := hs
      have hsz2 : Lm'.size = c.maxLocals := by rw [hml]; exact hL'.2.1.1
      obtain ⟨sa, hsa⟩ := hX.2.2.1 ("TakenUpByThePieces", 292, "no such place") (by simp [XST])
      exact vx_throwSW B.exec B.bytes hl (own := "TakenUpByThePieces") (cls := eIS) (names := rtn) (ik := 284) (is := 292) (ic := 288) hown (by decide +kernel) (by decide +kernel) (hwd _ to_k284) (hwd _ fw_iIS) hsa j1 (hgd (by decide +kernel) (by decide +kernel) j2) hX.1 hX.2.1 hW'.2.2.1 hsz2 dX3_element_48 dX3_element_51 dX3_element_52 dX3_element_55 dX3_element_58 (fun x hx => (htb x hx).elim) (by decide) (Nat.le_of_ble_eq_true rfl) (by decide) (by decide) hlocks (hxc _ _ hW' _ (Or.inr ⟨by unfold vThr; omega, rfl⟩)) hW'.2.2.1.2.2 (Nat.le_refl _) (Nat.le_refl _)
end ME
