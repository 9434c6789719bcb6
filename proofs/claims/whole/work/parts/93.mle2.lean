/-! the law's element: its contract, walked -/
section ML
set_option maxHeartbeats 4000000 in
set_option maxRecDepth 10000 in
theorem m_le (l : Launch) (hl : l.stackTraces = false) (ad : Nat → Nat → Nat) (cI cS cB : ClassId) (D : va_G) {z w : Int} (hz : inR z) (hw : inR w) {S : Sv} (h : Mem) (hS : SC h S) (hKS : OKS S) (sz : Nat) :
    vx_Met l yL_element wsLE rmLE (aPcL ad cI cS cB D [ar 2 0, ai (I z), ai (I w), ar 23 0] h sz) (aQc ad cI cS cB D (aA ad cI cS cB h sz) h (lRt S z w h)) (fun _ _ _ => False) 1 6 (aA ad cI cS cB h sz) := by
  refine vx_ofWH (cc := cL_element) (maxL := 5) (ret := some .int) (hh := hhE) (by decide +kernel) rfl ?_
  intro p e s m args below meth c s₁ B hml hv
  obtain ⟨⟨⟨rfl, hsz, hP, hK, hD0, hN⟩, hX⟩, hKL⟩ := hv
  subst hsz
  have hts := atoms_spec (ws := wsLE) B.pre
  have htb : c.exceptionTable.toList = tableOf hhE := vx_table (x := yL_element) B (hts _ List.mem_cons_self)
  have hown : s.vm.findClass yL_element.cls = some m.cls := findClass_of_methodNamed B.named
  have hts1 : ∀ w' ∈ WSg, w'.before ([ar 2 0, ai (I z), ai (I w), ar 23 0].map (conc ad)).toArray s = true := fun w hw => hts w (List.mem_cons_of_mem _ hw)
  have hwd : ∀ w', InT w' → w'.before ([ar 2 0, ai (I z), ai (I w), ar 23 0].map (conc ad)).toArray s = true := fun w hw => hts1 w (WSg_in hw)
  have hF : Fx p s m ([ar 2 0, ai (I z), ai (I w), ar 23 0].map (conc ad)).toArray c cL_element 8 5 D cI cS cB := ⟨B.exec, B.bytes, hml, hown, hts1, hK, hN⟩
  have hW : Wd ad cI cS cB D (aA ad cI cS cB h s.heap.size) s (h 22 0) h s.heap [] := ⟨hP, hD0.self, va_S.rf, rfl⟩
  have hA : ∀ q, s.heap.size ≤ q → aA ad cI cS cB h s.heap.size q := fun q hq => Or.inr hq
  have hlocks := B.notSynchronized
  have hret := B.returns
  have hR : ∀ cells slots : Nat, cells ≤ 1 → slots ≤ 6 → 3 + 1 ≤ (headSpec wsLE rmLE).room.frames ∧ 40 * (3 + 1) ≤ (headSpec wsLE rmLE).room.locals ∧ cells ≤ (headSpec wsLE rmLE).room.cells ∧ slots ≤ (headSpec wsLE rmLE).room.slots := fun cells slots h1 h2 => ⟨by decide, by decide, h1, h2⟩
  have kr : ∀ (cells slots : Nat), cells ≤ 1 → slots ≤ 6 → ∀ (v : Option AV) (ins : Instr) (pc' : Nat) (h' : Mem) (H' : Heap) (locs' : List Loc) (Lm' : Array Slot), Wd ad cI cS cB D (aA ad cI cS cB h s.heap.size) s (h 22 0) h' H' locs' → (∀ w, v = some w → vld w) → retOk (some .int) v ins → decode cL_element pc' = .ok (ins, 1) → lRt S z w h v h' → W p l e (headSpec wsLE rmLE).room s m ([ar 2 0, ai (I z), ai (I w), ar 23 0].map (conc ad)).toArray below meth c H' locs' cells slots (vx_MQ below (aQc ad cI cS cB D (aA ad cI cS cB h s.heap.size) h (lRt S z w h)) (fun _ _ _ => False) ([ar 2 0, ai (I z), ai (I w), ar 23 0].map (conc ad)).toArray s 1 6 (aA ad cI cS cB h s.heap.size)) (F0 m pc' Lm' (v.toList.map (conc ad))) := by
    intro cells slots h1 h2 v ins pc' h' H' locs' Lm' hW' hvl hro hdc hq
    obtain ⟨rfl, hq1, hq2⟩ := hq
    obtain ⟨rfl, hr0 | ⟨hr0, hx⟩⟩ := hro
    · refine vx_ret (W.widen (k := 1) (n := 6) h1 h2 ?_)
      exact W.iret B.exec B.bytes hret (fun t ht hWm => ⟨some (ai (I (vThr S z w))), h', rfl, hvl, ⟨rfl, hq1, hq2⟩, by rw [ht]; exact hW'.1, hW'.2.2.2, hW'.2.2.1.F ht⟩) hW'.2.2.1.2.2 hdc
    · cases hr0
  have hvs : vlds [ar 2 0, ai (I z), ai (I w), ar 23 0] := vlds_c (v := ar 2 0) (show (0 : Nat) < ocn 2 by decide) (vI (vI (vlds_c (v := ar 23 0) (show (0 : Nat) < ocn 23 by decide) (fun _ q => by cases q))))
  rw [lg_entry_eq]
  refine snR (st := []) hF (L := 0) (Or.inl rfl) (met_all l ad cI cS cB D 3) (hR 0 0 (by omega) (by omega)) hA okL_element (fun pc' ls' st' h' H' locs' Lm' hW' hL' hv' hs => ?_) (fun _ _ _ _ _ _ _ _ _ _ _ z => z.elim) (r_le0 (d := 3) (h := h) (z := z) (w := w)) hW (ent_Rls (as := [ar 2 0, ai (I z), ai (I w), ar 23 0]) (n := 5) hvs (Nat.le_of_ble_eq_true rfl)) (fun _ q => by cases q)
  obtain ⟨rfl, rfl, rfl, rfl⟩ := hs
  have hsz2 : Lm'.size = 5 := hL'.2.1.1
  have hcw : CallW (headSpec wsLE rmLE).room s ([ar 2 0, ai (I z), ai (I w), ar 23 0].map (conc ad)).toArray "TakenUpByThePiecesLaw" yX3_element.cls 7 yX3_element cX3_element 4 (some .long) wsEL rmE 1 6 2 :=
    cwV 2 hts1 (gV le_l7 le_iEL le_nEL le_sEL le_cEL) rfl rfl rfl ⟨rfl, by decide +kernel, by decide +kernel, by decide +kernel⟩ ⟨by decide, by decide⟩
  obtain ⟨q0, hq0, hq2⟩ := wsA_get (ad := ad) (cI := cI) (cS := cS) (cB := cB) (h := h') (t := 2) (b := 0) (by omega) (by decide)
  rw [cellA_obj (by omega)] at hq2
  have hrv := va_recv hK hW'.1 (ci := 2) (q0 := q0) (cl_at (by omega)) hq2
  have hr := vx_runV (locs := locs') (cells := 0) (slots := 0) (below := below) (meth := meth) (e := e) (b := ad 2 0) (rest := [.int (I 0), .ref (ad 23 0)]) (g := F0 m 5 Lm' ([ai (I w), ai (I z), ar 2 0, ai (I 0), ar 23 0].map (conc ad))) (As := [ai (I z), ai (I w)].map (conc ad)) ⟨B.exec, B.bytes, hml, hown, hts1⟩ (m_elt l hl ad cI cS cB D hz hw h' hS hKS H'.size) hcw ⟨aPcX_blind, hrv, fun U hU hWm => aStartX hF hX hA hW' [ar 2 0, ai (I z), ai (I w)] U hU hWm⟩ rfl rfl hsz2 rfl (Nat.le_of_ble_eq_true rfl) dL_element_5 ⟨by decide, by decide⟩
  have hL4 : ∀ (pc d4 : Nat), decode cL_element pc = .ok (.astore 4, 2) → d4 = pc + 2 → ∀ (q9 : Addr) (H2 : Heap) (locs2 : List Loc), Wd ad cI cS cB D (aA ad cI cS cB h' s.heap.size) s (h' 22 0) h' H2 locs2 → Rch bL_element (Rn mt 3) 0 (fun _ _ _ _ => False) (lRt S z w h') d4 [some (ar 2 0), some (ai (I z)), some (ai (I w)), some (ar 23 0), none] [] h' → W p l e (headSpec wsLE rmLE).room s m ([ar 2 0, ai (I z), ai (I w), ar 23 0].map (conc ad)).toArray below meth c H2 locs2 (0 + 1) (0 + 6) (vx_MQ below (aQc ad cI cS cB D (aA ad cI cS cB h' s.heap.size) h' (lRt S z w h')) (fun _ _ _ => False) ([ar 2 0, ai (I z), ai (I w), ar 23 0].map (conc ad)).toArray s 1 6 (aA ad cI cS cB h' s.heap.size)) (F0 m pc Lm' [.ref q9]) := by
    intro pc d4 hd e4 q9 H2 locs2 hW2 hr2
    subst e4
    refine sn_astore hF hL' (by decide) hd (fun Lm2 hL2 => ?_)
    exact snR (st := []) hF (L := 0) (Or.inl rfl) (met_all l ad cI cS cB D 3) (hR 1 6 (by omega) (by omega)) hA okL_element (fun _ _ _ _ _ _ _ _ _ _ z => z.elim) (kr 1 6 (by omega) (by omega)) hr2 hW2 hL2 (fun _ q => by cases q)
  refine sn_backX hW' hA hr (fun E ce q9 H2 locs2 hE hce hcv hcl hW2 => ?_) (fun v h2 H2 locs2 hvl hq3 hW2 => ?_)
  · rcases hE with ⟨e1, rfl⟩ | ⟨e1, rfl⟩
    · exact vx_catch (own := "TakenUpByThePiecesLaw") (name := eIA) (E := eIA) hown [] ⟨0, 9, 12, 13⟩ [⟨0, 9, 16, 15⟩] (htb.trans rfl) (fun x hx => (by cases hx)) rfl (by decide) (hwd _ le_k13) (va_tabs rfl rfl (hX.2.2.2.2 (.castable eIA eIA) (by simp [XWB]))) hce hcv hcl (hL4 12 14 dL_element_12 rfl q9 H2 locs2 hW2 (r_le14 (d := 3) ⟨by rw [e1], fun _ _ _ => rfl, fun z => by omega⟩))
    · exact vx_catch (own := "TakenUpByThePiecesLaw") (name := eIS) (E := eIS) hown [⟨0, 9, 12, 13⟩] ⟨0, 9, 16, 15⟩ [] (htb.trans rfl) (fun x hx => (by
        rcases List.mem_cons.mp hx with rfl | hx
        · exact Or.inr ⟨by decide, eIA, hwd _ le_k13, hX.2.2.2.1 (eIS, eIA) (by simp [XNL])⟩
        · cases hx)) rfl (by decide) (hwd _ le_k15) (va_tabs rfl rfl (hX.2.2.2.2 (.castable eIS eIS) (by simp [XWB]))) hce hcv hcl (hL4 16 18 dL_element_16 rfl q9 H2 locs2 hW2 (r_le18 (d := 3) ⟨by rw [e1], fun _ _ _ => rfl, fun z => by omega⟩))
  · obtain ⟨rfl, rfl, e0⟩ := hq3
    have hz8 : 0 ≤ z ∧ z < 8 := by unfold vThr at e0; omega
    have hh2 : ho S z = 2 := by unfold vThr at e0; omega
    have hw8 : 0 ≤ w ∧ w < sz S z := by unfold vThr at e0; omega
    have g := (hKS z hz8.1 hz8.2).2.2 hh2
    have hvR : inR (vElt S z w) := by
      unfold vElt
      rw [if_pos e0, ← hS.e hz8.1 hz8.2 hh2 hw8.1 (by omega)]
      exact hI_R
    obtain ⟨h3, hh3, hx3⟩ := lng_set h2 hvR
    refine sn_last hF hKL hW2 dL_element_8 h3 hh3 hx3 (fun H3 locs3 hW3 => ?_)
    exact snR (st := []) hF (L := 0) (Or.inl rfl) (met_all l ad cI cS cB D 3) (hR 1 6 (by omega) (by omega)) hA okL_element (fun _ _ _ _ _ _ _ _ _ _ z => z.elim) (kr 1 6 (by omega) (by omega)) (r_le9 (d := 3) ⟨by rw [e0], hh3, fun _ => hx3⟩) hW3 hL' (fun _ q => by cases q)
end ML
