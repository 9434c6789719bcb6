/-! toss's contract, walked -/
section MT
set_option maxHeartbeats 4000000 in
set_option maxRecDepth 10000 in
theorem m_toss (l : Launch) (hl : l.stackTraces = false) (ad : Nat → Nat → Nat) (cI cS cB : ClassId) (D : va_G) {z : Int} (hz : inR z) {S : Sv} (h : Mem) (hS : SC h S) (hKS : OKS S) (sz : Nat) :
    vx_Met l yX3_toss wsTO rmT (aPcX ad cI cS cB D [ar 2 0, ai (I z)] h sz) (aQc ad cI cS cB D (aA ad cI cS cB h sz) h (tRt S z h)) (fun _ _ _ => False) 1 6 (aA ad cI cS cB h sz) := by
  refine vx_ofWH (cc := cX3_toss) (maxL := 5) (ret := some .int) (hh := hhT) (by decide +kernel) rfl ?_
  intro p e s m args below meth c s₁ B hml hv
  obtain ⟨⟨rfl, hsz, hP, hK, hD0, hN⟩, hX⟩ := hv
  subst hsz
  have hts := atoms_spec (ws := wsTO) B.pre
  have htb : c.exceptionTable.toList = tableOf hhT := vx_table (x := yX3_toss) B (hts _ List.mem_cons_self)
  have hown : s.vm.findClass yX3_toss.cls = some m.cls := findClass_of_methodNamed B.named
  have hts1 : ∀ w ∈ WSg, w.before ([ar 2 0, ai (I z)].map (conc ad)).toArray s = true := fun w hw => hts w (List.mem_cons_of_mem _ hw)
  have hwd : ∀ w, InT w → w.before ([ar 2 0, ai (I z)].map (conc ad)).toArray s = true := fun w hw => hts1 w (WSg_in hw)
  have hF : Fx p s m ([ar 2 0, ai (I z)].map (conc ad)).toArray c cX3_toss 2 5 D cI cS cB := ⟨B.exec, B.bytes, hml, hown, hts1, hK, hN⟩
  have hW : Wd ad cI cS cB D (aA ad cI cS cB h s.heap.size) s (h 22 0) h s.heap [] := ⟨hP, hD0.self, va_S.rf, rfl⟩
  have hA : ∀ q, s.heap.size ≤ q → aA ad cI cS cB h s.heap.size q := fun q hq => Or.inr hq
  have hlocks := B.notSynchronized
  have hret := B.returns
  have hR : ∀ cells slots : Nat, cells ≤ 1 → slots ≤ 6 → 3 + 1 ≤ (headSpec wsTO rmT).room.frames ∧ 40 * (3 + 1) ≤ (headSpec wsTO rmT).room.locals ∧ cells ≤ (headSpec wsTO rmT).room.cells ∧ slots ≤ (headSpec wsTO rmT).room.slots := fun cells slots h1 h2 => ⟨by decide, by decide, h1, h2⟩
  have kr : ∀ (cells slots : Nat), cells ≤ 1 → slots ≤ 6 → ∀ (v : Option AV) (ins : Instr) (pc' : Nat) (h' : Mem) (H' : Heap) (locs' : List Loc) (Lm' : Array Slot), Wd ad cI cS cB D (aA ad cI cS cB h s.heap.size) s (h 22 0) h' H' locs' → (∀ w, v = some w → vld w) → retOk (some .int) v ins → decode cX3_toss pc' = .ok (ins, 1) → tRt S z h v h' → W p l e (headSpec wsTO rmT).room s m ([ar 2 0, ai (I z)].map (conc ad)).toArray below meth c H' locs' cells slots (vx_MQ below (aQc ad cI cS cB D (aA ad cI cS cB h s.heap.size) h (tRt S z h)) (fun _ _ _ => False) ([ar 2 0, ai (I z)].map (conc ad)).toArray s 1 6 (aA ad cI cS cB h s.heap.size)) (F0 m pc' Lm' (v.toList.map (conc ad))) := by
    intro cells slots h1 h2 v ins pc' h' H' locs' Lm' hW' hvl hro hdc hq
    obtain ⟨rfl, rfl⟩ := hq
    obtain ⟨rfl, hr0 | ⟨hr0, hx⟩⟩ := hro
    · refine vx_ret (W.widen (k := 1) (n := 6) h1 h2 ?_)
      exact W.iret B.exec B.bytes hret (fun t ht hWm => ⟨some (ai (I (vToss S z))), h', rfl, hvl, ⟨rfl, rfl⟩, by rw [ht]; exact hW'.1, hW'.2.2.2, hW'.2.2.1.F ht⟩) hW'.2.2.1.2.2 hdc
    · cases hr0
  rw [lg_entry_eq]
  refine snR (st := []) hF (L := 0) (Or.inl rfl) (met_all l ad cI cS cB D 3) (hR 0 0 (by omega) (by omega)) hA okX3_toss (fun pc' ls' st' h' H' locs' Lm' hW' hL' hv' hs => ?_) (kr 0 0 (by omega) (by omega)) (r_toss0 (d := 1) hS hKS hz) hW (ent_Rls (as := [ar 2 0, ai (I z)]) (n := 5) (vlds_c (v := ar 2 0) (show (0 : Nat) < ocn 2 by decide) (vI (fun _ q => by cases q))) (Nat.le_of_ble_eq_true rfl)) (fun _ q => by cases q)
  unfold tStop at hs
  obtain ⟨rfl, rfl, rfl, rfl, z0, z1, hh⟩ := hs
  have g := (hKS z z0 z1).2.1 hh
  have hsz2 : Lm'.size = 5 := hL'.2.1.1
  have hcw : CallB (headSpec wsTO rmT).room s ([ar 2 0, ai (I z)].map (conc ad)).toArray "TakenUpByThePieces" 309 yX1_failWith cX1_failWith 2 none wsFW rmF 1 6 2 ∧ (Cond.static yX1_failWith).before ([ar 2 0, ai (I z)].map (conc ad)).toArray s = true :=
    va_cwS 2 hts1 (gS to_l309 to_sFW to_iFW to_cFW) rfl rfl rfl ⟨by decide +kernel, by decide +kernel, by decide +kernel⟩ ⟨by decide, by decide⟩
  have hr := vx_runS (locs := locs') (cells := 0) (slots := 0) (below := below) (meth := meth) (e := e) (rest := []) (g := F0 m 30 Lm' ([ai (I (sf S z)), ai (I (sk S z))].map (conc ad))) (As := [ai (I (sk S z)), ai (I (sf S z))].map (conc ad)) ⟨B.exec, B.bytes, hml, hown, hts1⟩ (m_failWith l hl ad cI cS cB D (k := sk S z) (f := sf S z) ⟨by omega, by omega⟩ ⟨by omega, by omega⟩ h' H'.size) hcw ⟨aPcX_blind, fun U hU hWm => aStartX hF hX hA hW' [ai (I (sk S z)), ai (I (sf S z))] U hU hWm⟩ rfl rfl hsz2 rfl (Nat.le_of_ble_eq_true rfl) dX3_toss_30 ⟨by decide, by decide⟩
  have hL4 : ∀ pc d4 : Nat, decode cX3_toss pc = .ok (.astore 4, 2) → d4 = pc + 2 → ∀ (q9 : Addr) (H2 : Heap) (locs2 : List Loc), Wd ad cI cS cB D (aA ad cI cS cB h' s.heap.size) s (h' 22 0) h' H2 locs2 → Rch bX3_toss (Rn mt 3) 0 (fun _ _ _ _ => False) (tRt S z h') d4 [some (ar 2 0), some (ai (I z)), some (ar 1 z.toNat), some (ai (I 0)), none] [] h' → W p l e (headSpec wsTO rmT).room s m ([ar 2 0, ai (I z)].map (conc ad)).toArray below meth c H2 locs2 (0 + 1) (0 + 6) (vx_MQ below (aQc ad cI cS cB D (aA ad cI cS cB h' s.heap.size) h' (tRt S z h')) (fun _ _ _ => False) ([ar 2 0, ai (I z)].map (conc ad)).toArray s 1 6 (aA ad cI cS cB h' s.heap.size)) (F0 m pc Lm' [.ref q9]) := by
    intro pc d4 hd e4 q9 H2 locs2 hW2 hr2
    subst e4
    refine sn_astore hF hL' (by decide) hd (fun Lm2 hL2 => ?_)
    exact snR (st := []) hF (L := 0) (Or.inl rfl) (met_all l ad cI cS cB D 3) (hR 1 6 (by omega) (by omega)) hA okX3_toss (fun _ _ _ _ _ _ _ _ _ _ z => z.elim) (kr 1 6 (by omega) (by omega)) hr2 hW2 hL2 (fun _ q => by cases q)
  refine sn_backX hW' hA hr (fun E ce q9 H2 locs2 hE hce hcv hcl hW2 => ?_) (fun v h2 H2 locs2 hvl hq2 hW2 => ?_)
  · obtain ⟨hnq, rfl⟩ := hE
    by_cases k6 : sk S z = 6
    · have eE : fwE (sk S z) = eNS := by unfold fwE; rw [if_pos k6]
      rw [eE] at hcl
      exact vx_catch (own := "TakenUpByThePieces") (name := eNS) (E := eNS) hown [⟨22, 33, 36, 284⟩, ⟨22, 33, 43, 312⟩] ⟨22, 33, 53, 314⟩ [] (htb.trans rfl) (fun x hx => (by
        rcases List.mem_cons.mp hx with rfl | hx
        · exact Or.inr ⟨by decide, eIS, hwd _ to_k284, hX.2.2.2.1 (eNS, eIS) (by simp [XNL])⟩
        rcases List.mem_cons.mp hx with rfl | hx
        · exact Or.inr ⟨by decide, eUO, hwd _ to_k312, hX.2.2.2.1 (eNS, eUO) (by simp [XNL])⟩
        · cases hx)) rfl (by decide) (hwd _ to_k314) (va_tabs rfl rfl (hX.2.2.2.2 (.castable eNS eNS) (by simp [XWB]))) hce hcv hcl (hL4 53 55 dX3_toss_53 rfl q9 H2 locs2 hW2 (r_toss55 (d := 1) hS hKS z0 z1 hh hnq k6))
    · by_cases k24 : sk S z = 2 ∨ sk S z = 4
      · have eE : fwE (sk S z) = eUO := by unfold fwE; rw [if_neg k6, if_pos k24]
        rw [eE] at hcl
        exact vx_catch (own := "TakenUpByThePieces") (name := eUO) (E := eUO) hown [⟨22, 33, 36, 284⟩] ⟨22, 33, 43, 312⟩ [⟨22, 33, 53, 314⟩] (htb.trans rfl) (fun x hx => (by
          rcases List.mem_cons.mp hx with rfl | hx
          · exact Or.inr ⟨by decide, eIS, hwd _ to_k284, hX.2.2.2.1 (eUO, eIS) (by simp [XNL])⟩
          · cases hx)) rfl (by decide) (hwd _ to_k312) (va_tabs rfl rfl (hX.2.2.2.2 (.castable eUO eUO) (by simp [XWB]))) hce hcv hcl (hL4 43 45 dX3_toss_43 rfl q9 H2 locs2 hW2 (r_toss45 (d := 1) hS z0 z1 hh hnq ⟨k6, k24⟩))
      · have eE : fwE (sk S z) = eIS := by unfold fwE; rw [if_neg k6, if_neg k24]
        rw [eE] at hcl
        exact vx_catch (own := "TakenUpByThePieces") (name := eIS) (E := eIS) hown [] ⟨22, 33, 36, 284⟩ [⟨22, 33, 43, 312⟩, ⟨22, 33, 53, 314⟩] (htb.trans rfl) (fun x hx => (by cases hx)) rfl (by decide) (hwd _ to_k284) (va_tabs rfl rfl (hX.2.2.2.2 (.castable eIS eIS) (by simp [XWB]))) hce hcv hcl (hL4 36 38 dX3_toss_36 rfl q9 H2 locs2 hW2 (r_toss38 (d := 1) hS z0 z1 hh hnq ⟨k6, k24⟩))
  · obtain ⟨rfl, rfl, hq⟩ := hq2
    exact snR (st := []) hF (L := 0) (Or.inl rfl) (met_all l ad cI cS cB D 3) (hR 1 6 (by omega) (by omega)) hA okX3_toss (fun _ _ _ _ _ _ _ _ _ _ z => z.elim) (kr 1 6 (by omega) (by omega)) (r_toss33 (d := 1) z0 z1 hh hq) hW2 hL' (fun _ q => by cases q)
end MT
