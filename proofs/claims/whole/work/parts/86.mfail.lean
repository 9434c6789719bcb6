/-! failWith's contract -/
section MF
set_option maxHeartbeats 4000000 in
set_option maxRecDepth 10000 in
theorem m_failWith (l : Launch) (hl : l.stackTraces = false) (ad : Nat → Nat → Nat) (cI cS cB : ClassId) (D : va_G) {k f : Int} (hk : inR k) (hf : inR f) (h : Mem) (sz : Nat) :
    vx_Met l yX1_failWith wsFW rmF (aPcX ad cI cS cB D [ai (I k), ai (I f)] h sz) (aQc ad cI cS cB D (aA ad cI cS cB h sz) h (fun v h' => v = none ∧ h' = h ∧ fwQ k f)) (aXc ad cI cS cB D (aA ad cI cS cB h sz) h (fun E => ¬ fwQ k f ∧ E = fwE k)) 1 6 (aA ad cI cS cB h sz) := by
  refine vx_ofW (cc := cX1_failWith) (maxL := 2) (ret := none) (by decide +kernel) rfl ?_
  intro p e s m args below meth c s₁ B hml htb hv
  obtain ⟨⟨rfl, hsz, hP, hK, hD0, hN⟩, hX⟩ := hv
  subst hsz
  have hts := atoms_spec (ws := wsFW) B.pre
  have hown : s.vm.findClass yX1_failWith.cls = some m.cls := findClass_of_methodNamed B.named
  have hF : Fx p s m ([ai (I k), ai (I f)].map (conc ad)).toArray c cX1_failWith 4 2 D cI cS cB := ⟨B.exec, B.bytes, hml, hown, fun w hw => hts w (List.mem_cons_of_mem _ hw), hK, hN⟩
  have hW : Wd ad cI cS cB D (aA ad cI cS cB h s.heap.size) s (h 22 0) h s.heap [] := ⟨hP, hD0.self, va_S.rf, rfl⟩
  have hA : ∀ q, s.heap.size ≤ q → aA ad cI cS cB h s.heap.size q := fun q hq => Or.inr hq
  have hlocks := B.notSynchronized
  have hret := B.returns
  have hW1 : ∀ w ∈ WSg, w.before ([ai (I k), ai (I f)].map (conc ad)).toArray s = true := fun w hw => hts w (List.mem_cons_of_mem _ hw)
  have hwd : ∀ w, InT w → w.before ([ai (I k), ai (I f)].map (conc ad)).toArray s = true := fun w hw => hW1 w (WSg_in hw)
  have hX' := hX.2.2.2.2
  rw [lg_entry_eq]
  refine snR (st := []) hF (L := 0) (Or.inl rfl) (met_all l ad cI cS cB D 3) ⟨by decide, by decide, Nat.zero_le _, Nat.zero_le _⟩ hA okX1_failWith (fun pc' ls' st' h' H' locs' Lm' hW' hL' hv' hs => ?_) (fun v ins pc' h' H' locs' Lm' hW' hvl hro hdc hq => ?_) (r_failWith hk hf) hW (ent_Rls (as := [ai (I k), ai (I f)]) (n := 2) (vI (vI (fun _ q => by cases q))) (Nat.le_refl 2)) (fun _ q => by cases q)
  · obtain ⟨rfl, rfl, hnq, hc⟩ := hs
    have hsz2 : Lm'.size = c.maxLocals := by rw [hml]; exact hL'.2.1.1
    have hxc : ∀ cls, cls = fwE k → ∀ t : State, s.vm.Alike t.vm → H'.size ≤ t.heap.size → (∀ q : Nat, q < H'.size → t.heap[q]? = H'[q]?) → aXc ad cI cS cB D (aA ad cI cS cB h' s.heap.size) h' (fun E => ¬ fwQ k f ∧ E = fwE k) cls s t := by
      intro cls hcls t _ z1 z2
      refine ⟨⟨hnq, hcls⟩, fun i q hq => (hW'.1 i q hq).kept (z2 _ ((hW'.1 i q hq).lt)), Nat.le_trans hW'.2.2.1.1 z1, fun q h1 h2 => ?_⟩
      rw [z2 q (Nat.lt_of_lt_of_le h1 hW'.2.2.1.1)]
      exact hW'.2.2.1.2.1 q h1 h2
    rcases hc with ⟨rfl, c1⟩ | ⟨rfl, c1⟩ | ⟨rfl, c1, c2⟩
    · obtain ⟨sa, hsa⟩ := hX.2.2.1 ("TakenUpByThePieces$Kinds", 13, "nothing was heard") (by simp [XST])
      obtain ⟨u1, u2⟩ := sub_hat sub_15 hW1 hX'
      exact xw_throwS B.exec B.bytes hl (own := "TakenUpByThePieces$Kinds") (cls := eNS) (Y0 := "java/lang/RuntimeException") (names := ["java/lang/Exception"]) (ik := 11) (is := 13) (ic := 15) (i0 := 13) hown (by decide +kernel) (by decide +kernel) (by decide +kernel) (by decide +kernel) (by decide +kernel) (by decide +kernel) (by decide +kernel) (hwd _ fw_k11) (hwd _ fw_iNS) hsa u1 (fun w hw => (by
        rcases List.mem_cons.mp hw with rfl | hw
        · decide +kernel
        rcases List.mem_cons.mp hw with rfl | hw
        · decide +kernel
        exact u2 w hw)) hX.1 hX.2.1 hW'.2.2.1 hsz2 dX1_failWith_27 dX1_failWith_30 dX1_failWith_31 dX1_failWith_33 dX1_failWith_36 (fun x hx => (htb x hx).elim) (by decide) (Nat.le_of_ble_eq_true rfl) (by decide) (by decide) hlocks (hxc _ (by unfold fwE; rw [if_pos c1])) hW'.2.2.1.2.2 (Nat.le_refl _) (Nat.le_refl _)
    · obtain ⟨sa, hsa⟩ := hX.2.2.1 ("TakenUpByThePieces$Kinds", 20, "nothing stands ahead") (by simp [XST])
      obtain ⟨u1, u2⟩ := sub_hat sub_22 hW1 hX'
      exact vx_throwS B.exec B.bytes hl (own := "TakenUpByThePieces$Kinds") (cls := eUO) (names := rtn) (ik := 18) (is := 20) (ic := 22) hown (by decide +kernel) (by decide +kernel) (hwd _ fw_k18) (hwd _ fw_iUO) hsa u1 (fun w hw => (by
        rcases List.mem_cons.mp hw with rfl | hw
        · decide +kernel
        rcases List.mem_cons.mp hw with rfl | hw
        · decide +kernel
        exact u2 w hw)) hX.1 hX.2.1 hW'.2.2.1 hsz2 dX1_failWith_47 dX1_failWith_50 dX1_failWith_51 dX1_failWith_53 dX1_failWith_56 (fun x hx => (htb x hx).elim) (by decide) (Nat.le_of_ble_eq_true rfl) (by decide) (by decide) hlocks (hxc _ (by unfold fwE; rw [if_neg (by omega), if_pos c1])) hW'.2.2.1.2.2 (Nat.le_refl _) (Nat.le_refl _)
    · obtain ⟨sa, hsa⟩ := hX.2.2.1 ("TakenUpByThePieces$Kinds", 25, "nobody agrees") (by simp [XST])
      obtain ⟨u1, u2⟩ := sub_hat sub_27 hW1 hX'
      exact vx_throwS B.exec B.bytes hl (own := "TakenUpByThePieces$Kinds") (cls := eIS) (names := rtn) (ik := 23) (is := 25) (ic := 27) hown (by decide +kernel) (by decide +kernel) (hwd _ fw_k23) (hwd _ fw_iIS) hsa u1 (fun w hw => (by
        rcases List.mem_cons.mp hw with rfl | hw
        · decide +kernel
        rcases List.mem_cons.mp hw with rfl | hw
        · decide +kernel
        exact u2 w hw)) hX.1 hX.2.1 hW'.2.2.1 hsz2 dX1_failWith_57 dX1_failWith_60 dX1_failWith_61 dX1_failWith_63 dX1_failWith_66 (fun x hx => (htb x hx).elim) (by decide) (Nat.le_of_ble_eq_true rfl) (by decide) (by decide) hlocks (hxc _ (by unfold fwE; rw [if_neg c1, if_neg c2])) hW'.2.2.1.2.2 (Nat.le_refl _) (Nat.le_refl _)
  · obtain ⟨rfl, rfl, hq⟩ := hq
    obtain ⟨rfl, -⟩ := hro
    refine vx_ret (W.widen (k := 1) (n := 6) (Nat.zero_le _) (Nat.zero_le _) ?_)
    exact W.vret B.exec B.bytes hret (fun t ht hWm => ⟨none, h', rfl, hvl, ⟨rfl, rfl, hq⟩, by rw [ht]; exact hW'.1, hW'.2.2.2, hW'.2.2.1.F ht⟩) hW'.2.2.1.2.2 hdc
end MF
