/-! THE LAW'S LOOP, on the machine -/
theorem CW.e22 {h h1 : Mem} {G Gi : Bd} {T : Int} {S : Sv} (H : CW h G T Gi S) (F : ∀ t b k : Nat, t ≤ 21 → hI h1 t b k = hI h t b k) : CW h1 G T Gi S :=
  ⟨H.1.eqs (fun t k ht => F t 0 k (by omega)), (F 2 0 2 (by omega)).trans H.2.1, fun e => (H.2.2.1 e).eqs (fun t k ht => F t 1 k (by omega)), H.2.2.2.fr (fun t b k ht => F t b k (by omega))⟩
theorem RW.e22 {h h1 : Mem} {G Gi : Bd} {T : Int} {S : Sv} (H : RW h G T Gi S) (F : ∀ t b k : Nat, t ≤ 21 → hI h1 t b k = hI h t b k) : RW h1 G T Gi S :=
  ⟨H.1.eqs (fun k => F 12 0 k (by omega)), (F 3 0 4 (by omega)).trans H.2.1, fun e => (H.2.2.1 e).eqs (fun k => F 12 2 k (by omega)), H.2.2.2.fr (fun t b k ht => F t b k (by omega))⟩
theorem IW.e22 {h h1 : Mem} {G Gi : Bd} {T : Int} {S : Sv} (H : IW h G T Gi S) (F : ∀ t b k : Nat, t ≤ 21 → hI h1 t b k = hI h t b k) : IW h1 G T Gi S := ⟨H.1.e22 F, H.2.1.e22 F, H.2.2⟩
set_option maxRecDepth 100000 in
theorem lw_l163 : InT (.methodLink "TakenUpByThePiecesLaw" 163 yL_element) := ⟨by decide +kernel, rfl⟩
set_option maxRecDepth 100000 in
theorem lw_sLE : InT (.static yL_element) := ⟨by decide +kernel, rfl⟩
set_option maxRecDepth 100000 in
theorem lw_iLE : InT (.initialized yL_element.cls) := ⟨by decide +kernel, rfl⟩
set_option maxRecDepth 100000 in
theorem lw_cLE : InT (.codeWith yL_element cL_element 5 (some .int) hhE) := ⟨by decide +kernel, rfl⟩
set_option maxRecDepth 100000 in
theorem lw_l181 : InT (.methodLink "TakenUpByThePiecesLaw" 181 yX3_toss) := ⟨by decide +kernel, rfl⟩
set_option maxRecDepth 100000 in
theorem lw_iTO : InT (.instanceMethod yX3_toss) := ⟨by decide +kernel, rfl⟩
set_option maxRecDepth 100000 in
theorem lw_nTO : InT (.initialized yX3_toss.cls) := ⟨by decide +kernel, rfl⟩
set_option maxRecDepth 100000 in
theorem lw_sTO : InT (.selects yX3_toss.cls yX3_toss yX3_toss) := ⟨by decide +kernel, rfl⟩
set_option maxRecDepth 100000 in
theorem lw_cTO : InT (.codeWith yX3_toss cX3_toss 5 (some .int) hhT) := ⟨by decide +kernel, rfl⟩
theorem dL_law_1386 : decode code 1386 = .ok (.invokestatic 163, 3) := by decide +kernel
theorem dL_law_1427 : decode code 1427 = .ok (.laload, 1) := by decide +kernel
theorem dL_law_1544 : decode code 1544 = .ok (.invokevirtual 181, 3) := by decide +kernel
section LLP
variable {p : Program} {l : Launch} {e : Env} {R : Room} {s : State} {m : MethodId} {args : Array Value} {below : List Frame} {meth : Method} {c : Code} {Q : State → Prop} {D : va_G} {cI cS cB : ClassId} {ad : Nat → Nat → Nat} {A : Nat → Prop} {xs : Nat → Int32} {N : Nat}
set_option maxHeartbeats 4000000 in
theorem law_loop (hl : l.stackTraces = false) (hF : Fx p s m args c code 8 8 D cI cS cB) (hX : Scr ad A s (N + 1) xs) (hN : N ≤ 3072) (hA : ∀ q, s.heap.size ≤ q → A q) (hXQ : XQ A s s.heap) (hKL : KL D ad cI cS cB s) (hR : 100 ≤ R.frames ∧ 4000 ≤ R.locals ∧ 600000 ≤ R.cells ∧ 7000000 ≤ R.slots)
    (kk : ∀ (cells slots pc : Nat) (H : Heap) (locs : List Loc) (Lm : Array Slot), cells ≤ 600000 → slots ≤ 7000000 → va_S A s.heap H locs → decode code pc = .ok (.ireturn, 1) → W p l e R s m args below meth c H locs cells slots Q (F0 m pc Lm [.int 1])) :
    ∀ (g : Nat) (i : Int) (u5 u6 u7 : Option AV) (h : Mem) (H : Heap) (locs : List Loc) (Lm : Array Slot) (cells slots : Nat), 0 ≤ i → i ≤ (N : Int) → (N : Int) - i < (g : Int) → cells + g ≤ 600000 → slots + 6 * g ≤ 7000000 → INV h → Wd ad cI cS cB D A s xs h H locs → Rls ad (lvOf i u5 u6 u7) Lm 8 → W p l e R s m args below meth c H locs cells slots Q (F0 m 23 Lm []) := by
  intro g
  induction g with
  | zero => intro i u5 u6 u7 h H locs Lm cells slots i0 i1 ig; omega
  | succ g ih =>
    intro i u5 u6 u7 h H locs Lm cells slots i0 i1 ig hc hs hI0 hW hL
    have hM := met_all l ad cI cS cB D 20
    have hRR : ∀ cells slots : Nat, cells ≤ 600000 → slots ≤ 7000000 → 20 + 1 ≤ R.frames ∧ 40 * (20 + 1) ≤ R.locals ∧ cells ≤ R.cells ∧ slots ≤ R.slots := fun cells slots h1 h2 => ⟨by omega, by omega, by omega, by omega⟩
    have kr : ∀ (cells slots : Nat), cells ≤ 600000 → slots ≤ 7000000 → ∀ (v : Option AV) (ins : Instr) (pc' : Nat) (h' : Mem) (H' : Heap) (locs' : List Loc) (Lm' : Array Slot), Wd ad cI cS cB D A s xs h' H' locs' → (∀ w, v = some w → vld w) → retOk ret v ins → decode code pc' = .ok (ins, 1) → LRt v h' → W p l e R s m args below meth c H' locs' cells slots Q (F0 m pc' Lm' (v.toList.map (conc ad))) := by
      intro cells slots h1 h2 v ins pc' h' H' locs' Lm' hW' hvl hro hdc hq
      unfold LRt at hq
      subst hq
      obtain ⟨rfl, -⟩ := hro
      exact kk cells slots pc' H' locs' Lm' h1 h2 hW'.2.2.1 hdc
    /- the end of a round -/
    have kE : ∀ (cells2 slots2 : Nat), cells2 ≤ cells + 1 → slots2 ≤ slots + 6 → i + 6 ≤ (N : Int) → ∀ (u5 u6 u7 : Option AV) (h' : Mem) (H' : Heap) (locs' : List Loc) (Lm' : Array Slot), INV h' → Wd ad cI cS cB D A s xs h' H' locs' → Rls ad (lvOf (i + 6) u5 u6 u7) Lm' 8 → W p l e R s m args below meth c H' locs' cells2 slots2 Q (F0 m 23 Lm' []) := by
      intro cells2 slots2 h1 h2 h6 u5 u6 u7 h' H' locs' Lm' hI' hW' hL'
      exact ih (i + 6) u5 u6 u7 h' H' locs' Lm' cells2 slots2 (by omega) (by omega) (by omega) (by omega) (by omega) hI' hW' hL'
    have kE1 : ∀ (cells2 slots2 : Nat), cells2 ≤ cells + 1 → slots2 ≤ slots + 6 → i + 6 ≤ (N : Int) → ∀ (pc : Nat) (ls : Lc) (st : List AV) (h' : Mem) (H' : Heap) (locs' : List Loc) (Lm' : Array Slot), Wd ad cI cS cB D A s xs h' H' locs' → Rls ad ls Lm' 8 → vlds st → Rch bL_law (Rn mt 20) (N + 1) (fun pc ls st h => pc = 23 ∧ st = [] ∧ INV h ∧ ∃ u5 u6 u7, ls = lvOf (i + 6) u5 u6 u7) LRt pc ls st h' → W p l e R s m args below meth c H' locs' cells2 slots2 Q (F0 m pc Lm' (st.map (conc ad))) := by
      intro cells2 slots2 hz1 hz2 h6 pc ls st h' H' locs' Lm' hW' hL' hv' hr
      refine snR hF hX hM (hRR cells2 slots2 (by omega) (by omega)) hA lawBs_ok (fun pc2 ls2 st2 h2 H2 locs2 Lm2 hW2 hL2 hv2 hs2 => ?_) (kr cells2 slots2 (by omega) (by omega)) hr hW' hL' hv'
      obtain ⟨rfl, rfl, hI2, u5, u6, u7, rfl⟩ := hs2
      exact kE cells2 slots2 hz1 hz2 h6 u5 u6 u7 h2 H2 locs2 Lm2 hI2 hW2 hL2
    have hEnd : EndAt (fun pc ls st h => pc = 23 ∧ st = [] ∧ INV h ∧ ∃ u5 u6 u7, ls = lvOf (i + 6) u5 u6 u7) i := fun h u5 u6 u7 hI => ⟨rfl, rfl, hI, u5, u6, u7, rfl⟩
    have k1427 : ∀ (cells2 slots2 : Nat), cells2 ≤ cells + 1 → slots2 ≤ slots + 6 → i + 6 ≤ (N : Int) → ∀ (u5 u7 : Option AV) (h' : Mem) (H' : Heap) (locs' : List Loc) (Lm' : Array Slot), INV h' → Wd ad cI cS cB D A s xs h' H' locs' → Rls ad (lvOf i u5 (some (al (lng (h' 23 0) 0))) u7) Lm' 8 → W p l e R s m args below meth c H' locs' cells2 slots2 Q (F0 m 1427 Lm' ([ai (I 0), ar 23 0].map (conc ad))) := by
      intro cells2 slots2 h1 h2 h6 u5 u7 h' H' locs' Lm' hI' hW' hL'
      refine sn_lald (rest := []) hF hKL hW' dL_law_1427 ?_
      exact kE1 cells2 slots2 h1 h2 h6 1428 _ [al (lng (h' 23 0) 0)] h' H' locs' Lm' hW' hL' (vL (fun _ q => by cases q)) (ll_1428 (e := 0) hI' hN i0 h6 hEnd)
    refine snR hF hX hM (hRR cells slots (by omega) (by omega)) hA lawBs_ok (fun pc2 ls2 st2 h2 H2 locs2 Lm2 hW2 hL2 hv2 hs2 => ?_) (kr cells slots (by omega) (by omega)) (ll_start (e := 0) (u5 := u5) (u6 := u6) (u7 := u7) hI0 hN i0 i1) hW hL (st := []) (fun _ q => by cases q)
    rcases hs2 with ⟨rfl, rfl, hI2, h6, v5, v6, v7, rfl⟩ | ⟨rfl, h6, hI2, rfl, v5, v6, v7, rfl⟩ | ⟨rfl, h6, hI2, rfl, v5, v7, rfl⟩ | ⟨rfl, h6, hI2, rfl, v5, v6, v7, rfl⟩
    · exact kE cells slots (by omega) (by omega) h6 v5 v6 v7 h2 H2 locs2 Lm2 hI2 hW2 hL2
    · obtain ⟨G, T, Gi, S, hIW⟩ := hI2
      have hsz2 : Lm2.size = 8 := hL2.2.1.1
      have hcw : vx_CSW R s args "TakenUpByThePiecesLaw" 163 yL_element cL_element 5 (some .int) hhE wsLE rmLE 1 6 4 :=
        vx_cwSW 4 hF.2.2.2.2.1 (gS lw_l163 lw_sLE lw_iLE lw_cLE) rfl rfl rfl ⟨by decide +kernel, by decide +kernel, by decide +kernel⟩ ⟨by show 40 + 1 ≤ _; omega, by show 8 + (5 + 11) + 1600 ≤ _; omega⟩
      have hr := vx_runSX (hh := hhE) (locs := locs2) (cells := cells) (slots := slots) (below := below) (meth := meth) (e := e) (rest := []) (g := F0 m 1386 Lm2 ([ar 23 0, ai (I (hI_v h2 i 2)), ai (I (hI_v h2 i 1)), ar 2 0].map (conc ad))) (As := [ar 2 0, ai (I (hI_v h2 i 1)), ai (I (hI_v h2 i 2)), ar 23 0].map (conc ad)) ⟨hF.1, hF.2.1, hF.2.2.1, hF.2.2.2.1, hF.2.2.2.2.1⟩ (m_le l hl ad cI cS cB D (z := hI_v h2 i 1) (w := hI_v h2 i 2) hI_R hI_R h2 hIW.1.2.2.2 hIW.2.2.2.2.2.1 H2.size) hcw ⟨aPcL_blind, fun U hU hWm => ⟨aStartX hF hXQ hA hW2 [ar 2 0, ai (I (hI_v h2 i 1)), ai (I (hI_v h2 i 2)), ar 23 0] U hU hWm, va_K.moved hWm.alike hKL⟩⟩ rfl rfl hsz2 rfl (Nat.le_of_ble_eq_true rfl) dL_law_1386 ⟨by omega, by omega⟩
      have hr2 : vx_Run p l e R s m args below meth c H2 locs2 cells slots 1 6 (F0 m 1386 Lm2 ([ar 23 0, ai (I (hI_v h2 i 2)), ai (I (hI_v h2 i 1)), ar 2 0].map (conc ad))) [] (aQc ad cI cS cB D (aA ad cI cS cB h2 H2.size) h2 (lRt S (hI_v h2 i 1) (hI_v h2 i 2) h2) ([ar 2 0, ai (I (hI_v h2 i 1)), ai (I (hI_v h2 i 2)), ar 23 0].map (conc ad)).toArray) (aXc ad cI cS cB D (aA ad cI cS cB h2 H2.size) h2 (fun _ => False)) (aA ad cI cS cB h2 H2.size) := by
        intro T' hT' X'
        rcases hr T' hT' X' with hq | ⟨q, st₀, t, T2, L2, E, ce, _, _, _, _, _, z, _⟩
        · exact Or.inl hq
        · exact z.elim
      refine sn_backX hW2 hA hr2 (fun E ce q9 H' locs' z => z.elim) (fun v h3 H3 locs3 hvl hq3 hW3 => ?_)
      obtain ⟨rfl, hsame, hlng⟩ := hq3
      have e22 : ∀ t b k : Nat, ¬ (t = 23 ∧ b = 0) → hI h3 t b k = hI h2 t b k := fun t b k hn => by unfold hI; rw [hsame t b hn]
      have hIW3 : IW h3 G T Gi S := hIW.e22 (fun t b k ht => e22 t b k (by omega))
      have ev : ∀ k : Int, hI_v h3 i k = hI_v h2 i k := fun k => e22 22 0 _ (by omega)
      rw [← ev 1, ← ev 2] at hlng
      have hr3 := ll_1389 (e := 0) (u5 := v5) (u6 := v6) (u7 := v7) (Rt := LRt) (Stop := fun pc ls st h => (pc = 23 ∧ st = [] ∧ INV h ∧ ∃ u5 u6 u7, ls = lvOf (i + 6) u5 u6 u7) ∨ (pc = 1427 ∧ st = [ai (I 0), ar 23 0] ∧ INV h ∧ ∃ u5 u7, ls = lvOf i u5 (some (al (lng (h 23 0) 0))) u7)) hIW3 hN i0 h6 (fun h u5 u6 u7 hI => Or.inl ⟨rfl, rfl, hI, u5, u6, u7, rfl⟩) (fun h u5 u7 hI => Or.inr ⟨rfl, rfl, hI, u5, u7, rfl⟩) hlng
      rw [ev 1, ev 2] at hr3
      refine snR (st := [ai (I (vThr S (hI_v h2 i 1) (hI_v h2 i 2)))]) hF hX hM (hRR (cells + 1) (slots + 6) (by omega) (by omega)) hA lawBs_ok (fun pc4 ls4 st4 h4 H4 locs4 Lm4 hW4 hL4 hv4 hs4 => ?_) (kr (cells + 1) (slots + 6) (by omega) (by omega)) hr3 hW3 hL2 (vI (fun _ q => by cases q))
      rcases hs4 with ⟨rfl, rfl, hI4, w5, w6, w7, rfl⟩ | ⟨rfl, rfl, hI4, w5, w7, rfl⟩
      · exact kE (cells + 1) (slots + 6) (by omega) (by omega) h6 w5 w6 w7 h4 H4 locs4 Lm4 hI4 hW4 hL4
      · exact k1427 (cells + 1) (slots + 6) (by omega) (by omega) h6 w5 w7 h4 H4 locs4 Lm4 hI4 hW4 hL4
    · exact k1427 cells slots (by omega) (by omega) h6 v5 v7 h2 H2 locs2 Lm2 hI2 hW2 hL2
    · obtain ⟨G, T, Gi, S, hIW⟩ := hI2
      have hsz2 : Lm2.size = 8 := hL2.2.1.1
      have hcw : vx_CVW R s args "TakenUpByThePiecesLaw" yX3_toss.cls 181 yX3_toss cX3_toss 5 (some .int) hhT wsTO rmT 1 6 1 :=
        vx_cwVW 1 hF.2.2.2.2.1 (gV lw_l181 lw_iTO lw_nTO lw_sTO lw_cTO) rfl rfl rfl ⟨rfl, by decide +kernel, by decide +kernel, by decide +kernel⟩ ⟨by show 20 + 1 ≤ _; omega, by show 8 + (5 + 11) + 800 ≤ _; omega⟩
      obtain ⟨q0, hq0, hq2⟩ := wsA_get (ad := ad) (cI := cI) (cS := cS) (cB := cB) (h := h2) (t := 2) (b := 0) (by omega) (by decide)
      rw [cellA_obj (by omega)] at hq2
      have hrv := va_recv hF.2.2.2.2.2.1 hW2.1 (ci := 2) (q0 := q0) (cl_at (by omega)) hq2
      have hr := vx_runVX (hh := hhT) (locs := locs2) (cells := cells) (slots := slots) (below := below) (meth := meth) (e := e) (b := ad 2 0) (rest := []) (g := F0 m 1544 Lm2 ([ai (I (hI_v h2 i 1)), ar 2 0].map (conc ad))) (As := [ai (I (hI_v h2 i 1))].map (conc ad)) ⟨hF.1, hF.2.1, hF.2.2.1, hF.2.2.2.1, hF.2.2.2.2.1⟩ (m_toss l hl ad cI cS cB D (z := hI_v h2 i 1) hI_R h2 hIW.1.2.2.2 hIW.2.2.2.2.2.1 H2.size) hcw ⟨aPcX_blind, hrv, fun U hU hWm => aStartX hF hXQ hA hW2 [ar 2 0, ai (I (hI_v h2 i 1))] U hU hWm⟩ rfl rfl hsz2 rfl (Nat.le_of_ble_eq_true rfl) dL_law_1544 ⟨by omega, by omega⟩
      have hr2 : vx_Run p l e R s m args below meth c H2 locs2 cells slots 1 6 (F0 m 1544 Lm2 ([ai (I (hI_v h2 i 1)), ar 2 0].map (conc ad))) [] (aQc ad cI cS cB D (aA ad cI cS cB h2 H2.size) h2 (tRt S (hI_v h2 i 1) h2) ([ar 2 0, ai (I (hI_v h2 i 1))].map (conc ad)).toArray) (aXc ad cI cS cB D (aA ad cI cS cB h2 H2.size) h2 (fun _ => False)) (aA ad cI cS cB h2 H2.size) := by
        intro T' hT' X'
        rcases hr T' hT' X' with hq | ⟨q, st₀, t, T2, L2, E, ce, _, _, _, _, _, z, _⟩
        · exact Or.inl hq
        · exact z.elim
      refine sn_backX hW2 hA hr2 (fun E ce q9 H' locs' z => z.elim) (fun v h3 H3 locs3 hvl hq3 hW3 => ?_)
      obtain ⟨rfl, rfl⟩ := hq3
      exact kE1 (cells + 1) (slots + 6) (by omega) (by omega) h6 1547 _ [ai (I (vToss S (hI_v h3 i 1)))] h3 H3 locs3 Lm2 hW3 hL2 (vI (fun _ q => by cases q)) (ll_1547 (e := 0) (u5 := v5) (u6 := v6) (u7 := v7) hIW hN i0 h6 hEnd)
end LLP
