/-! THE ABSTRACT MACHINE IS SOUND: a call, the last instruction of a block, a block, a method at any depth -/
set_option maxRecDepth 100000 in
theorem cvt_ok : (cvT.all fun e => match nth mt e.2.2.1 with
    | some mi => Nat.blt mi.2.2.2.2.1 3
    | none => false) = true := by decide +kernel
theorem cv_t (e : Nat × Nat × Nat × Nat) (he : e ∈ cvT) (t : Nat) (h : ∀ mi, nth mt e.2.2.1 = some mi → mi.2.2.2.2.1 = t) : t < 3 := by
  have h1 := List.all_eq_true.mp cvt_ok e he
  split at h1
  · rename_i mi hmi
    rw [h mi hmi] at h1
    exact Nat.le_of_ble_eq_true h1
  · cases h1
section SNR
variable {p : Program} {l : Launch} {e : Env} {R : Room} {s : State} {m : MethodId} {args : Array Value} {below : List Frame} {meth : Method} {c : Code} {cells slots : Nat} {Q : State → Prop} {cc : ByteArray} {own nL : Nat} {D : va_G} {cI cS cB : ClassId} {ad : Nat → Nat → Nat} {A : Nat → Prop} {L : Nat} {xs : Nat → Int32}
theorem isOb_inv {t : Nat} {st : List AV} (h : isOb t st = true) : ∃ b r, st = ar t b :: r := by
  match st, h with
  | [], h => cases h
  | .inl _ :: _, h => cases h
  | .inr (.inl _) :: _, h => cases h
  | .inr (.inr none) :: _, h => cases h
  | .inr (.inr (some q)) :: r, h =>
    have := Nat.eq_of_beq_eq_true h
    exact ⟨q.2, r, by rw [← this]⟩
theorem aStart (hF : Fx p s m args c cc own nL D cI cS cB) (hX : Scr ad A s L xs) {h : Mem} {H : Heap} {locs : List Loc} (hW : Wd ad cI cS cB D A s xs h H locs) (as : List AV) (U : State) (hU : U.heap = H) (hWm : s.WarmedH U.vm)   : aPc ad cI cS cB D L as h H.size (as.map (conc ad)).toArray U := by
  obtain ⟨hx, hb, hml, hown, hts, hK, hN⟩ := hF
  refine ⟨rfl, by rw [hU], by rw [hU]; exact hW.1, va_K.moved hWm.alike hK, hW.2.1.weaken (fun _ _ _ _ => trivial), NW_warm hWm hN, hX.imp id (fun z => ⟨z.1, ?_, ?_, ?_⟩)⟩
  · rw [hU, hW.2.2.2]
    exact va_X.moved hWm.alike (z.2.1.kept (hW.2.2.1.2.1 _ z.2.2.1 z.2.2.2))
  · rw [hU]; exact Nat.lt_of_lt_of_le z.2.2.1 hW.2.2.1.1
  · rintro (⟨k, e, hk⟩ | hq)
    · exact z.2.2.2 (hW.2.1.2 k _ hk)
    · exact absurd z.2.2.1 (Nat.not_lt.mpr (Nat.le_trans hW.2.2.1.1 hq))
set_option maxHeartbeats 4000000 in
theorem sn_callV (hF : Fx p s m args c cc own nL D cI cS cB) (hX : Scr ad A s L xs) {d : Nat} {CL : Nat → List AV → Mem → (Option AV → Mem → Prop) → Prop} (hM : aMet l ad cI cS cB D L d CL) (hR : d + 1 ≤ R.frames ∧ 40 * (d + 1) ≤ R.locals ∧ cells ≤ R.cells ∧ slots ≤ R.slots) {idx j n t : Nat} (hcv : cvP (own, idx, j, n)) (hown : ∀ mi, nth mt j = some mi → mi.2.2.2.2.1 = t) (ht : t < 3)
    {h : Mem} {H : Heap} {locs : List Loc} (hW : Wd ad cI cS cB D A s xs h H locs) (hA : ∀ q, s.heap.size ≤ q → A q) {Lm : Array Slot} (hls : Lm.size = nL) {st : List AV} (hv : vlds st) (hn : n ≤ st.length) (hcat : catS (drp n st) ≤ 8) (hob : isOb t (rtk n st []) = true) {pc : Nat} (hd : decode cc pc = .ok (.invokevirtual idx, 3)) {Q' : Option AV → Mem → Prop} (hc : CL j (rtk n st []) h Q')
    (kk : ∀ (v : Option AV) (h' : Mem) (H' : Heap) (locs' : List Loc), (∀ w, v = some w → vld w) → Q' v h' → Wd ad cI cS cB D A s xs h' H' locs' → W p l e R s m args below meth c H' locs' cells slots Q (F0 m (pc + 3) Lm ((v.toList ++ drp n st).map (conc ad)))) : W p l e R s m args below meth c H locs cells slots Q (F0 m pc Lm (st.map (conc ad))) := by
  have hF0 := hF
  obtain ⟨hx, hb, hml, hown', hts, hK, hN⟩ := hF0
  obtain ⟨mi, hj, w1, w2, w3, w4, hn0, hnp⟩ := hcv
  have hj : nth mt j = some mi := hj
  have hn0 : 0 < n := hn0
  have hmi := nth_in hj
  obtain ⟨o1, o2, o3, o4, o5, o6⟩ := okM_spec hmi
  have hP := hW.1
  obtain ⟨e1, e2, e3⟩ := rtk_spec (conc ad) n st [] hn
  have hvs : vlds (rtk n st []) := rtk_vlds hv [] (fun _ q => by cases q)
  obtain ⟨b, as, has⟩ := isOb_inv hob
  rw [has] at hc hvs e2 e1
  have hbl : b < ocn t := vlds_h hvs
  obtain ⟨q, hq, hq2⟩ := wsA_get (ad := ad) (cI := cI) (cS := cS) (cB := cB) (h := h) (t := t) (by omega) hbl
  rw [cellA_obj ht] at hq2
  have hst : st.map (conc ad) = (as.map (conc ad)).reverse ++ .ref (ad t b) :: (drp n st).map (conc ad) := by
    simpa [conc] using e2
  have hcls : mi.1.cls = cnm t := by rw [o3, hown mi hj]
  have hmet := hM j (ar t b :: as) h Q' hvs hc mi hj H.size
  have hlen : (as.map (conc ad)).length = n - 1 := by
    simp at e1 ⊢
    omega
  have hcw : CallW R s args (cnm own) mi.1.cls idx mi.1 mi.2.1 mi.2.2.1 mi.2.2.2.1 (wsM mi) (rmd d) 0 0 (n - 1) := by
    refine cwV (n - 1) hts (wsV_in hmi w1 w2 w3 w4) rfl rfl rfl ⟨rfl, o5, o6, hnp⟩ ⟨hR.1, ?_⟩
    show 8 + (mi.2.2.1 + 11) + 40 * d ≤ R.locals
    omega
  have hrv := va_recv hK hP (ci := t) (q0 := q) (cl_at ht) hq2
  refine sn_back hW hA (va_runV (As := as.map (conc ad)) (rest := (drp n st).map (conc ad)) ⟨hx, hb, hml, hown', hts⟩ hmet hcw ⟨aPc_blind, ?_, fun U hU hWm => ?_⟩ rfl hlen hls hst ?_ hd ⟨hR.2.2.1, hR.2.2.2⟩) (fun v h' H' locs' hvl hQ hW' => ?_)
  · rw [hcls]; exact hrv
  · exact aStart hF hX hW (ar t b :: as) U hU hWm
  · exact lv_room (by rw [catS_map]; exact hcat)
  · have := kk v h' H' locs' hvl hQ hW'
    rw [List.map_append] at this
    exact this
set_option maxHeartbeats 4000000 in
theorem sn_callS (hF : Fx p s m args c cc own nL D cI cS cB) (hX : Scr ad A s L xs) {d : Nat} {CL : Nat → List AV → Mem → (Option AV → Mem → Prop) → Prop} (hM : aMet l ad cI cS cB D L d CL) (hR : d + 1 ≤ R.frames ∧ 40 * (d + 1) ≤ R.locals ∧ cells ≤ R.cells ∧ slots ≤ R.slots) {idx j n : Nat} (hcs : csP (own, idx, j, n) ∨ (own, idx, j, n) ∈ cnT)
    {h : Mem} {H : Heap} {locs : List Loc} (hW : Wd ad cI cS cB D A s xs h H locs) (hA : ∀ q, s.heap.size ≤ q → A q) {Lm : Array Slot} (hls : Lm.size = nL) {st : List AV} (hv : vlds st) (hn : n ≤ st.length) (hcat : catS (drp n st) ≤ 8) {pc : Nat} (hd : decode cc pc = .ok (.invokestatic idx, 3)) {Q' : Option AV → Mem → Prop} (hc : CL j (rtk n st []) h Q')
    (kk : ∀ (v : Option AV) (h' : Mem) (H' : Heap) (locs' : List Loc), (∀ w, v = some w → vld w) → Q' v h' → Wd ad cI cS cB D A s xs h' H' locs' → W p l e R s m args below meth c H' locs' cells slots Q (F0 m (pc + 3) Lm ((v.toList ++ drp n st).map (conc ad)))) : W p l e R s m args below meth c H locs cells slots Q (F0 m pc Lm (st.map (conc ad))) := by
  have hF0 := hF
  obtain ⟨hx, hb, hml, hown', hts, hK, hN⟩ := hF0
  obtain ⟨e1, e2, e3⟩ := rtk_spec (conc ad) n st [] hn
  have hvs : vlds (rtk n st []) := rtk_vlds hv [] (fun _ q => by cases q)
  have hst : st.map (conc ad) = ((rtk n st []).map (conc ad)).reverse ++ (drp n st).map (conc ad) := by simpa using e2
  have hlen : ((rtk n st []).map (conc ad)).length = n := by simpa using e1
  have hbk : ∀ mi, nth mt j = some mi → va_Run p l e R s m args below meth c H locs cells slots 0 0 (F0 m pc Lm (st.map (conc ad))) ((drp n st).map (conc ad)) (aQc ad cI cS cB D (aA ad cI cS cB h H.size) h Q' ((rtk n st []).map (conc ad)).toArray) (aA ad cI cS cB h H.size) → W p l e R s m args below meth c H locs cells slots Q (F0 m pc Lm (st.map (conc ad))) := by
    intro mi hj hr
    refine sn_back hW hA hr (fun v h' H' locs' hvl hQ hW' => ?_)
    have := kk v h' H' locs' hvl hQ hW'
    rw [List.map_append] at this
    exact this
  rcases hcs with hcs | hcn
  · obtain ⟨mi, hj, w1, w2, w3, hnp⟩ := hcs
    have hj : nth mt j = some mi := hj
    have hmi := nth_in hj
    obtain ⟨o1, o2, o3, o4, o5, o6⟩ := okM_spec hmi
    have hmet := hM j (rtk n st []) h Q' hvs hc mi hj H.size
    have hcw : CallB R s args (cnm own) idx mi.1 mi.2.1 mi.2.2.1 mi.2.2.2.1 (wsM mi) (rmd d) 0 0 n ∧ (Cond.static mi.1).before args s = true := by
      refine va_cwS n hts (wsS_in hmi w1 w2 w3) rfl rfl rfl ⟨o5, o6, hnp⟩ ⟨hR.1, ?_⟩
      show 8 + (mi.2.2.1 + 11) + 40 * d ≤ R.locals
      omega
    exact hbk mi hj (va_runS (As := (rtk n st []).map (conc ad)) (rest := (drp n st).map (conc ad)) ⟨hx, hb, hml, hown', hts⟩ hmet hcw ⟨aPc_blind, fun U hU hWm => aStart hF hX hW (rtk n st []) U hU hWm⟩ rfl hlen hls hst (lv_room (by rw [catS_map]; exact hcat)) hd ⟨hR.2.2.1, hR.2.2.2⟩)
  · obtain ⟨mi, hj, w1, w2, w3, hnp⟩ := cn_ok _ hcn
    have hj : nth mt j = some mi := hj
    have hmi := nth_in hj
    obtain ⟨o1, o2, o3, o4, o5, o6⟩ := okM_spec hmi
    have hmet := hM j (rtk n st []) h Q' hvs hc mi hj H.size
    have hNw : va_Nw (.methodLinkNest (cnm own) idx mi.1 (cnm 2)) s := hN _ hcn mi hj
    have hcw : va_CN R s args (cnm own) idx mi.1 (cnm 2) mi.2.1 mi.2.2.1 mi.2.2.2.1 (wsM mi) (rmd d) 0 0 n := by
      refine va_cnB n hts (wsM_in hmi) rfl rfl rfl hNw (hts _ (WSg_in w3)) ⟨o5, o6, hnp⟩ ⟨hR.1, ?_⟩
      show 8 + (mi.2.2.1 + 11) + 40 * d ≤ R.locals
      omega
    exact hbk mi hj (va_runSN (As := (rtk n st []).map (conc ad)) (rest := (drp n st).map (conc ad)) ⟨hx, hb, hml, hown', hts⟩ hmet ⟨hcw, hts _ (WSg_in w2), trivial⟩ ⟨aPc_blind, fun U hU hWm => aStart hF hX hW (rtk n st []) U hU hWm⟩ rfl hlen hls hst (lv_room (by rw [catS_map]; exact hcat)) hd ⟨hR.2.2.1, hR.2.2.2⟩)
/-! the last instruction of a block -/
theorem ofNat_sm {n : Nat} (h : n < 1000) : (Int32.ofNat n).toInt = (n : Int) := Int32.toInt_ofNat_of_lt (by omega)
theorem tgt_ok {pc : Nat} {o : Int} (h : nonneg pc o = true) : (pc : Int) + o = (tgt pc o : Int) := by
  unfold nonneg at h
  have := of_decide_eq_true h
  unfold tgt
  omega
theorem swT_at {pc : Nat} {x : Int32} {K : Nat → Prop} : ∀ {l : List Int} {n : Nat}, swT pc x K l n → ∀ (k : Nat) (o : Int), l[k]? = some o → x = Int32.ofNat (n + k) → K (tgt pc o)
  | [], _, _, k, o, h, _ => by simp at h
  | o' :: r, n, hs, 0, o, h, hx => by
    simp at h; subst h
    exact hs.1 hx
  | o' :: r, n, hs, k + 1, o, h, hx => swT_at hs.2 k o (by simpa using h) (by rw [hx]; congr 1; omega)
theorem lk_at {pc : Nat} {x : Int32} {K : Nat → Prop} {d : Int} (hd : nonneg pc d = true) : ∀ {l : List (Int × Int)}, (l.all (fun q => nonneg pc q.2 && decide (0 ≤ q.1) && decide (q.1 < 1000)) = true) → lkT pc x K l → (lkN x l → K (tgt pc d)) → ∃ off, Op.lookupswitch.offset l d x.toInt = off ∧ nonneg pc off = true ∧ K (tgt pc off)
  | [], _, _, h2 => ⟨d, rfl, hd, h2 trivial⟩
  | q :: r, ha, h1, h2 => by
    obtain ⟨a, o⟩ := q
    rw [List.all_cons, Bool.and_eq_true] at ha
    obtain ⟨ha, har⟩ := ha
    simp only [Bool.and_eq_true, decide_eq_true_eq] at ha
    obtain ⟨⟨ho, h0⟩, h9⟩ := ha
    have ea : (Int32.ofNat a.toNat).toInt = a := by rw [ofNat_sm (by omega)]; omega
    by_cases hx : x = Int32.ofNat a.toNat
    · refine ⟨o, ?_, ho, h1.1 hx⟩
      rw [Op.lookupswitch.offset_cons, if_pos (by rw [hx, ea])]
    · obtain ⟨off, g1, g2, g3⟩ := lk_at hd har h1.2 (fun hn => h2 ⟨hx, hn⟩)
      refine ⟨off, ?_, g2, g3⟩
      rw [Op.lookupswitch.offset_cons, if_neg (fun e => hx (Int32.toInt_inj.mp (by rw [ea, e])))]
      exact g1
/-- what a return answers -/
def retOk (ret : Option FieldType) (v : Option AV) (ins : Instr) : Prop := match v with
  | none => ins = .return_ ∧ ret = none
  | some (.inl x) => ins = .ireturn ∧ (ret = some .int ∨ (ret = some .boolean ∧ (x = 0 ∨ x = 1)))
  | some (.inr (.inl _)) => ins = .lreturn ∧ ret = some .long
  | some (.inr (.inr _)) => ins = .areturn ∧ ∃ n, ret = some (.object n)
set_option maxHeartbeats 8000000 in
theorem snT (hF : Fx p s m args c cc own nL D cI cS cB) (hX : Scr ad A s L xs) {d : Nat} {CL : Nat → List AV → Mem → (Option AV → Mem → Prop) → Prop} (hM : aMet l ad cI cS cB D L d CL) (hR : d + 1 ≤ R.frames ∧ 40 * (d + 1) ≤ R.locals ∧ cells ≤ R.cells ∧ slots ≤ R.slots) (hA : ∀ q, s.heap.size ≤ q → A q) {ret : Option FieldType} {i : AI} {pc : Nat} (hok : okT own ret pc i = true) (hd : decode cc pc = .ok (i.1, i.2.1)) {ls : Lc} {st : List AV} {h : Mem} {H : Heap} {locs : List Loc} {Lm : Array Slot} (hW : Wd ad cI cS cB D A s xs h H locs) (hL : Rls ad ls Lm nL) (hv : vlds st) {K : Nat → Lc → List AV → Mem → Prop} {Rt : Option AV → Mem → Prop} (hw : wT CL i pc ls st h K Rt)
    (kk : ∀ (pc' : Nat) (ls' : Lc) (st' : List AV) (h' : Mem) (H' : Heap) (locs' : List Loc) (Lm' : Array Slot), Wd ad cI cS cB D A s xs h' H' locs' → Rls ad ls' Lm' nL → vlds st' → K pc' ls' st' h' → W p l e R s m args below meth c H' locs' cells slots Q (F0 m pc' Lm' (st'.map (conc ad))))
    (kr : ∀ (v : Option AV) (ins : Instr) (pc' : Nat) (h' : Mem) (H' : Heap) (locs' : List Loc) (Lm' : Array Slot), Wd ad cI cS cB D A s xs h' H' locs' → (∀ w, v = some w → vld w) → retOk ret v ins → decode cc pc' = .ok (ins, 1) → Rt v h' → W p l e R s m args below meth c H' locs' cells slots Q (F0 m pc' Lm' (v.toList.map (conc ad)))) : W p l e R s m args below meth c H locs cells slots Q (F0 m pc Lm (st.map (conc ad))) := by
  have hF0 := hF
  obtain ⟨hx, hb, hml, hown, hts, hK, hN⟩ := hF0
  obtain ⟨ins, n, a, b, t⟩ := i
  dsimp only at hd
  cases ins <;> first | exact hw.elim | skip
  case goto o =>
    simp only [okT, Bool.and_eq_true] at hok
    obtain rfl := Nat.eq_of_beq_eq_true hok.1
    exact lv_goto hx hb hd (tgt_ok hok.2) (kk _ _ _ _ _ _ _ hW hL hv hw)
  case ifCond cd o =>
    simp only [okT, Bool.and_eq_true] at hok
    obtain rfl := Nat.eq_of_beq_eq_true hok.1
    obtain ⟨x, r, rfl, h1, h2⟩ := pI_inv hw
    have g1 := fun z => kk _ _ _ _ _ _ _ hW hL (vlds_t hv) (h1 z)
    have g2 := fun z => kk _ _ _ _ _ _ _ hW hL (vlds_t hv) (h2 z)
    cases cd
    · exact lv_if_eq hx hb hd (tgt_ok hok.2) g1 g2
    · exact lv_if_ne hx hb hd (tgt_ok hok.2) g1 (fun z => g2 (fun q => q z))
    · exact lv_if_lt hx hb hd (tgt_ok hok.2) g1 g2
    · exact lv_if_ge hx hb hd (tgt_ok hok.2) g1 g2
    · exact lv_if_gt hx hb hd (tgt_ok hok.2) g1 g2
    · exact lv_if_le hx hb hd (tgt_ok hok.2) g1 g2
  case if_icmp cd o =>
    simp only [okT, Bool.and_eq_true] at hok
    obtain rfl := Nat.eq_of_beq_eq_true hok.1
    obtain ⟨x, y, r, rfl, h1, h2⟩ := pI2_inv hw
    have g1 := fun z => kk _ _ _ _ _ _ _ hW hL (vlds_t (vlds_t hv)) (h1 z)
    have g2 := fun z => kk _ _ _ _ _ _ _ hW hL (vlds_t (vlds_t hv)) (h2 z)
    cases cd
    · exact lv_icmp_eq hx hb hd (tgt_ok hok.2) g1 g2
    · exact lv_icmp_ne hx hb hd (tgt_ok hok.2) g1 (fun z => g2 (fun q => q z))
    · exact lv_icmp_lt hx hb hd (tgt_ok hok.2) g1 g2
    · exact lv_icmp_ge hx hb hd (tgt_ok hok.2) g1 g2
    · exact lv_icmp_gt hx hb hd (tgt_ok hok.2) g1 g2
    · exact lv_icmp_le hx hb hd (tgt_ok hok.2) g1 g2
  case ifnull o =>
    simp only [okT, Bool.and_eq_true] at hok
    obtain rfl := Nat.eq_of_beq_eq_true hok.1
    obtain ⟨x, r, rfl, h1⟩ := pR_inv hw
    cases x with
    | none => exact lv_ifnullN hx hb hd (tgt_ok hok.2) (kk _ _ _ _ _ _ _ hW hL (vlds_t hv) h1)
    | some q => exact lv_ifnull hx hb hd (kk _ _ _ _ _ _ _ hW hL (vlds_t hv) h1)
  case ifnonnull o =>
    simp only [okT, Bool.and_eq_true] at hok
    obtain rfl := Nat.eq_of_beq_eq_true hok.1
    obtain ⟨x, r, rfl, h1⟩ := pR_inv hw
    cases x with
    | none => exact lv_ifnonnullN hx hb hd (kk _ _ _ _ _ _ _ hW hL (vlds_t hv) h1)
    | some q => exact lv_ifnonnull hx hb hd (tgt_ok hok.2) (kk _ _ _ _ _ _ _ hW hL (vlds_t hv) h1)
  case tableswitch df lo hi offs =>
    simp only [okT, Bool.and_eq_true, decide_eq_true_eq] at hok
    obtain ⟨⟨⟨⟨⟨o1, o2⟩, o3⟩, o4⟩, o5⟩, o6⟩ := hok
    obtain ⟨x, r, rfl, h1, h2⟩ := pI_inv hw
    by_cases hlo : x.toInt < lo
    · refine lv_tableOut hx hb hd (Or.inl hlo) (tgt_ok o1) (kk _ _ _ _ _ _ _ hW hL (vlds_t hv) (h2 (Or.inl ?_)))
      rw [Int32.lt_iff_toInt_lt, ofNat_sm (by omega)]
      omega
    · by_cases hhi : hi < x.toInt
      · refine lv_tableOut hx hb hd (Or.inr hhi) (tgt_ok o1) (kk _ _ _ _ _ _ _ hW hL (vlds_t hv) (h2 (Or.inr ?_)))
        rw [Int32.lt_iff_toInt_lt, ofNat_sm (by omega)]
        omega
      · have hk : (x.toInt - lo).toNat < offs.toList.length := by
          rw [Array.length_toList]
          omega
        have ho := List.getElem?_eq_getElem hk
        have hnn := List.all_eq_true.mp o6 _ (List.getElem_mem hk)
        have hK' := swT_at h1 _ _ ho (by
          apply Int32.toInt_inj.mp
          rw [ofNat_sm (by omega)]
          omega)
        refine lv_tableIn hx hb hd hlo hhi (off := offs.toList[(x.toInt - lo).toNat]) ?_ (tgt_ok hnn) (kk _ _ _ _ _ _ _ hW hL (vlds_t hv) hK')
        rw [← Array.getElem?_toList]
        exact ho
  case lookupswitch df ps =>
    simp only [okT, Bool.and_eq_true] at hok
    obtain ⟨⟨o1, o2⟩, o3⟩ := hok
    obtain ⟨x, r, rfl, h1, h2⟩ := pI_inv hw
    obtain ⟨off, g1, g2, g3⟩ := lk_at o1 (by simpa only [Bool.and_eq_true] using o2) h1 h2
    exact lv_lookup hx hb hd o3 g1 (tgt_ok g2) (kk _ _ _ _ _ _ _ hW hL (vlds_t hv) g3)
  case ireturn =>
    simp only [okT, Bool.and_eq_true] at hok
    obtain ⟨o1, o2⟩ := hok
    obtain rfl := Nat.eq_of_beq_eq_true o1
    dsimp only [wT] at hw
    split at hw
    · rename_i x
      have hvx : ∀ w, (some (ai x) : Option AV) = some w → vld w := fun w e => by cases e; trivial
      split at o2
      · have o2 := Nat.eq_of_beq_eq_true o2
        split at hw
        · exact kr (some (ai x)) _ _ _ _ _ _ hW hvx ⟨rfl, Or.inl rfl⟩ hd hw
        · rename_i hne; exact absurd o2 hne
      · have o2 := Nat.eq_of_beq_eq_true o2
        split at hw
        · cases o2
        · exact kr (some (ai x)) _ _ _ _ _ _ hW hvx ⟨rfl, Or.inr ⟨rfl, hw.1⟩⟩ hd hw.2
      · cases o2
    · exact hw.elim
  case lreturn =>
    simp only [okT, Bool.and_eq_true] at hok
    obtain ⟨o1, o2⟩ := hok
    obtain rfl := Nat.eq_of_beq_eq_true o1
    dsimp only [wT] at hw
    split at hw
    · rename_i x
      split at o2
      · exact kr (some (al x)) _ _ _ _ _ _ hW (fun w e => by cases e; trivial) ⟨rfl, rfl⟩ hd hw
      · cases o2
    · exact hw.elim
  case areturn =>
    simp only [okT, Bool.and_eq_true] at hok
    obtain ⟨o1, o2⟩ := hok
    obtain rfl := Nat.eq_of_beq_eq_true o1
    dsimp only [wT] at hw
    split at hw
    · rename_i x
      split at o2
      · exact kr (some (.inr (.inr x))) _ _ _ _ _ _ hW (fun w e => by cases e; exact vlds_h hv) ⟨rfl, _, rfl⟩ hd hw
      · cases o2
    · exact hw.elim
  case return_ =>
    simp only [okT, Bool.and_eq_true] at hok
    obtain ⟨o1, o2⟩ := hok
    obtain rfl := Nat.eq_of_beq_eq_true o1
    dsimp only [wT] at hw
    split at hw
    · split at o2
      · exact kr none _ _ _ _ _ _ hW (fun w e => by cases e) ⟨rfl, rfl⟩ hd hw
      · cases o2
    · exact hw.elim
  case invokestatic idx =>
    simp only [okT, Bool.and_eq_true, Bool.or_eq_true] at hok
    obtain ⟨o1, o2⟩ := hok
    obtain rfl := Nat.eq_of_beq_eq_true o1
    obtain ⟨h0, h1⟩ := ifB_t hw
    rw [Bool.and_eq_true] at h0
    refine sn_callS hF hX hM hR (o2.elim (fun z => Or.inl (cs_ok _ (has_in z))) (fun z => Or.inr (has_in z))) hW hA hL.2.1.1 hv (Nat.le_of_ble_eq_true h0.1) (Nat.le_of_ble_eq_true h0.2) hd h1 (fun v h' H' locs' hvl hQ hW' => kk _ _ _ _ _ _ _ hW' hL ?_ hQ)
    intro w hw
    rcases List.mem_append.mp hw with hw | hw
    · cases v with
      | none => cases hw
      | some z => simp at hw; subst hw; exact hvl _ rfl
    · exact drp_vlds hv w hw
  case invokevirtual idx =>
    simp only [okT, Bool.and_eq_true] at hok
    obtain ⟨⟨o1, o2⟩, o3⟩ := hok
    obtain rfl := Nat.eq_of_beq_eq_true o1
    obtain ⟨h0, h1⟩ := ifB_t hw
    simp only [Bool.and_eq_true] at h0
    obtain ⟨⟨h0, h0'⟩, h0''⟩ := h0
    have hcv := cv_ok _ (has_in o2)
    have hown' : ∀ mi, nth mt a = some mi → mi.2.2.2.2.1 = t := by
      intro mi hmi
      rw [hmi] at o3
      exact Nat.eq_of_beq_eq_true o3
    have ht4 : t < 3 := cv_t _ (has_in o2) t (fun mi hmi => hown' mi hmi)
    refine sn_callV hF hX hM hR hcv hown' ht4 hW hA hL.2.1.1 hv (Nat.le_of_ble_eq_true h0) (Nat.le_of_ble_eq_true h0') h0'' hd h1 (fun v h' H' locs' hvl hQ hW' => kk _ _ _ _ _ _ _ hW' hL ?_ hQ)
    intro w hw
    rcases List.mem_append.mp hw with hw | hw
    · cases v with
      | none => cases hw
      | some z => simp at hw; subst hw; exact hvl _ rfl
    · exact drp_vlds hv w hw
end SNR
