/-! THE ABSTRACT MACHINE IS SOUND: blocks, methods, all depths -/
section SNM
variable {p : Program} {l : Launch} {e : Env} {R : Room} {s : State} {m : MethodId} {args : Array Value} {below : List Frame} {meth : Method} {c : Code} {cells slots : Nat} {Q : State → Prop} {cc : ByteArray} {own nL : Nat} {D : va_G} {cI cS cB : ClassId} {ad : Nat → Nat → Nat} {A : Nat → Prop} {L : Nat} {xs : Nat → Int32}
theorem okDec_ok {pc : Nat} {i : AI} (h : okDec cc pc i = true) : decode cc pc = .ok (i.1, i.2.1) := of_decide_eq_true h
set_option maxHeartbeats 4000000 in
theorem snB (hF : Fx p s m args c cc own nL D cI cS cB) (hX : Scr ad A s L xs) {d : Nat} {CL : Nat → List AV → Mem → (Option AV → Mem → Prop) → Prop} (hM : aMet l ad cI cS cB D L d CL) (hR : d + 1 ≤ R.frames ∧ 40 * (d + 1) ≤ R.locals ∧ cells ≤ R.cells ∧ slots ≤ R.slots) (hA : ∀ q, s.heap.size ≤ q → A q) {ret : Option FieldType} {t : Option AI} {K : Nat → Lc → List AV → Mem → Prop} {Rt : Option AV → Mem → Prop}
    (kk : ∀ (pc' : Nat) (ls' : Lc) (st' : List AV) (h' : Mem) (H' : Heap) (locs' : List Loc) (Lm' : Array Slot), Wd ad cI cS cB D A s xs h' H' locs' → Rls ad ls' Lm' nL → vlds st' → K pc' ls' st' h' → W p l e R s m args below meth c H' locs' cells slots Q (F0 m pc' Lm' (st'.map (conc ad))))
    (kr : ∀ (v : Option AV) (ins : Instr) (pc' : Nat) (h' : Mem) (H' : Heap) (locs' : List Loc) (Lm' : Array Slot), Wd ad cI cS cB D A s xs h' H' locs' → (∀ w, v = some w → vld w) → retOk ret v ins → decode cc pc' = .ok (ins, 1) → Rt v h' → W p l e R s m args below meth c H' locs' cells slots Q (F0 m pc' Lm' (v.toList.map (conc ad)))) :
    ∀ (ss : List AI) (pc : Nat) (ls : Lc) (st : List AV) (h : Mem) (H : Heap) (locs : List Loc) (Lm : Array Slot), okL cc own nL ret t ss pc = true → Wd ad cI cS cB D A s xs h H locs → Rls ad ls Lm nL → vlds st → wB CL L K Rt t ss pc ls st h → W p l e R s m args below meth c H locs cells slots Q (F0 m pc Lm (st.map (conc ad)))
  | [], pc, ls, st, h, H, locs, Lm, hok, hW, hL, hv, hw => by
    cases t with
    | none => exact kk _ _ _ _ _ _ _ hW hL hv hw
    | some i =>
      unfold okL at hok
      rw [Bool.and_eq_true] at hok
      exact snT hF hX hM hR hA hok.2 (okDec_ok hok.1) hW hL hv hw kk kr
  | i :: r, pc, ls, st, h, H, locs, Lm, hok, hW, hL, hv, hw => by
    unfold okL at hok
    rw [Bool.and_eq_true, Bool.and_eq_true] at hok
    obtain ⟨⟨h1, h2⟩, h3⟩ := hok
    refine snS hF hX ⟨by omega, by omega, hR.2.2.1, hR.2.2.2⟩ h2 (okDec_ok h1) hW hL hv hw (fun ls' st' h' H' locs' Lm' hW' hL' hv' hw' => ?_)
    exact snB hF hX hM hR hA kk kr r _ _ _ _ _ _ _ h3 hW' hL' hv' hw'
theorem blk_mem {bs : List Blk} {pc : Nat} {q : List AI × Option AI} (h : blk bs pc = some q) : (pc, q) ∈ bs := by
  induction bs with
  | nil => cases h
  | cons b r ih =>
    unfold blk at h
    split at h
    · rename_i hb
      cases h
      rw [← Nat.eq_of_beq_eq_true hb]
      exact List.mem_cons_self
    · exact List.mem_cons_of_mem _ (ih h)
/-- a method's blocks from anywhere -/
theorem snR (hF : Fx p s m args c cc own nL D cI cS cB) (hX : Scr ad A s L xs) {d : Nat} {CL : Nat → List AV → Mem → (Option AV → Mem → Prop) → Prop} (hM : aMet l ad cI cS cB D L d CL) (hR : d + 1 ≤ R.frames ∧ 40 * (d + 1) ≤ R.locals ∧ cells ≤ R.cells ∧ slots ≤ R.slots) (hA : ∀ q, s.heap.size ≤ q → A q) {ret : Option FieldType} {bs : List Blk} (hbs : okBs cc own nL ret bs = true) {Stop : Nat → Lc → List AV → Mem → Prop} {Rt : Option AV → Mem → Prop}
    (ks : ∀ (pc' : Nat) (ls' : Lc) (st' : List AV) (h' : Mem) (H' : Heap) (locs' : List Loc) (Lm' : Array Slot), Wd ad cI cS cB D A s xs h' H' locs' → Rls ad ls' Lm' nL → vlds st' → Stop pc' ls' st' h' → W p l e R s m args below meth c H' locs' cells slots Q (F0 m pc' Lm' (st'.map (conc ad))))
    (kr : ∀ (v : Option AV) (ins : Instr) (pc' : Nat) (h' : Mem) (H' : Heap) (locs' : List Loc) (Lm' : Array Slot), Wd ad cI cS cB D A s xs h' H' locs' → (∀ w, v = some w → vld w) → retOk ret v ins → decode cc pc' = .ok (ins, 1) → Rt v h' → W p l e R s m args below meth c H' locs' cells slots Q (F0 m pc' Lm' (v.toList.map (conc ad))))
    {pc : Nat} {ls : Lc} {st : List AV} {h : Mem} (hr : Rch bs CL L Stop Rt pc ls st h) {H : Heap} {locs : List Loc} {Lm : Array Slot} (hW : Wd ad cI cS cB D A s xs h H locs) (hL : Rls ad ls Lm nL) (hv : vlds st) : W p l e R s m args below meth c H locs cells slots Q (F0 m pc Lm (st.map (conc ad))) := by
  refine hr (fun pc ls st h => ∀ (H : Heap) (locs : List Loc) (Lm : Array Slot), Wd ad cI cS cB D A s xs h H locs → Rls ad ls Lm nL → vlds st → W p l e R s m args below meth c H locs cells slots Q (F0 m pc Lm (st.map (conc ad)))) ?_ H locs Lm hW hL hv
  intro pc ls st h hh H locs Lm hW hL hv
  rcases hh with hh | ⟨ss, t, hb, hw⟩
  · exact ks _ _ _ _ _ _ _ hW hL hv hh
  · have hok := List.all_eq_true.mp hbs _ (blk_mem hb)
    exact snB hF hX hM hR hA (fun _ _ _ _ _ _ _ a b c d => d _ _ _ a b c) kr ss pc ls st h H locs Lm hok hW hL hv hw
/-! the locals with which a method begins -/
theorem lay_sl (ad : Nat → Nat → Nat) : ∀ as : List AV, (lg_sl (as.map (conc ad))).length = (lay as).length
  | [] => rfl
  | .inl x :: r => by
    have := lay_sl ad r
    simp only [lg_sl, List.map_cons, List.flatMap_cons, List.length_append, lay, List.length_cons] at this ⊢
    rw [this]
    simp [conc, Value.category]
    omega
  | .inr (.inl x) :: r => by
    have := lay_sl ad r
    simp only [lg_sl, List.map_cons, List.flatMap_cons, List.length_append, lay, List.length_cons] at this ⊢
    rw [this]
    simp [conc, Value.category]
    omega
  | .inr (.inr none) :: r => by
    have := lay_sl ad r
    simp only [lg_sl, List.map_cons, List.flatMap_cons, List.length_append, lay, List.length_cons] at this ⊢
    rw [this]
    simp [conc, Value.category]
    omega
  | .inr (.inr (some q)) :: r => by
    have := lay_sl ad r
    simp only [lg_sl, List.map_cons, List.flatMap_cons, List.length_append, lay, List.length_cons] at this ⊢
    rw [this]
    simp [conc, Value.category]
    omega
theorem lay_args {ad : Nat → Nat → Nat} : ∀ (as : List AV) (k i : Nat) (v : AV), lat (lay as) i = some v → (k + i, conc ad v) ∈ lv_args k (as.map (conc ad)) ∧ v ∈ as
  | [], k, i, v, h => by simp [lay, lat] at h
  | .inl x :: r, k, 0, v, h => by
    simp [lay, lat] at h; subst h
    exact ⟨List.mem_cons_self, List.mem_cons_self⟩
  | .inl x :: r, k, i + 1, v, h => by
    obtain ⟨h1, h2⟩ := lay_args r (k + 1) i v h
    refine ⟨List.mem_cons_of_mem _ ?_, List.mem_cons_of_mem _ h2⟩
    rw [show k + (i + 1) = k + 1 + i by omega]
    exact h1
  | .inr (.inl x) :: r, k, 0, v, h => by
    simp [lay, lat] at h; subst h
    exact ⟨List.mem_cons_self, List.mem_cons_self⟩
  | .inr (.inl x) :: r, k, 1, v, h => by
    simp [lay, lat] at h
  | .inr (.inl x) :: r, k, i + 2, v, h => by
    obtain ⟨h1, h2⟩ := lay_args r (k + 2) i v h
    refine ⟨List.mem_cons_of_mem _ ?_, List.mem_cons_of_mem _ h2⟩
    rw [show k + (i + 2) = k + 2 + i by omega]
    exact h1
  | .inr (.inr none) :: r, k, 0, v, h => by
    simp [lay, lat] at h; subst h
    exact ⟨List.mem_cons_self, List.mem_cons_self⟩
  | .inr (.inr none) :: r, k, i + 1, v, h => by
    obtain ⟨h1, h2⟩ := lay_args r (k + 1) i v h
    refine ⟨List.mem_cons_of_mem _ ?_, List.mem_cons_of_mem _ h2⟩
    rw [show k + (i + 1) = k + 1 + i by omega]
    exact h1
  | .inr (.inr (some q)) :: r, k, 0, v, h => by
    simp [lay, lat] at h; subst h
    exact ⟨List.mem_cons_self, List.mem_cons_self⟩
  | .inr (.inr (some q)) :: r, k, i + 1, v, h => by
    obtain ⟨h1, h2⟩ := lay_args r (k + 1) i v h
    refine ⟨List.mem_cons_of_mem _ ?_, List.mem_cons_of_mem _ h2⟩
    rw [show k + (i + 1) = k + 1 + i by omega]
    exact h1
theorem lat_app : ∀ (l : Lc) (n i : Nat) (v : AV), lat (l ++ List.replicate n none) i = some v → lat l i = some v
  | [], n, i, v, h => by
    exfalso
    induction n generalizing i with
    | zero => simp [lat] at h
    | succ n ih =>
      cases i with
      | zero => simp [List.replicate_succ, lat] at h
      | succ i => exact ih i (by simpa [List.replicate_succ, lat] using h)
  | w :: r, n, 0, v, h => h
  | w :: r, n, i + 1, v, h => lat_app r n i v h
theorem ent_Rls {n : Nat} {as : List AV} (hv : vlds as) (hn : (lay as).length ≤ n) : Rls ad (entL n as) ((lg_sl (as.map (conc ad)) ++ List.replicate (n - (lg_sl (as.map (conc ad))).length) Slot.unset).toArray) n := by
  have hl := lay_sl ad as
  have he := lv_entry (as.map (conc ad)) (n := n) (by rw [hl]; exact hn)
  refine ⟨by unfold entL; simp; omega, ⟨he.1, he.2.1, fun q hq => ?_⟩, fun i v h => ?_⟩
  · obtain ⟨v, h1, h2⟩ := lvl_mem.mp hq
    have h3 := (lay_args (ad := ad) as 0 q.1 v (lat_app _ _ _ _ h1)).1
    rw [Nat.zero_add] at h3
    have := he.2.2 _ h3
    rw [h2]
    exact this
  · exact hv v (lay_args (ad := ad) as 0 i v (lat_app _ _ _ _ h)).2
end SNM
set_option maxHeartbeats 4000000 in
/-- every method of the table, at any depth -/
theorem met_all (l : Launch) (ad : Nat → Nat → Nat) (cI cS cB : ClassId) (D : va_G) (L : Nat) : ∀ d : Nat, aMet l ad cI cS cB D L d (Rn mt L d)
  | 0 => fun _ _ _ _ _ hc => hc.elim
  | d + 1 => by
    intro j as h Qa hvs hc mi hj sz
    obtain ⟨mi', hj', ha, hr⟩ := hc
    rw [hj] at hj'
    cases hj'
    have hmi := nth_in hj
    obtain ⟨o1, o2, o3, o4, o5, o6⟩ := okM_spec hmi
    refine Met.ofW (cc := mi.2.1) (maxL := mi.2.2.1) (ret := mi.2.2.2.1) o4 rfl ?_
    intro p e s m args below meth c s₁ B hml hv
    obtain ⟨rfl, hsz, hP, hK, hD0, hN, hS2⟩ := hv
    subst hsz
    have hts := atoms_spec (ws := wsM mi) B.pre
    have hown : s.vm.findClass mi.1.cls = some m.cls := findClass_of_methodNamed B.named
    rw [o3] at hown
    have hF : Fx p s m (as.map (conc ad)).toArray c mi.2.1 mi.2.2.2.2.1 mi.2.2.1 D cI cS cB := ⟨B.exec, B.bytes, hml, hown, fun w hw => hts w (List.mem_cons_of_mem _ hw), hK, hN⟩
    have hW : Wd ad cI cS cB D (aA ad cI cS cB h s.heap.size) s (h 22 0) h s.heap [] := ⟨hP, hD0.self, va_S.rf, rfl⟩
    have hA : ∀ q, s.heap.size ≤ q → aA ad cI cS cB h s.heap.size q := fun q hq => Or.inr hq
    have hlocks := B.notSynchronized
    have hret := B.returns
    rw [lg_entry_eq]
    refine snR (st := []) hF (L := L) hS2 (met_all l ad cI cS cB D L d) ⟨Nat.le_refl _, Nat.le_refl _, Nat.zero_le _, Nat.zero_le _⟩ hA o1 (fun _ _ _ _ _ _ _ _ _ _ z => z.elim) (fun v ins pc' h' H' locs' Lm' hW' hvl hro hdc hq => ?_) hr hW (ent_Rls hvs (Nat.le_of_ble_eq_true ha)) (fun _ q => by cases q)
    have hQ : ∀ t : State, t.heap = H' → s.WarmedH t.vm → aQc ad cI cS cB D (aA ad cI cS cB h s.heap.size) h Qa (as.map (conc ad)).toArray s (.returned (v.map (conc ad))) t := fun t ht hWm => ⟨v, h', rfl, hvl, hq, by rw [ht]; exact hW'.1, hW'.2.2.2, hW'.2.2.1.F ht⟩
    match v, hro, hQ, hvl with
    | none, hro, hQ, hvl =>
      obtain ⟨rfl, hr0⟩ := hro
      exact W.vret B.exec B.bytes (hret.trans hr0) hQ hW'.2.2.1.2.2 hdc
    | some (.inl x), hro, hQ, hvl =>
      obtain ⟨rfl, hr0 | ⟨hr0, hx⟩⟩ := hro
      · exact W.iret B.exec B.bytes (hret.trans hr0) hQ hW'.2.2.1.2.2 hdc
      · exact W.zret B.exec B.bytes (hret.trans hr0) (by rcases hx with rfl | rfl <;> rfl) hQ hW'.2.2.1.2.2 hdc
    | some (.inr (.inl x)), hro, hQ, hvl =>
      obtain ⟨rfl, hr0⟩ := hro
      exact W.lret B.exec B.bytes (hret.trans hr0) hQ hW'.2.2.1.2.2 hdc
    | some (.inr (.inr none)), hro, hQ, hvl =>
      obtain ⟨rfl, n, hr0⟩ := hro
      exact W.aret B.exec B.bytes (hret.trans hr0) (Or.inl ⟨n, rfl⟩) (Or.inl rfl) hQ hW'.2.2.1.2.2 hdc
    | some (.inr (.inr (some q))), hro, hQ, hvl =>
      obtain ⟨rfl, n, hr0⟩ := hro
      exact W.aret B.exec B.bytes (hret.trans hr0) (Or.inl ⟨n, rfl⟩) (Or.inr ⟨_, rfl⟩) hQ hW'.2.2.1.2.2 hdc
