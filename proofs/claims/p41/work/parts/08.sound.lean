/-! THE ABSTRACT MACHINE IS SOUND: one instruction that goes on -/
theorem cl_at {a : Nat} (ha : a < 3) : vwCl[a]? = some (cnm a, clT a, nfl a) := by
  rcases (show a = 0 ∨ a = 1 ∨ a = 2 by omega) with rfl | rfl | rfl <;> rfl
theorem nfl_lt {a k : Nat} (h : k < nfl a) : a < 3 := by
  rcases Nat.lt_or_ge a 3 with h1 | h1
  · exact h1
  · exfalso
    have e : nfl a = 0 := by unfold nfl; split <;> first | omega | rfl
    omega
theorem cl_cls {a k : Nat} (h : k < nfl a) : (clT a k).1 = cnm a := by
  have ha := nfl_lt h
  rcases (show a = 0 ∨ a = 1 ∨ a = 2 by omega) with rfl | rfl | rfl
  · exact (by decide +kernel : ∀ k, k < 9 → (clT 0 k).1 = cnm 0) k h
  · exact (by decide +kernel : ∀ k, k < 6 → (clT 1 k).1 = cnm 1) k h
  · exact (by decide +kernel : ∀ k, k < 10 → (clT 2 k).1 = cnm 2) k h
def tyA (a k : Nat) : FieldType := match a with
  | 0 => tyX0 k
  | 1 => tyX2 k
  | _ => tyX3 k
theorem cl_ty {a : Nat} (ha : a < 3) : ∀ k, k < nfl a → parseFieldDescriptor (clT a k).2.2.1 = some (tyA a k) := by
  rcases (show a = 0 ∨ a = 1 ∨ a = 2 by omega) with rfl | rfl | rfl
  · exact tyX0_ok
  · exact tyX2_ok
  · exact tyX3_ok
theorem cl_nm {a : Nat} (ha : a < 3) : ∀ i, i < nfl a → ∀ j, j < nfl a → i ≠ j → (clT a i).2.1 ≠ (clT a j).2.1 := by
  rcases (show a = 0 ∨ a = 1 ∨ a = 2 by omega) with rfl | rfl | rfl
  · exact nmX0
  · exact nmX2
  · exact nmX3
theorem cl_in {a : Nat} (ha : a < 3) : ∀ w ∈ u_ws (cnm a) (clT a) (nfl a), w ∈ WSg := by
  have key : ∀ l : List Jvm.Cond, l.all inT = true → ∀ w ∈ l, w ∈ WSg := by
    intro l hl w hw
    have h := List.all_eq_true.mp hl w hw
    unfold inT at h
    rw [Bool.and_eq_true, decide_eq_true_eq] at h
    exact List.mem_filter.mpr h
  rcases (show a = 0 ∨ a = 1 ∨ a = 2 by omega) with rfl | rfl | rfl
  · exact key _ lays_0
  · exact key _ lays_1
  · exact key _ lays_2
/-- a field that holds an int: not final, of type int or boolean -/
theorem cl_int {a k : Nat} (h : k < nfl a) (hf : fsh a k = none) : (clT a k).2.2.2 = false ∧ tyA a k = if fbo a k = true then .boolean else .int := by
  have ha := nfl_lt h
  rcases (show a = 0 ∨ a = 1 ∨ a = 2 by omega) with rfl | rfl | rfl
  · exact (by decide +kernel : ∀ k, k < 9 → fsh 0 k = none → (clT 0 k).2.2.2 = false ∧ tyA 0 k = if fbo 0 k = true then .boolean else .int) k h hf
  · exact (by decide +kernel : ∀ k, k < 6 → fsh 1 k = none → (clT 1 k).2.2.2 = false ∧ tyA 1 k = if fbo 1 k = true then .boolean else .int) k h hf
  · exact (by decide +kernel : ∀ k, k < 10 → fsh 2 k = none → (clT 2 k).2.2.2 = false ∧ tyA 2 k = if fbo 2 k = true then .boolean else .int) k h hf
/-- what a field refers to is there -/
theorem fsh_ok {a k b : Nat} {q : Nat × Nat} (hf : fsh a k = some q) (hb : b < ocn a) : b + q.2 < ocn q.1 := by
  have key : ∀ a, a < 3 → ∀ k, k < 17 → ∀ b, b < ocn a → ∀ q ∈ fsh a k, b + q.2 < ocn q.1 := by decide +kernel
  have hk : a < 3 ∧ k < 17 := by
    unfold fsh at hf
    split at hf <;> first | (cases hf; omega) | cases hf
  exact key a hk.1 k hk.2 b hb q hf
theorem aval_vld {h : Mem} {a b k : Nat} (hb : b < ocn a) : vld (aval h a b k) := by
  unfold aval
  split
  · rename_i q hq
    exact fsh_ok hq hb
  · trivial
/-- the nest mates' words -/
def NW (U : State) : Prop := ∀ e ∈ cnT, ∀ mi, nth mt e.2.2.1 = some mi → va_Nw (.methodLinkNest (cnm e.1) e.2.1 mi.1 (cnm 2)) U
abbrev tysA (cI cS cB : ClassId) : List (ClassId × FieldType) := [(cI, .int), (cS, .object "TakenUpByThePieces$Shelf"), (cB, .object "TakenUpByThePieces$Board")]
/-- what holds all through a method -/
def Fx (p : Program) (s : State) (m : MethodId) (args : Array Value) (c : Code) (cc : ByteArray) (own nL : Nat) (D : va_G) (cI cS cB : ClassId) : Prop :=
  p.tables.exec = Jvm.exec ∧ c.code = cc ∧ c.maxLocals = nL ∧ s.vm.findClass (cnm own) = some m.cls ∧ (∀ w ∈ WSg, w.before args s = true) ∧ va_K D vwCl (tysA cI cS cB) s ∧ NW s
/-- the heap holds the memory h; nothing outside A has changed since s -/
def Wd (ad : Nat → Nat → Nat) (cI cS cB : ClassId) (D : va_G) (A : Nat → Prop) (s : State) (xs : Nat → Int32) (h : Mem) (H : Heap) (locs : List Loc) : Prop :=
  va_P D vwCl (wsA ad cI cS cB h) H ∧ va_D A (wsA ad cI cS cB h) ∧ va_S A s.heap H locs ∧ h 22 0 = xs
/-- the script -/
def Scr (ad : Nat → Nat → Nat) (A : Nat → Prop) (s : State) (L : Nat) (xs : Nat → Int32) : Prop := L = 0 ∨ (L = (L - 1) + 1 ∧ va_X (ad 22 0) (L - 1) xs s s.heap ∧ ad 22 0 < s.heap.size ∧ ¬ A (ad 22 0))
theorem mset_self (h : Mem) (t b k : Nat) (x : Int32) : mset h t b k x t b = upd (h t b) k x := by
  funext j
  unfold mset upd
  by_cases hj : j = k <;> simp [hj]
theorem mset_ne {h : Mem} {t b k : Nat} {x : Int32} {t' b' : Nat} (hne : ¬ (t' = t ∧ b' = b)) : mset h t b k x t' b' = h t' b' := by
  funext j
  unfold mset
  rw [if_neg]
  rintro ⟨h1, h2, -⟩
  exact hne ⟨h1, h2⟩
theorem mcpy_self (h : Mem) (t0 b0 sp t1 b1 dp n : Nat) : mcpy h t0 b0 sp t1 b1 dp n t1 b1 = va_cpy (h t0 b0) (h t1 b1) sp dp n := by
  funext j
  unfold mcpy
  rw [if_pos ⟨rfl, rfl⟩]
theorem mcpy_ne {h : Mem} {t0 b0 sp t1 b1 dp n : Nat} {t' b' : Nat} (hne : ¬ (t' = t1 ∧ b' = b1)) : mcpy h t0 b0 sp t1 b1 dp n t' b' = h t' b' := by
  funext j
  unfold mcpy
  rw [if_neg hne]
theorem isRow_iff {t : Nat} (h : isRow t = true) : 4 ≤ t ∧ t ≤ 19 := by
  unfold isRow at h
  rw [Bool.and_eq_true] at h
  exact ⟨Nat.le_of_ble_eq_true h.1, Nat.le_of_ble_eq_true h.2⟩
theorem aln_row {t L : Nat} (h1 : 4 ≤ t) (h2 : t ≤ 19) : aln L t = aln 0 t := by
  unfold aln
  split <;> first | rfl | omega
theorem cellA_row {ad : Nat → Nat → Nat} {cI cS cB : ClassId} {h : Mem} {t b : Nat} (h1 : 4 ≤ t) (h2 : t ≤ 19) : cellA ad cI cS cB h t b = .inl (cI, aln 0 t, .inl (h t b)) := by
  unfold cellA
  rw [if_neg (by omega), if_neg (by omega), if_neg (by omega)]
theorem cellA_obj {ad : Nat → Nat → Nat} {cI cS cB : ClassId} {h : Mem} {t b : Nat} (h1 : t < 3) : cellA ad cI cS cB h t b = .inr (t, (List.range (nfl t)).map fun k => conc ad (aval h t b k)) := by
  unfold cellA
  rw [if_pos h1]
section SND
variable {p : Program} {l : Launch} {e : Env} {R : Room} {s : State} {m : MethodId} {args : Array Value} {below : List Frame} {meth : Method} {c : Code} {cells slots : Nat} {Q : State → Prop} {cc : ByteArray} {own nL : Nat} {D : va_G} {cI cS cB : ClassId} {ad : Nat → Nat → Nat} {A : Nat → Prop} {L : Nat} {xs : Nat → Int32}
theorem Wd_put {h h' : Mem} {t b q : Nat} {H H1 : Heap} {locs locs1 : List Loc} (hW : Wd ad cI cS cB D A s xs h H locs) (ht : t < 22) (hq : objs[q]? = some (t, b)) (hh : ∀ t' b', ¬ (t' = t ∧ b' = b) → h' t' b' = h t' b') (hP : va_P D vwCl ((wsA ad cI cS cB h).set q (ad t b, cellA ad cI cS cB h' t b)) H1) (hD : va_D A ((wsA ad cI cS cB h).set q (ad t b, cellA ad cI cS cB h' t b))) (hS : va_S A s.heap H1 locs1) : Wd ad cI cS cB D A s xs h' H1 locs1 := by
  rw [wsA_set hq hh] at hP hD
  exact ⟨hP, hD, hS, by rw [hh 22 0 (fun z => by omega)]; exact hW.2.2.2⟩
set_option maxHeartbeats 4000000 in
theorem sn_get (hF : Fx p s m args c cc own nL D cI cS cB) {idx a k : Nat} (hg : gfP (own, idx, a, k)) {h : Mem} {H : Heap} {locs : List Loc} (hW : Wd ad cI cS cB D A s xs h H locs) {b pc : Nat} (hb0 : b < ocn a) {ls : Array Slot} {rest : List Value} (hd : decode cc pc = .ok (.getfield idx, 3)) (kk : W p l e R s m args below meth c H locs cells slots Q (F0 m (pc + 3) ls (conc ad (aval h a b k) :: rest))) : W p l e R s m args below meth c H locs cells slots Q (F0 m pc ls (.ref (ad a b) :: rest)) := by
  obtain ⟨hx, hb, hml, hown, hts, hK, hN⟩ := hF
  obtain ⟨hk, hwd⟩ := hg
  have hk : k < nfl a := hk
  have ha : a < 3 := nfl_lt hk
  obtain ⟨q, hq, hq2⟩ := wsA_get (ad := ad) (cI := cI) (cS := cS) (cB := cB) (h := h) (t := a) (by omega) hb0
  rw [cellA_obj ha] at hq2
  exact va_get (D := D) (ci := a) (v := conc ad (aval h a b k)) (C := cnm a) (T := clT a) (N := nfl a) hx hb hts (cl_in ha) hown hK hW.1 q hq2 (cl_at ha) k hk (hts _ (List.mem_filter.mpr hwd)) (fun x h9 => by rw [cl_cls hk] at h9; exact h9) (by rw [List.getElem?_map, List.getElem?_range hk]; rfl) hd kk
set_option maxHeartbeats 4000000 in
theorem sn_put (hF : Fx p s m args c cc own nL D cI cS cB) {idx a k : Nat} (hg : gfP (own, idx, a, k)) (hf : fsh a k = none) {h : Mem} {H : Heap} {locs : List Loc} (hW : Wd ad cI cS cB D A s xs h H locs) {b pc : Nat} (hb0 : b < ocn a) {ls : Array Slot} {rest : List Value} {x : Int32} (hz : fbo a k = true → x = 0 ∨ x = 1) (hd : decode cc pc = .ok (.putfield idx, 3)) (kk : ∀ (H1 : Heap) (locs1 : List Loc), Wd ad cI cS cB D A s xs (mset h a b k x) H1 locs1 → W p l e R s m args below meth c H1 locs1 cells slots Q (F0 m (pc + 3) ls rest)) : W p l e R s m args below meth c H locs cells slots Q (F0 m pc ls (.int x :: .ref (ad a b) :: rest)) := by
  obtain ⟨hx, hb, hml, hown, hts, hK, hN⟩ := hF
  obtain ⟨hk, hwd⟩ := hg
  have hk : k < nfl a := hk
  have ha : a < 3 := nfl_lt hk
  obtain ⟨q, hq, hq2⟩ := wsA_get (ad := ad) (cI := cI) (cS := cS) (cB := cB) (h := h) (t := a) (by omega) hb0
  rw [cellA_obj ha] at hq2
  obtain ⟨hfin, hty⟩ := cl_int hk hf
  have e1 : (((List.range (nfl a)).map fun j => conc ad (aval h a b j)).set k (.int x)) = (List.range (nfl a)).map fun j => conc ad (aval (mset h a b k x) a b j) := by
    apply List.ext_getElem?
    intro i
    by_cases hi : k = i
    · subst hi
      rw [List.getElem?_set_self (by simpa using hk), List.getElem?_map, List.getElem?_range hk]
      simp [aval, hf, conc, mset]
    · rw [List.getElem?_set_ne hi, List.getElem?_map, List.getElem?_map]
      cases hr : (List.range (nfl a))[i]? with
      | none => rfl
      | some j =>
        have hj : j = i := by
          have := List.getElem?_eq_some_iff.mp hr
          obtain ⟨h1, h2⟩ := this
          simpa using h2.symm
        subst hj
        simp only [Option.map_some]
        congr 2
        unfold aval
        split
        · rfl
        · simp [mset, Ne.symm hi]
  refine va_put (D := D) (ci := a) (v := .int x) (ty := tyA a k) (C := cnm a) (T := clT a) (N := nfl a) hx hb hts (cl_in ha) (tyA a) (cl_ty ha) (cl_nm ha) hown hK hW.1 hW.2.1 hW.2.2.1 q hq2 (cl_at ha) k hk (hts _ (List.mem_filter.mpr hwd)) (fun x h9 => by rw [cl_cls hk] at h9; exact h9) hfin (cl_ty ha k hk) ?_ ?_ (by simpa using hk) hd (fun H1 locs1 hP hD hS => kk H1 locs1 ?_)
  · rw [hty]
    by_cases hbo : fbo a k = true
    · rw [if_pos hbo]
      rcases hz hbo with rfl | rfl <;> rfl
    · rw [if_neg hbo]; rfl
  · rw [hty]
    by_cases hbo : fbo a k = true
    · rw [if_pos hbo]
      rcases hz hbo with rfl | rfl <;> rfl
    · rw [if_neg hbo]; rfl
  · rw [e1] at hP hD
    refine Wd_put (t := a) (b := b) (q := q) hW (by omega) hq (fun t' b' hne => mset_ne hne) ?_ ?_ hS
    · rw [cellA_obj ha]; exact hP
    · rw [cellA_obj ha]; exact hD
theorem row_at {h : Mem} {H : Heap} {locs : List Loc} {t b : Nat} (hW : Wd ad cI cS cB D A s xs h H locs) (h1 : 4 ≤ t) (h2 : t ≤ 19) (hb : b < ocn t) : ∃ q : Nat, objs[q]? = some (t, b) ∧ (wsA ad cI cS cB h)[q]? = some (ad t b, .inl (cI, aln 0 t, .inl (h t b))) := by
  obtain ⟨q, hq, hq2⟩ := wsA_get (ad := ad) (cI := cI) (cS := cS) (cB := cB) (h := h) (t := t) (by omega) hb
  rw [cellA_row h1 h2] at hq2
  exact ⟨q, hq, hq2⟩
theorem aln_cases {t : Nat} (h : aln L t ≠ 0) : (4 ≤ t ∧ t ≤ 19) ∨ t = 22 := by
  unfold aln at h
  split at h <;> first | (left; omega) | (right; rfl) | exact absurd rfl h
set_option maxHeartbeats 4000000 in
theorem sn_iald (hF : Fx p s m args c cc own nL D cI cS cB) (hX : Scr ad A s L xs) {h : Mem} {H : Heap} {locs : List Loc} (hW : Wd ad cI cS cB D A s xs h H locs) {t b pc : Nat} (hb0 : b < ocn t) {j : Int32} (hin : vp_in j (aln L t)) {ls : Array Slot} {rest : List Value} (hd : decode cc pc = .ok (.iaload, 1)) (kk : W p l e R s m args below meth c H locs cells slots Q (F0 m (pc + 1) ls (.int (h t b j.toNatClampNeg) :: rest))) : W p l e R s m args below meth c H locs cells slots Q (F0 m pc ls (.int j :: .ref (ad t b) :: rest)) := by
  obtain ⟨hx, hb, hml, hown, hts, hK, hN⟩ := hF
  have hne : aln L t ≠ 0 := fun z => by
    rw [z] at hin
    exact hin (Or.inr (Nat.zero_le _))
  rcases aln_cases hne with ⟨h1, h2⟩ | rfl
  · obtain ⟨q, hq, hq2⟩ := row_at hW h1 h2 hb0
    rw [aln_row h1 h2] at hin
    exact va_iald hx hb hK hW.1 q 0 hq2 rfl hin hd kk
  · have hb1 : b = 0 := by
      have : ocn 22 = 1 := rfl
      omega
    subst hb1
    have hin : vp_in j (L - 1) := hin
    rcases hX with rfl | ⟨-, g1, g2, g3⟩
    · exact absurd (Or.inr (Nat.zero_le _)) hin
    · refine va_sld hx hb g1 g2 g3 hW.2.2.1 hin hd ?_
      have hlt : j.toNatClampNeg < L - 1 := Nat.not_le.mp fun q => hin (Or.inr q)
      rw [← hW.2.2.2]
      exact kk
set_option maxHeartbeats 4000000 in
theorem sn_iast (hF : Fx p s m args c cc own nL D cI cS cB) {h : Mem} {H : Heap} {locs : List Loc} (hW : Wd ad cI cS cB D A s xs h H locs) {t b pc : Nat} (hb0 : b < ocn t) (hr : isRow t = true) {j x : Int32} (hin : vp_in j (aln L t)) {ls : Array Slot} {rest : List Value} (hd : decode cc pc = .ok (.iastore, 1)) (kk : ∀ (H1 : Heap) (locs1 : List Loc), Wd ad cI cS cB D A s xs (mset h t b j.toNatClampNeg x) H1 locs1 → W p l e R s m args below meth c H1 locs1 cells slots Q (F0 m (pc + 1) ls rest)) : W p l e R s m args below meth c H locs cells slots Q (F0 m pc ls (.int x :: .int j :: .ref (ad t b) :: rest)) := by
  obtain ⟨hx, hb, hml, hown, hts, hK, hN⟩ := hF
  obtain ⟨h1, h2⟩ := isRow_iff hr
  obtain ⟨q, hq, hq2⟩ := row_at hW h1 h2 hb0
  rw [aln_row h1 h2] at hin
  refine va_iast hx hb hK hW.1 hW.2.1 hW.2.2.1 q 0 hq2 rfl hin hd (fun H1 locs1 hP hD hS => kk H1 locs1 ?_)
  refine Wd_put (t := t) (b := b) (q := q) hW (by omega) hq (fun t' b' hne => mset_ne hne) ?_ ?_ hS
  · rw [cellA_row h1 h2, mset_self]; exact hP
  · rw [cellA_row h1 h2, mset_self]; exact hD
set_option maxHeartbeats 4000000 in
theorem sn_cpy (hF : Fx p s m args c cc own nL D cI cS cB) {idx : Nat} (hac : acP (own, idx)) {h : Mem} {H : Heap} {locs : List Loc} (hW : Wd ad cI cS cB D A s xs h H locs) {t0 b0 t1 b1 pc : Nat} (hb0 : b0 < ocn t0) (hb1 : b1 < ocn t1) (hr0 : isRow t0 = true) (hr1 : isRow t1 = true) {sp dp n : Int32} (h1 : ¬ sp < 0) (h2 : ¬ dp < 0) (h3 : ¬ n < 0) (h4 : sp.toNatClampNeg + n.toNatClampNeg ≤ aln L t0) (h5 : dp.toNatClampNeg + n.toNatClampNeg ≤ aln L t1) {ls : Array Slot} (hls : ls.size = nL) {rest : List Value} (hrest : (rest.map fun v => v.category).sum ≤ 8) (hR : 1 ≤ R.frames ∧ 40 ≤ R.locals) (hd : decode cc pc = .ok (.invokestatic idx, 3)) (kk : ∀ (H1 : Heap) (locs1 : List Loc), Wd ad cI cS cB D A s xs (mcpy h t0 b0 sp.toNatClampNeg t1 b1 dp.toNatClampNeg n.toNatClampNeg) H1 locs1 → W p l e R s m args below meth c H1 locs1 cells slots Q (F0 m (pc + 3) ls rest)) : W p l e R s m args below meth c H locs cells slots Q (F0 m pc ls (.int n :: .int dp :: .ref (ad t1 b1) :: .int sp :: .ref (ad t0 b0) :: rest)) := by
  obtain ⟨hx, hb, hml, hown, hts, hK, hN⟩ := hF
  obtain ⟨r1, r2⟩ := isRow_iff hr0
  obtain ⟨r3, r4⟩ := isRow_iff hr1
  obtain ⟨q, hq, hq2⟩ := row_at hW r1 r2 hb0
  obtain ⟨q', hq', hq2'⟩ := row_at hW r3 r4 hb1
  rw [aln_row r1 r2] at h4
  rw [aln_row r3 r4] at h5
  have hw : ∀ w, InT w → w.before args s = true := fun w h => hts w (List.mem_filter.mpr h)
  refine va_copyi hx hb (hml.trans hls.symm) hown (hw _ hac) (hw _ acw_ok.1) (hw _ acw_ok.2.1) (hw _ acw_ok.2.2) hK hW.1 hW.2.1 hW.2.2.1 q q' 0 0 hq2 hq2' rfl rfl rfl h1 h2 h3 h4 h5 (fun i _ => rfl) hR.1 ?_ hd (fun H1 locs1 hP hD hS => kk H1 locs1 ?_)
  · have e1 : nativeFrameWords "java/lang/System" "arraycopy" 5 ≤ 20 := by decide +kernel
    omega
  · refine Wd_put (t := t1) (b := b1) (q := q') hW (by omega) hq' (fun t' b' hne => mcpy_ne hne) ?_ ?_ hS
    · rw [cellA_row r3 r4, mcpy_self]; exact hP
    · rw [cellA_row r3 r4, mcpy_self]; exact hD
end SND
