/-! MAKING THE WORLD: rows over a list of cells that grows at its end -/
def Yw (D : va_G) (A : Nat → Prop) (s : State) (ws : va_W) (H : Heap) (locs : List Loc) : Prop := va_P D vwCl ws H ∧ va_D A ws ∧ va_S A s.heap H locs
def zI : Nat → Int32 := fun _ => 0
/-- the classes of the two rows of objects -/
def AOs (U : State) : Prop := va_AO "TakenUpByThePieces$Shelf" U ∧ va_AO "TakenUpByThePieces$Board" U ∧ va_Nw (.methodLinkNest "TakenUpByThePieces" 50 yX2_init "TakenUpByThePieces") U
theorem AOs.same {u U : State} (hv : u.vm = U.vm) (h : AOs u) : AOs U := ⟨va_AO.moved (by rw [hv]; exact Vm.Alike.refl U.vm) h.1, va_AO.moved (by rw [hv]; exact Vm.Alike.refl U.vm) h.2.1, va_Nw.same rfl hv h.2.2⟩
theorem AOs.warm {s U : State} (hW : s.WarmedH U.vm) (h : AOs s) : AOs U := ⟨va_AO.moved hW.alike h.1, va_AO.moved hW.alike h.2.1, va_Nw.warmM hW h.2.2⟩
/-- what holds all through a constructor -/
def Fk (p : Program) (s : State) (m : MethodId) (args : Array Value) (c : Code) (cc : ByteArray) (own nL : Nat) (D : va_G) (cI cS cB : ClassId) : Prop := p.tables.exec = Jvm.exec ∧ c.code = cc ∧ c.maxLocals = nL ∧ s.vm.findClass (cnm own) = some m.cls ∧ (∀ w ∈ WSg, w.before args s = true) ∧ va_K D vwCl (tysA cI cS cB) s ∧ AOs s
/-- a constructor's start and end -/
def cPc (D : va_G) (cI cS cB : ClassId) (a ci : Nat) (fs : List Value) (sz : Nat) : Array Value → State → Prop := va_Pc [.ref a] (fun U => U.heap.size = sz ∧ va_P D vwCl [(a, .inr (ci, fs))] U.heap ∧ va_K D vwCl (tysA cI cS cB) U ∧ AOs U)
def cQc (D : va_G) (a ci : Nat) (fs : List Value) (sz : Nat) (post : Nat → va_W → Prop) : Array Value → State → Outcome → State → Prop := fun _ st oc t => oc = .returned none ∧ (∃ w1, post a w1 ∧ va_P D vwCl w1 t.heap ∧ va_D (va_A [(a, .inr (ci, fs))] sz) w1) ∧ va_F (va_A [(a, .inr (ci, fs))] sz) st t
def aCt (l : Launch) (y : MethodName) (ws : List Jvm.Cond) (rm : Room) (D : va_G) (cI cS cB : ClassId) (ci : Nat) (fs : List Value) (post : Nat → va_W → Prop) (mc ms : Nat) : Prop := ∀ a sz : Nat, Met l y ws rm (cPc D cI cS cB a ci fs sz) (cQc D a ci fs sz post) mc ms (va_A [(a, .inr (ci, fs))] sz)
theorem cPc_blind {D : va_G} {cI cS cB : ClassId} {a ci : Nat} {fs : List Value} {sz : Nat} : FrameBlind (cPc D cI cS cB a ci fs sz) := by
  intro v U g mk q
  obtain ⟨q0, q1, q2, q3, q4⟩ := q
  exact ⟨q0, q1, q2, va_K.moved (u := U) (U := U.calling g mk v) (Vm.Alike.refl U.vm) q3, AOs.same (u := U) (U := U.calling g mk v) rfl q4⟩
theorem va_D1 {A : Nat → Prop} {q : Nat × va_E} (h : A q.1) : va_D A [q] := by
  have key : ∀ (k : Nat) (x : Nat × va_E), [q][k]? = some x → k = 0 ∧ x = q := by
    intro k x hx
    cases k with
    | zero => exact ⟨rfl, (Option.some.inj hx).symm⟩
    | succ k => simp at hx
  refine ⟨fun i j x y hi hj _ => by rw [(key i x hi).1, (key j y hj).1], fun k x hx => by rw [(key k x hx).2]; exact h⟩
theorem va_D_l {A : Nat → Prop} {w1 w2 : va_W} (h : va_D A (w1 ++ w2)) : va_D A w1 := by
  have key : ∀ (k : Nat) (x : Nat × va_E), w1[k]? = some x → (w1 ++ w2)[k]? = some x := fun k x hx => by rw [List.getElem?_append_left (List.getElem?_eq_some_iff.mp hx).1]; exact hx
  exact ⟨fun i j x y hi hj e => h.1 i j x y (key i x hi) (key j y hj) e, fun k x hx => h.2 k x (key k x hx)⟩
theorem va_P_l {D : va_G} {cl : List vw_C} {H : Heap} {w1 w2 : va_W} (h : va_P D cl (w1 ++ w2) H) : va_P D cl w1 H := fun k x hx => h k x (by rw [List.getElem?_append_left (List.getElem?_eq_some_iff.mp hx).1]; exact hx)
theorem va_P_r {D : va_G} {cl : List vw_C} {H : Heap} {w1 w2 : va_W} (h : va_P D cl (w1 ++ w2) H) : va_P D cl w2 H := fun k x hx => h (w1.length + k) x (by rw [List.getElem?_append_right (by omega)]; rw [show w1.length + k - w1.length = k by omega]; exact hx)
/-- behind a call: the cells ahead, and the callee's world, which was the last ones -/
theorem join_suf {A0 : Nat → Prop} {D : va_G} {cl : List vw_C} {wr wc w1 : va_W} {H H1 : Heap} (hP : va_P D cl (wr ++ wc) H) (hD : va_D A0 (wr ++ wc))
    (hk : ∀ q : Nat, q < H.size → ¬ va_A wc H.size q → H1[q]? = H[q]?) (hF : ∀ q, va_A wc H.size q → A0 q) (hP1 : va_P D cl w1 H1) (hD1 : va_D (va_A wc H.size) w1) : va_P D cl (wr ++ w1) H1 ∧ va_D A0 (wr ++ w1) := by
  have apart : ∀ (k : Nat) (q : Nat × va_E), wr[k]? = some q → q.1 < H.size ∧ ¬ va_A wc H.size q.1 := by
    intro k q hq
    have hkl := (List.getElem?_eq_some_iff.mp hq).1
    have h2 : (wr ++ wc)[k]? = some q := by rw [List.getElem?_append_left hkl]; exact hq
    have hl := (hP k q h2).lt
    refine ⟨hl, fun h => ?_⟩
    rcases h with ⟨k2, e, h⟩ | h
    · have h3 : (wr ++ wc)[wr.length + k2]? = some (q.1, e) := by rw [List.getElem?_append_right (by omega), show wr.length + k2 - wr.length = k2 by omega]; exact h
      have := hD.1 k (wr.length + k2) q (q.1, e) h2 h3 rfl
      omega
    · omega
  refine ⟨va_P.app (fun k q hq => ?_) hP1, va_D.app (va_D_l hD) (hD1.weaken (fun k q _ h => hF q.1 h)) (fun i j x y hx hy hxy => ?_)⟩
  · obtain ⟨g1, g2⟩ := apart k q hq
    exact (va_P_l hP k q hq).kept (hk q.1 g1 g2)
  · exact (apart i x hx).2 (by rw [hxy]; exact hD1.2 j y hy)
section YR
variable {p : Program} {l : Launch} {e : Env} {R : Room} {s : State} {m : MethodId} {args : Array Value} {below : List Frame} {meth : Method} {c : Code} {cells slots mc ms : Nat} {Q : State → Prop} {cc : ByteArray} {own nL : Nat} {D : va_G} {cI cS cB : ClassId} {A : Nat → Prop} {H : Heap} {locs : List Loc} {ws wr : va_W} {pc : Nat} {ls : Array Slot} {rest : List Value}
set_option maxRecDepth 100000 in
theorem w_arrI : InT (.arrayClass .int) := ⟨by decide +kernel, rfl⟩
theorem y_newi (hF : Fk p s m args c cc own nL D cI cS cB) (hA : ∀ q, s.heap.size ≤ q → A q) (hY : Yw D A s ws H locs) {z : Int} (N : Nat) (z0 : 0 ≤ z) (z1 : z ≤ 1000) (hN : z.toNat = N) (hc : cells + 1 ≤ R.cells) (hs : slots + N ≤ R.slots) (hd : decode cc pc = .ok (.newarray .int, 2))
    (kk : ∀ (q : Nat) (H1 : Heap), Yw D A s (ws ++ [(q, .inl (cI, N, .inl zI))]) H1 locs → W p l e R s m args below meth c H1 locs (cells + 1) (slots + N) Q (F0 m (pc + 2) ls (.ref q :: rest))) : W p l e R s m args below meth c H locs cells slots Q (F0 m pc ls (.int (I z) :: rest)) := by
  obtain ⟨hx, hb, hml, hown, hts, hK, hAO⟩ := hF
  subst hN
  refine va_newa (atype := .int) (ty := .int) (a0 := (z.toNat, .inl zI)) hx hb (hts _ (WSg_in w_arrI)) rfl hK hY.1 hY.2.1 hY.2.2 hA (fun cA => rfl) (fun h => ?_) (I_nat z0 (by omega)) ?_ hc hs hd (fun q cA H1 hK1 hP1 hD1 hS1 => ?_)
  · rw [I_zero, I_lt ⟨by omega, by omega⟩ ⟨by omega, by omega⟩] at h; omega
  · have : componentBytes FieldType.int = 4 := rfl
    rw [this]; omega
  · have e1 := (hK1.2 3 (cA, .int) rfl).2
    have e2 := (hK.2 0 (cI, .int) rfl).2
    obtain rfl : cA = cI := Option.some.inj (e1.symm.trans e2)
    exact kk q H1 ⟨hP1, hD1, hS1⟩
theorem y_put (hF : Fk p s m args c cc own nL D cI cS cB) {a ci : Nat} {fs : List Value} (hY : Yw D A s ((a, .inr (ci, fs)) :: ws) H locs) {idx k : Nat} (hk : k < nfl ci) (hl : InT (.fieldLink (cnm own) idx (cnm ci) (clT ci k).2.1 (clT ci k).2.2.1)) (hfin : (clT ci k).2.2.2 = false ∨ ((clT ci k).2.2.2 = true ∧ meth.name = "<init>" ∧ own = ci)) {v : Value} (hn : narrow (tyA ci k) v = v) (hfit : fits (tyA ci k) v = true) (hlen : k < fs.length) (hd : decode cc pc = .ok (.putfield idx, 3))
    (kk : ∀ (H1 : Heap) (locs1 : List Loc), Yw D A s ((a, .inr (ci, fs.set k v)) :: ws) H1 locs1 → W p l e R s m args below meth c H1 locs1 cells slots Q (F0 m (pc + 3) ls rest)) : W p l e R s m args below meth c H locs cells slots Q (F0 m pc ls (v :: .ref a :: rest)) := by
  obtain ⟨hx, hb, hml, hown, hts, hK, hAO⟩ := hF
  have hci := nfl_lt hk
  rcases hfin with hfin | ⟨hfin, hin2, hoe⟩
  · exact va_put (D := D) (ci := ci) (v := v) (ty := tyA ci k) (C := cnm ci) (T := clT ci) (N := nfl ci) hx hb hts (cl_in hci) (tyA ci) (cl_ty hci) (cl_nm hci) hown hK hY.1 hY.2.1 hY.2.2 0 rfl (cl_at hci) k hk (hts _ (WSg_in hl)) (fun x h9 => by rw [cl_cls hk] at h9; exact h9) hfin (cl_ty hci k hk) hn hfit hlen hd (fun H1 locs1 hP hD hS => kk H1 locs1 ⟨hP, hD, hS⟩)
  · subst hoe
    exact va_putF (D := D) (ci := own) (v := v) (ty := tyA own k) (C := cnm own) (T := clT own) (N := nfl own) hx hb hts (cl_in hci) (tyA own) (cl_ty hci) (cl_nm hci) hown hK hY.1 hY.2.1 hY.2.2 0 rfl (cl_at hci) k hk (hts _ (WSg_in hl)) (fun x h9 => by rw [cl_cls hk] at h9; exact h9) hfin hin2 (cl_cls hk) (cl_ty hci k hk) hn hfit hlen hd (fun H1 locs1 hP hD hS => kk H1 locs1 ⟨hP, hD, hS⟩)
theorem y_new (hF : Fk p s m args c cc own nL D cI cS cB) (hA : ∀ q, s.heap.size ≤ q → A q) (hY : Yw D A s ws H locs) {idx : Nat} (ci : Nat) (hci : ci < 3) {fs : List Value} (hfs : ∀ j, j < nfl ci → defaultValue (tyA ci j) = vp_V fs j) (h1 : InT (.classLink (cnm own) idx (cnm ci))) (h2 : InT (.instantiable (cnm ci) (nfl ci))) (h3 : InT (.initialized (cnm ci))) (hc : cells + 1 ≤ R.cells) (hs : slots + nfl ci ≤ R.slots) (hd : decode cc pc = .ok (.new idx, 3))
    (kk : ∀ (q : Nat) (H1 : Heap), Yw D A s (ws ++ [(q, .inr (ci, fs))]) H1 locs → W p l e R s m args below meth c H1 locs (cells + 1) (slots + nfl ci) Q (F0 m (pc + 3) ls (.ref q :: rest))) : W p l e R s m args below meth c H locs cells slots Q (F0 m pc ls rest) := by
  obtain ⟨hx, hb, hml, hown, hts, hK, hAO⟩ := hF
  exact va_new (D := D) (ci := ci) (fs := fs) (C := cnm ci) (T := clT ci) (N := nfl ci) hx hb hts (cl_in hci) (tyA ci) (cl_ty hci) hown (hts _ (WSg_in h1)) (hts _ (WSg_in h2)) (hts _ (WSg_in h3)) hK hY.1 hY.2.1 hY.2.2 hA (cl_at hci) hfs hc hs hd (fun q H1 hP hD hS => kk q H1 ⟨hP, hD, hS⟩)
theorem gC {y : MethodName} {cy : ByteArray} {mx : Nat} (w4 : InT (.code y cy mx none)) : GoodIn WSg (.code y cy mx none :: WSg) := by
  intro w hw
  rcases List.mem_cons.mp hw with rfl | hw
  · exact ⟨WSg_in w4, WSg_good (WSg_in w4)⟩
  · exact ⟨hw, WSg_good hw⟩
theorem y_back (hA : ∀ q, s.heap.size ≤ q → A q) {q ci : Nat} {fs : List Value} (hY : Yw D A s (wr ++ [(q, .inr (ci, fs))]) H locs) {post : Nat → va_W → Prop} {a : Array Value} {st0 : List Value}
    (hr : va_Run p l e R s m args below meth c H locs cells slots mc ms (F0 m pc ls st0) rest (cQc D q ci fs H.size post a) (va_A [(q, .inr (ci, fs))] H.size))
    (kk : ∀ (w1 : va_W) (H1 : Heap) (locs1 : List Loc), post q w1 → Yw D A s (wr ++ w1) H1 locs1 → W p l e R s m args below meth c H1 locs1 (cells + mc) (slots + ms) Q (F0 m (pc + 3) ls rest)) : W p l e R s m args below meth c H locs cells slots Q (F0 m pc ls st0) := by
  obtain ⟨hP, hD, hS⟩ := hY
  have hF1 : ∀ x, va_A [(q, .inr (ci, fs))] H.size x → A x := by
    rintro x (⟨k, e, hk⟩ | h)
    · exact hD.2 (wr.length + k) (x, e) (by rw [List.getElem?_append_right (by omega), show wr.length + k - wr.length = k by omega]; exact hk)
    · exact hA x (Nat.le_trans hS.1 h)
  intro T hT X
  obtain ⟨v, st₀, t, T', L, h0, X', hL, e1, e2, ⟨hv, ⟨w1, hp, hP1, hD1⟩, hz, hk⟩, st⟩ := hr T hT X
  cases hv
  rw [h0] at hz hk
  obtain ⟨j1, j2⟩ := join_suf hP hD hk hF1 hP1 hD1
  obtain ⟨t2, a1, b1⟩ := kk w1 T'.heap (locs ++ L) hp ⟨by rw [e1]; exact j1, j2, Nat.le_trans hS.1 (by rw [e1]; exact hz), fun x h1 h2 => by
    rw [e1, hk x (Nat.lt_of_lt_of_le h1 hS.1) (fun z => h2 (hF1 x z))]
    exact hS.2.1 x h1 h2, fun x hx => by
      rcases List.mem_append.mp hx with h1 | h1
      · exact hS.2.2 x h1
      · exact hF1 _ (hL x h1)⟩ T' rfl X'
  exact ⟨t2, st t2 a1, b1⟩
/-- a constructor's call -/
theorem y_init (hF : Fk p s m args c cc own nL D cI cS cB) (hA : ∀ q, s.heap.size ≤ q → A q) {q ci : Nat} {fs : List Value} (hY : Yw D A s (wr ++ [(q, .inr (ci, fs))]) H locs) {y : MethodName} {cy : ByteArray} {mx idx : Nat} {rm : Room} {post : Nat → va_W → Prop} (hC : aCt l y (.code y cy mx none :: WSg) rm D cI cS cB ci fs post mc ms) (hrc : rm.cells = mc) (hrs : rm.slots = ms)
    (w1 : InT (.initialized y.cls)) (w2 : InT (.methodLink (cnm own) idx y)) (w3 : InT (.instanceMethod y)) (w4 : InT (.code y cy mx none)) (hyn : y.name = "<init>") (hy : y.cls ≠ "java/lang/invoke/MethodHandle" ∧ y.cls ≠ "java/lang/invoke/VarHandle" ∧ npar y 0) (hR : rm.frames + 1 ≤ R.frames ∧ 8 + (mx + 11) + rm.locals ≤ R.locals) (hf : cells + mc ≤ R.cells ∧ slots + ms ≤ R.slots) (hls : ls.size = nL) (hcat : (rest.map fun v => v.category).sum ≤ 8) (hd : decode cc pc = .ok (.invokespecial idx, 3))
    (kk : ∀ (w1 : va_W) (H1 : Heap) (locs1 : List Loc), post q w1 → Yw D A s (wr ++ w1) H1 locs1 → W p l e R s m args below meth c H1 locs1 (cells + mc) (slots + ms) Q (F0 m (pc + 3) ls rest)) : W p l e R s m args below meth c H locs cells slots Q (F0 m pc ls (.ref q :: rest)) := by
  obtain ⟨hx, hb, hml, hown, hts, hK, hAO⟩ := hF
  exact y_back hA hY (va_runI (b := q) (As := []) (rest := rest) (g := F0 m pc ls (.ref q :: rest)) ⟨hx, hb, hml, hown, hts⟩ (hC q H.size) (cwI 0 hts (gC w4) rfl hrc hrs (hts _ (WSg_in w1)) (hts _ (WSg_in w2)) (hts _ (WSg_in w3)) hyn hy hR) ⟨cPc_blind, fun U hU hW => ⟨rfl, by rw [hU], by rw [hU]; exact va_P_r hY.1, va_K.moved hW.alike hK, AOs.warm hW hAO⟩⟩ rfl rfl hls rfl (lv_room hcat) hd hf) kk
/-- a nest mate's private constructor's call -/
theorem y_initN (hF : Fk p s m args c cc own nL D cI cS cB) (hA : ∀ q, s.heap.size ≤ q → A q) {q ci : Nat} {fs : List Value} (hY : Yw D A s (wr ++ [(q, .inr (ci, fs))]) H locs) {y : MethodName} {host : String} {cy : ByteArray} {mx idx : Nat} {rm : Room} {post : Nat → va_W → Prop} (hC : aCt l y (.code y cy mx none :: WSg) rm D cI cS cB ci fs post mc ms) (hrc : rm.cells = mc) (hrs : rm.slots = ms)
    (w1 : InT (.initialized y.cls)) (w2 : va_Nw (.methodLinkNest (cnm own) idx y host) s) (w3 : InT (.instanceMethod y)) (w4 : InT (.code y cy mx none)) (hyn : y.name = "<init>") (hy : y.cls ≠ "java/lang/invoke/MethodHandle" ∧ y.cls ≠ "java/lang/invoke/VarHandle" ∧ npar y 0) (hR : rm.frames + 1 ≤ R.frames ∧ 8 + (mx + 11) + rm.locals ≤ R.locals) (hf : cells + mc ≤ R.cells ∧ slots + ms ≤ R.slots) (hls : ls.size = nL) (hcat : (rest.map fun v => v.category).sum ≤ 8) (hd : decode cc pc = .ok (.invokespecial idx, 3))
    (kk : ∀ (w1 : va_W) (H1 : Heap) (locs1 : List Loc), post q w1 → Yw D A s (wr ++ w1) H1 locs1 → W p l e R s m args below meth c H1 locs1 (cells + mc) (slots + ms) Q (F0 m (pc + 3) ls rest)) : W p l e R s m args below meth c H locs cells slots Q (F0 m pc ls (.ref q :: rest)) := by
  obtain ⟨hx, hb, hml, hown, hts, hK, hAO⟩ := hF
  exact y_back hA hY (va_runIN (b := q) (As := []) (rest := rest) (g := F0 m pc ls (.ref q :: rest)) ⟨hx, hb, hml, hown, hts⟩ (hC q H.size) ⟨va_cnB 0 hts (gC w4) rfl hrc hrs w2 (hts _ (WSg_in w1)) hy hR, hyn, hts _ (WSg_in w3)⟩ ⟨cPc_blind, fun U hU hW => ⟨rfl, by rw [hU], by rw [hU]; exact va_P_r hY.1, va_K.moved hW.alike hK, AOs.warm hW hAO⟩⟩ rfl rfl hls rfl (lv_room hcat) hd hf) kk
end YR
