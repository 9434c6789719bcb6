/-! THE ABSTRACT MACHINE IS SOUND: calls, blocks, methods -/
def wsM (mi : MI) : List Jvm.Cond := .code mi.1 mi.2.1 mi.2.2.1 mi.2.2.2.1 :: WSg
def rmd (d : Nat) : Room := { frames := d, cells := 0, slots := 0, locals := 40 * d }
theorem WSg_good {w : Jvm.Cond} (h : w ∈ WSg) : (w.onTables && w.keeps) = true ∨ ∃ ty, w = .arrayClass ty := good_of_word (List.mem_filter.mp h).2
theorem WSg_in {w : Jvm.Cond} (h : InT w) : w ∈ WSg := List.mem_filter.mpr h
theorem wsM_in {mi : MI} (h : mi ∈ mt) : GoodIn WSg (wsM mi) := by
  intro w hw
  rcases List.mem_cons.mp hw with rfl | hw
  · exact ⟨WSg_in (cdT_ok mi h), WSg_good (WSg_in (cdT_ok mi h))⟩
  · exact ⟨hw, WSg_good hw⟩
theorem wsV_in {mi : MI} (h : mi ∈ mt) {own : String} {k : Nat} (h1 : InT (.methodLink own k mi.1)) (h2 : InT (.instanceMethod mi.1)) (h3 : InT (.initialized mi.1.cls)) (h4 : InT (.selects mi.1.cls mi.1 mi.1)) : GoodIn WSg (wsV own k mi.1.cls mi.1 (wsM mi)) := by
  intro w hw
  unfold wsV at hw
  rcases List.mem_append.mp hw with hw | hw
  · have h5 : w ∈ WSg := by
      rcases List.mem_cons.mp hw with rfl | hw
      · exact WSg_in h1
      rcases List.mem_cons.mp hw with rfl | hw
      · exact WSg_in h2
      rcases List.mem_cons.mp hw with rfl | hw
      · exact WSg_in h4
      rcases List.mem_cons.mp hw with rfl | hw
      · exact WSg_in h3
      · cases hw
    exact ⟨h5, WSg_good h5⟩
  · exact wsM_in h w hw
theorem wsS_in {mi : MI} (h : mi ∈ mt) {own : String} {k : Nat} (h1 : InT (.methodLink own k mi.1)) (h2 : InT (.static mi.1)) (h3 : InT (.initialized mi.1.cls)) : GoodIn WSg (va_wsS own k mi.1 (wsM mi)) := by
  intro w hw
  unfold va_wsS at hw
  rcases List.mem_append.mp hw with hw | hw
  · have h5 : w ∈ WSg := by
      rcases List.mem_cons.mp hw with rfl | hw
      · exact WSg_in h1
      rcases List.mem_cons.mp hw with rfl | hw
      · exact WSg_in h2
      rcases List.mem_cons.mp hw with rfl | hw
      · exact WSg_in h3
      · cases hw
    exact ⟨h5, WSg_good h5⟩
  · exact wsM_in h w hw
theorem okM_spec {mi : MI} (h : mi ∈ mt) : okBs mi.2.1 mi.2.2.2.2.1 mi.2.2.1 mi.2.2.2.1 mi.2.2.2.2.2.2 = true ∧ mi.2.2.1 ≤ 20 ∧ mi.1.cls = cnm mi.2.2.2.2.1 ∧ plainName mi.1.cls = true ∧ mi.1.cls ≠ "java/lang/invoke/MethodHandle" ∧ mi.1.cls ≠ "java/lang/invoke/VarHandle" := by
  have h1 := mtk_ok mi h
  unfold okM at h1
  simp only [Bool.and_eq_true, decide_eq_true_eq] at h1
  obtain ⟨⟨⟨⟨⟨a, b⟩, c⟩, d⟩, e⟩, f⟩ := h1
  exact ⟨a, Nat.le_of_ble_eq_true b, c, d, e, f⟩
/-- the script, as a method finds it -/
def Sc2 (ad : Nat → Nat → Nat) (cI cS cB : ClassId) (L : Nat) (h : Mem) (sz : Nat) (U : State) : Prop := L = 0 ∨ (L = (L - 1) + 1 ∧ va_X (ad 22 0) (L - 1) (h 22 0) U U.heap ∧ ad 22 0 < U.heap.size ∧ ¬ va_A (wsA ad cI cS cB h) sz (ad 22 0))
/-- a method's start: its arguments, the memory -/
def aPc (ad : Nat → Nat → Nat) (cI cS cB : ClassId) (D : va_G) (L : Nat) (as : List AV) (h : Mem) (sz : Nat) : Array Value → State → Prop :=
  va_Pc (as.map (conc ad)) (fun U => U.heap.size = sz ∧ va_P D vwCl (wsA ad cI cS cB h) U.heap ∧ va_K D vwCl (tysA cI cS cB) U ∧ va_D (fun _ => True) (wsA ad cI cS cB h) ∧ NW U ∧ Sc2 ad cI cS cB L h sz U)
/-- its end: its answer and the memory are as Q says -/
def aQc (ad : Nat → Nat → Nat) (cI cS cB : ClassId) (D : va_G) (A : Nat → Prop) (h : Mem) (Q : Option AV → Mem → Prop) : Array Value → State → Outcome → State → Prop := fun _ st oc t =>
  ∃ (v : Option AV) (h' : Mem), oc = .returned (v.map (conc ad)) ∧ (∀ w, v = some w → vld w) ∧ Q v h' ∧ va_P D vwCl (wsA ad cI cS cB h') t.heap ∧ h' 22 0 = h 22 0 ∧ va_F A st t
def aA (ad : Nat → Nat → Nat) (cI cS cB : ClassId) (h : Mem) (sz : Nat) : Nat → Prop := va_A (wsA ad cI cS cB h) sz
def aMet (l : Launch) (ad : Nat → Nat → Nat) (cI cS cB : ClassId) (D : va_G) (L d : Nat) (CL : Nat → List AV → Mem → (Option AV → Mem → Prop) → Prop) : Prop :=
  ∀ (j : Nat) (as : List AV) (h : Mem) (Q : Option AV → Mem → Prop), vlds as → CL j as h Q → ∀ mi, nth mt j = some mi → ∀ sz : Nat,
    Met l mi.1 (wsM mi) (rmd d) (aPc ad cI cS cB D L as h sz) (aQc ad cI cS cB D (aA ad cI cS cB h sz) h Q) 0 0 (aA ad cI cS cB h sz)
theorem NW_same {u U : State} (h : u.vm = U.vm) (hN : NW u) : NW U := fun e he mi hmi => va_Nw.same rfl h (hN e he mi hmi)
theorem NW_warm {s U : State} (hW : s.WarmedH U.vm) (hN : NW s) : NW U := fun e he mi hmi => va_Nw.warmM hW (hN e he mi hmi)
theorem aPc_blind {ad : Nat → Nat → Nat} {cI cS cB : ClassId} {D : va_G} {L : Nat} {as : List AV} {h : Mem} {sz : Nat} : FrameBlind (aPc ad cI cS cB D L as h sz) := by
  intro a U g mk q
  obtain ⟨q0, q1, qP, qK, qD, qN, qS⟩ := q
  exact ⟨q0, q1, qP, va_K.moved (u := U) (U := U.calling g mk a) (Vm.Alike.refl U.vm) qK, qD, NW_same (u := U) (U := U.calling g mk a) rfl qN, qS.imp id (fun z => ⟨z.1, va_X.moved (u := U) (U := U.calling g mk a) (Vm.Alike.refl U.vm) z.2.1, z.2.2⟩)⟩
section WA2
variable {ad : Nat → Nat → Nat} {cI cS cB : ClassId}
theorem wsA_ad {h : Mem} {k : Nat} {q : Nat × va_E} (hk : (wsA ad cI cS cB h)[k]? = some q) (h' : Mem) : ∃ e, (wsA ad cI cS cB h')[k]? = some (q.1, e) := by
  simp only [wsA, List.getElem?_map] at hk ⊢
  cases ho : objs[k]? with
  | none => rw [ho] at hk; cases hk
  | some o => rw [ho] at hk; cases hk; exact ⟨_, rfl⟩
theorem vaD_ad {A : Nat → Prop} {h h' : Mem} (hD : va_D A (wsA ad cI cS cB h)) : va_D A (wsA ad cI cS cB h') := by
  refine ⟨fun i j p q hp hq e => ?_, fun k q hk => ?_⟩
  · obtain ⟨e1, h1⟩ := wsA_ad hp h
    obtain ⟨e2, h2⟩ := wsA_ad hq h
    exact hD.1 i j _ _ h1 h2 e
  · obtain ⟨e1, h1⟩ := wsA_ad hk h
    exact hD.2 k (q.1, e1) h1
end WA2
section SNC
variable {p : Program} {l : Launch} {e : Env} {R : Room} {s : State} {m : MethodId} {args : Array Value} {below : List Frame} {meth : Method} {c : Code} {cells slots : Nat} {Q : State → Prop} {cc : ByteArray} {own nL : Nat} {D : va_G} {cI cS cB : ClassId} {ad : Nat → Nat → Nat} {A : Nat → Prop} {L : Nat} {xs : Nat → Int32}
/-- a call goes on behind it -/
theorem sn_back {H : Heap} {locs : List Loc} {h : Mem} (hW : Wd ad cI cS cB D A s xs h H locs) (hA : ∀ q, s.heap.size ≤ q → A q) {pc : Nat} {Lm : Array Slot} {st0 rest : List Value} {a : Array Value} {Q' : Option AV → Mem → Prop}
    (hr : va_Run p l e R s m args below meth c H locs cells slots 0 0 (F0 m pc Lm st0) rest (aQc ad cI cS cB D (aA ad cI cS cB h H.size) h Q' a) (aA ad cI cS cB h H.size))
    (kk : ∀ (v : Option AV) (h' : Mem) (H' : Heap) (locs' : List Loc), (∀ w, v = some w → vld w) → Q' v h' → Wd ad cI cS cB D A s xs h' H' locs' → W p l e R s m args below meth c H' locs' cells slots Q (F0 m (pc + 3) Lm ((v.toList.map (conc ad)) ++ rest))) : W p l e R s m args below meth c H locs cells slots Q (F0 m pc Lm st0) := by
  obtain ⟨hP, hD, hS, hxs⟩ := hW
  have hA1 : ∀ q, aA ad cI cS cB h H.size q → A q := by
    rintro q (⟨k, e, hk⟩ | hq)
    · exact hD.2 k _ hk
    · exact hA q (Nat.le_trans hS.1 hq)
  intro T hT X
  obtain ⟨v, st₀, t, T', L', h0, X', hL, e1, e2, ⟨v', h', hv, hvl, hQ, hP1, h22, hz, hk⟩, st⟩ := hr T hT X
  cases hv
  rw [h0] at hz hk
  have hW' : Wd ad cI cS cB D A s xs h' T'.heap (locs ++ L') := by
    refine ⟨by rw [e1]; exact hP1, vaD_ad hD, ⟨Nat.le_trans hS.1 (by rw [e1]; exact hz), fun q h1 h2 => ?_, fun q hq => ?_⟩, by rw [h22]; exact hxs⟩
    · rw [e1, hk q (Nat.lt_of_lt_of_le h1 hS.1) (fun z => h2 (hA1 q z))]
      exact hS.2.1 q h1 h2
    · rcases List.mem_append.mp hq with h1 | h1
      · exact hS.2.2 q h1
      · exact hA1 _ (hL q h1)
  obtain ⟨t2, a1, b1⟩ := kk v' h' T'.heap (locs ++ L') hvl hQ hW' T' rfl X'
  refine ⟨t2, st t2 ?_, b1⟩
  have ev : (v'.map (conc ad)).toList = v'.toList.map (conc ad) := by cases v' <;> rfl
  rw [ev]
  exact a1
theorem rtk_spec (f : AV → Value) : ∀ (n : Nat) (st acc : List AV), n ≤ st.length → (rtk n st acc).length = n + acc.length ∧ st.map f ++ [] = ((rtk n st []).map f).reverse ++ (drp n st).map f ∧ rtk n st acc = rtk n st [] ++ acc
  | 0, st, acc, _ => ⟨by simp [rtk], by simp [rtk, drp], by simp [rtk]⟩
  | n + 1, [], acc, h => by simp at h
  | n + 1, v :: r, acc, h => by
    have h : n ≤ r.length := by simpa using h
    obtain ⟨a1, a2, a3⟩ := rtk_spec f n r (v :: acc) h
    obtain ⟨b1, b2, b3⟩ := rtk_spec f n r [v] h
    refine ⟨by simp only [rtk]; rw [a1]; simp; omega, ?_, ?_⟩
    · simp only [rtk, drp]
      rw [b3]
      simp only [List.map_append, List.reverse_append, List.map_cons, List.map_nil, List.reverse_cons, List.reverse_nil, List.nil_append, List.append_assoc, List.append_nil] at b2 ⊢
      rw [b2]
      simp
    · simp only [rtk]
      rw [a3, b3]
      simp
theorem rtk_vlds {n : Nat} {st : List AV} (h : vlds st) : ∀ acc, vlds acc → vlds (rtk n st acc) := by
  induction n generalizing st with
  | zero => intro acc ha; exact ha
  | succ n ih =>
    intro acc ha
    cases st with
    | nil => exact ha
    | cons v r => exact ih (vlds_t h) _ (vlds_c (vlds_h h) ha)
theorem drp_vlds {n : Nat} {st : List AV} (h : vlds st) : vlds (drp n st) := by
  induction n generalizing st with
  | zero => exact h
  | succ n ih =>
    cases st with
    | nil => exact h
    | cons v r => exact ih (vlds_t h)
theorem nth_in {α : Type} {a : α} {l : List α} {k : Nat} (h : nth l k = some a) : a ∈ l := nth_mem h
end SNC
