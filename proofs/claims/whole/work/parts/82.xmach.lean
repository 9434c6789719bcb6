/-! CALLS THAT MAY THROW OR MAKE CELLS, on the machine -/
/-- the texts, and what no handler takes -/
def XST : List (String × Nat × String) := [("TakenUpByThePieces$Kinds", 13, "nothing was heard"), ("TakenUpByThePieces$Kinds", 20, "nothing stands ahead"), ("TakenUpByThePieces$Kinds", 25, "nobody agrees"), ("TakenUpByThePieces", 279, "no such shelf"), ("TakenUpByThePieces", 286, "no row"), ("TakenUpByThePieces", 292, "no such place")]
def eIS : String := "java/lang/IllegalStateException"
def eIA : String := "java/lang/IllegalArgumentException"
def eUO : String := "java/lang/UnsupportedOperationException"
def eNS : String := "java/util/NoSuchElementException"
/-- words of the tables that not every state of a run bears by itself -/
def XWB : List Jvm.Cond := [.declares ⟨"java/lang/RuntimeException", "<init>", "(Ljava/lang/String;)V"⟩, .declares ⟨"java/lang/Exception", "<init>", "(Ljava/lang/String;)V"⟩, .declares ⟨"java/lang/Throwable", "<init>", "(Ljava/lang/String;)V"⟩, .castable eNS eNS, .castable eUO eUO, .castable eIS eIS, .castable eIA eIA]
theorem declW {y : MethodName} {s U : State} (hW : s.WarmedH U.vm) (h : va_Nw (.declares y) s) : va_Nw (.declares y) U := va_tabs rfl (rfl : (s.setVm U.vm).vm = U.vm) (by rw [Cond.declares_setVm hW.alike]; exact h)
theorem XWB_warm {s U : State} (hW : s.WarmedH U.vm) (h : ∀ w ∈ XWB, va_Nw w s) : ∀ w ∈ XWB, va_Nw w U := by
  intro w hw
  have h1 := h w hw
  simp only [XWB, List.mem_cons, List.not_mem_nil, or_false] at hw
  rcases hw with rfl | rfl | rfl | rfl | rfl | rfl | rfl
  · exact declW hW h1
  · exact declW hW h1
  · exact declW hW h1
  · exact va_Nw.warmC hW h1
  · exact va_Nw.warmC hW h1
  · exact va_Nw.warmC hW h1
  · exact va_Nw.warmC hW h1
theorem XWB_same {u U : State} (hv : u.vm = U.vm) (h : ∀ w ∈ XWB, va_Nw w u) : ∀ w ∈ XWB, va_Nw w U := by
  intro w hw
  have h1 := h w hw
  simp only [XWB, List.mem_cons, List.not_mem_nil, or_false] at hw
  rcases hw with rfl | rfl | rfl | rfl | rfl | rfl | rfl <;> exact va_Nw.same rfl hv h1
def XNL : List (String × String) := [(eUO, eIS), (eNS, eIS), (eNS, eUO), (eIS, eIA)]
def XQ (A : Nat → Prop) (U : State) (H : Heap) : Prop := vx_Zq Bundle.tN "UNASSIGNED_STACK" Bundle.steD A U H ∧ vx_Zq Bundle.tN "SUPPRESSED_SENTINEL" Bundle.listD A U H ∧ (∀ q ∈ XST, ∃ a, vk_R q.1 q.2.1 q.2.2 a U) ∧ (∀ q ∈ XNL, va_Nc q.1 q.2 U) ∧ ∀ w ∈ XWB, va_Nw w U
theorem XQ.go {A B : Nat → Prop} {s U : State} {H : Heap} {locs : List Loc} (hX : XQ A s s.heap) (hS : va_S A s.heap H locs) (hB : ∀ q, B q → A q) (hU : U.heap = H) (hW : s.WarmedH U.vm) : XQ B U U.heap := by
  rw [hU]
  exact ⟨((hX.1.kept hS.2.1).moved hW.alike).narrow hB, ((hX.2.1.kept hS.2.1).moved hW.alike).narrow hB, fun q hq => (hX.2.2.1 q hq).imp fun a h => vk_R.warm hW h, fun q hq => va_Nc.moved hW.alike (hX.2.2.2.1 q hq), XWB_warm hW hX.2.2.2.2⟩
def aPcX (ad : Nat → Nat → Nat) (cI cS cB : ClassId) (D : va_G) (as : List AV) (h : Mem) (sz : Nat) : Array Value → State → Prop := fun a U => aPc ad cI cS cB D as h sz a U ∧ XQ (aA ad cI cS cB h sz) U U.heap
theorem aPcX_blind {ad : Nat → Nat → Nat} {cI cS cB : ClassId} {D : va_G} {as : List AV} {h : Mem} {sz : Nat} : FrameBlind (aPcX ad cI cS cB D as h sz) := by
  intro a U g mk q
  refine ⟨aPc_blind a U g mk q.1, ?_⟩
  obtain ⟨q1, q2, q3, q4, q5⟩ := q.2
  exact ⟨vx_Zq.moved (u := U) (U := U.calling g mk a) (Vm.Alike.refl U.vm) q1, vx_Zq.moved (u := U) (U := U.calling g mk a) (Vm.Alike.refl U.vm) q2, fun r hr => (q3 r hr).imp fun b hb => vk_R.same (u := U) (U := U.calling g mk a) rfl hb, fun r hr => va_Nc.moved (u := U) (U := U.calling g mk a) (Vm.Alike.refl U.vm) (q4 r hr), XWB_same (u := U) (U := U.calling g mk a) rfl q5⟩
/-- where it throws: the class, the memory as it was -/
def aXc (ad : Nat → Nat → Nat) (cI cS cB : ClassId) (D : va_G) (A : Nat → Prop) (h : Mem) (X' : String → Prop) : String → State → State → Prop := fun E st t => X' E ∧ va_P D vwCl (wsA ad cI cS cB h) t.heap ∧ va_F A st t
section XM
variable {p : Program} {l : Launch} {e : Env} {R : Room} {s : State} {m : MethodId} {args : Array Value} {below : List Frame} {meth : Method} {c : Code} {cells slots mc ms : Nat} {Q : State → Prop} {cc : ByteArray} {own nL : Nat} {D : va_G} {cI cS cB : ClassId} {ad : Nat → Nat → Nat} {A : Nat → Prop} {L : Nat} {xs : Nat → Int32}
theorem aA_in {H : Heap} {locs : List Loc} {h : Mem} (hW : Wd ad cI cS cB D A s xs h H locs) (hA : ∀ q, s.heap.size ≤ q → A q) : ∀ q, aA ad cI cS cB h H.size q → A q := by
  obtain ⟨hP, hD, hS, hxs⟩ := hW
  rintro q (⟨k, e, hk⟩ | hq)
  · exact hD.2 k _ hk
  · exact hA q (Nat.le_trans hS.1 hq)
/-- a call that may throw goes on behind it, or in the frame with the exception over it -/
theorem sn_backX {H : Heap} {locs : List Loc} {h : Mem} (hW : Wd ad cI cS cB D A s xs h H locs) (hA : ∀ q, s.heap.size ≤ q → A q) {pc : Nat} {Lm : Array Slot} {st0 rest : List Value} {a : Array Value} {Q' : Option AV → Mem → Prop} {X' : String → Prop}
    (hr : vx_Run p l e R s m args below meth c H locs cells slots mc ms (F0 m pc Lm st0) rest (aQc ad cI cS cB D (aA ad cI cS cB h H.size) h Q' a) (aXc ad cI cS cB D (aA ad cI cS cB h H.size) h X') (aA ad cI cS cB h H.size))
    (kx : ∀ (E : String) (ce : Cell) (q9 : Addr) (H' : Heap) (locs' : List Loc), X' E → H'[q9]? = some ce → ce.vm = .none → s.vm.findClass E = some ce.cls → Wd ad cI cS cB D A s xs h H' locs' → vx_W p l e R s m args below meth c H' locs' (cells + mc) (slots + ms) Q (F0 m pc Lm rest) q9)
    (kk : ∀ (v : Option AV) (h' : Mem) (H' : Heap) (locs' : List Loc), (∀ w, v = some w → vld w) → Q' v h' → Wd ad cI cS cB D A s xs h' H' locs' → W p l e R s m args below meth c H' locs' (cells + mc) (slots + ms) Q (F0 m (pc + 3) Lm ((v.toList.map (conc ad)) ++ rest))) : W p l e R s m args below meth c H locs cells slots Q (F0 m pc Lm st0) := by
  have hA1 := aA_in hW hA
  obtain ⟨hP, hD, hS, hxs⟩ := hW
  have key : ∀ (T' t : State) (L' : List Loc) (h' : Mem), T'.heap = t.heap → (∀ q ∈ L', aA ad cI cS cB h H.size q.base) → va_P D vwCl (wsA ad cI cS cB h') t.heap → h' 22 0 = h 22 0 → H.size ≤ t.heap.size → (∀ q : Nat, q < H.size → ¬ aA ad cI cS cB h H.size q → t.heap[q]? = H[q]?) → Wd ad cI cS cB D A s xs h' T'.heap (locs ++ L') := by
    intro T' t L' h' e1 hL hP1 h22 hz hk
    refine ⟨by rw [e1]; exact hP1, vaD_ad hD, ⟨Nat.le_trans hS.1 (by rw [e1]; exact hz), fun q h1 h2 => ?_, fun q hq => ?_⟩, by rw [h22]; exact hxs⟩
    · rw [e1, hk q (Nat.lt_of_lt_of_le h1 hS.1) (fun z => h2 (hA1 q z))]
      exact hS.2.1 q h1 h2
    · rcases List.mem_append.mp hq with h1 | h1
      · exact hS.2.2 q h1
      · exact hA1 _ (hL q h1)
  intro T hT X
  rcases hr T hT X with ⟨v, st₀, t, T', L', h0, X', hL, e1, e2, ⟨v', h', hv, hvl, hQ, hP1, h22, hz, hk⟩, st⟩ | ⟨q, st₀, t, T', L', E, ce, h0, X', hL, e1, e2, ⟨hE, hP1, hz, hk⟩, hce, hcv, hcl, st⟩
  · cases hv
    rw [h0] at hz hk
    obtain ⟨t2, a1, b1⟩ := kk v' h' T'.heap (locs ++ L') hvl hQ (key T' t L' h' e1 hL hP1 h22 hz hk) T' rfl X'
    refine ⟨t2, st t2 ?_, b1⟩
    have ev : (v'.map (conc ad)).toList = v'.toList.map (conc ad) := by cases v' <;> rfl
    rw [ev]
    exact a1
  · rw [h0] at hz hk
    obtain ⟨t2, a1, b1⟩ := kx E ce q T'.heap (locs ++ L') hE (by rw [e1]; exact hce) hcv hcl (key T' t L' h e1 hL hP1 rfl hz hk) T' rfl X'
    exact ⟨t2, st.trans a1, b1⟩
theorem aStartX (hF : Fx p s m args c cc own nL D cI cS cB) {h : Mem} {H : Heap} {locs : List Loc} (hX : XQ A s s.heap) (hA : ∀ q, s.heap.size ≤ q → A q) (hW : Wd ad cI cS cB D A s xs h H locs) (as : List AV) (U : State) (hU : U.heap = H) (hWm : s.WarmedH U.vm) : aPcX ad cI cS cB D as h H.size (as.map (conc ad)).toArray U :=
  ⟨aStart hF hW as U hU hWm, hX.go hW.2.2.1 (aA_in hW hA) hU hWm⟩
/-- a local that holds what the abstract machine does not know -/
theorem Rls_un {ls : Lc} {Lm Lm' : Array Slot} {n : Nat} {x : Nat} (h : Rls ad ls Lm nL) (h' : lv_has Lm' nL ((n, Value.ref x) :: (lvl ad ls).filter (fun q => !(q.1 == n) && !(q.1 + 1 == n && q.2.category == 2)))) : Rls ad (lset (clr ls n) n none) Lm' nL := by
  refine ⟨by rw [lset_len, clr_len, h.1], ⟨h'.1, h'.2.1, fun q hq => ?_⟩, fun i w hw => ?_⟩
  · obtain ⟨w, h1, h2⟩ := lvl_mem.mp hq
    rw [lat_lset] at h1
    by_cases hi : q.1 = n ∧ n < (clr ls n).length
    · rw [if_pos hi] at h1; cases h1
    · rw [if_neg hi] at h1
      obtain ⟨h3, h4⟩ := lat_clr h1
      refine h'.2.2 q (List.mem_cons_of_mem _ (List.mem_filter.mpr ⟨lvl_mem.mpr ⟨w, h3, h2⟩, ?_⟩))
      have hne : q.1 ≠ n := fun z => hi ⟨z, by rw [clr_len, ← z]; exact lat_lt h3⟩
      simp only [Bool.and_eq_true, Bool.not_eq_true', beq_eq_false_iff_ne, ne_eq, Bool.and_eq_false_iff]
      refine ⟨hne, ?_⟩
      by_cases h5 : q.1 + 1 = n
      · right
        intro h6
        rw [h2, conc_cat] at h6
        refine h4 ⟨h5, ?_⟩
        cases hc : cat1 w with
        | false => rfl
        | true => rw [hc] at h6; simp at h6
      · exact Or.inl h5
  · rw [lat_lset] at hw
    by_cases hi : i = n ∧ n < (clr ls n).length
    · rw [if_pos hi] at hw; cases hw
    · rw [if_neg hi] at hw
      exact h.2.2 i w (lat_clr hw).1
/-- a handler's first instruction: the exception goes into a local -/
theorem sn_astore (hF : Fx p s m args c cc own nL D cI cS cB) {H : Heap} {locs : List Loc} {ls : Lc} {Lm : Array Slot} {n pc x : Nat} {rest : List Value} (hL : Rls ad ls Lm nL) (hn : n < nL) (hd : decode cc pc = .ok (.astore n, 2)) (kk : ∀ Lm', Rls ad (lset (clr ls n) n none) Lm' nL → W p l e R s m args below meth c H locs cells slots Q (F0 m (pc + 2) Lm' rest)) : W p l e R s m args below meth c H locs cells slots Q (F0 m pc Lm (.ref x :: rest)) :=
  lv_astore hF.1 hF.2.1 hd hL.2.1 hn rfl (fun Lm' hl => kk Lm' (Rls_un hL hl))
/-! the law's long array -/
theorem lng_cell {cA : ClassId} {f g : Nat → Int64} (h : f 0 = g 0) : vp_cell cA (1, .inr (.inl f)) = vp_cell cA (1, .inr (.inl g)) := by
  rw [vp_cell_l, vp_cell_l]
  unfold arrV
  congr 1
  apply Array.ext
  · simp
  · intro i h1 h2
    have : i = 0 := by simp at h1; omega
    subst this
    simp [h]
theorem cellA_23 {h : Mem} : cellA ad cI cS cB h 23 0 = .inl (ad 23 1, 1, .inr (.inl (lng (h 23 0)))) := by
  unfold cellA
  rw [if_neg (by omega), if_neg (by omega), if_neg (by omega), if_pos rfl]
end XM
