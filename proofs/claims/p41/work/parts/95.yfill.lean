/-! Arrays.fill on a row that is not yet in the world -/
theorem gS {own : String} {k : Nat} {y : MethodName} {hd : Jvm.Cond} (h1 : InT (.methodLink own k y)) (h2 : InT (.static y)) (h3 : InT (.initialized y.cls)) (h4 : InT hd) : GoodIn WSg (va_wsS own k y (hd :: WSg)) := by
  intro w hw
  unfold va_wsS at hw
  have key : ∀ w, InT w → w ∈ WSg ∧ ((w.onTables && w.keeps) = true ∨ ∃ ty, w = .arrayClass ty) := fun w h => ⟨WSg_in h, WSg_good (WSg_in h)⟩
  rcases List.mem_append.mp hw with hw | hw
  · rcases List.mem_cons.mp hw with rfl | hw
    · exact key _ h1
    rcases List.mem_cons.mp hw with rfl | hw
    · exact key _ h2
    rcases List.mem_cons.mp hw with rfl | hw
    · exact key _ h3
    · cases hw
  · rcases List.mem_cons.mp hw with rfl | hw
    · exact key _ h4
    · exact ⟨hw, WSg_good hw⟩
def wFL : List Jvm.Cond := .code yJ7_fill_53178 cJ7_fill_53178 4 none :: WSg
def rmFL : Room := { frames := 1, cells := 0, slots := 0, locals := 20 }
def fll (n : Nat) (v : Int32) (f : Nat → Int32) : Nat → Int32 := fun k => if k < n then v else f k
theorem dJ7_fill_0 : decode cJ7_fill_53178 0 = .ok (.iconst 0, 1) := by decide +kernel
theorem dJ7_fill_1 : decode cJ7_fill_53178 1 = .ok (.istore_n 2, 1) := by decide +kernel
theorem dJ7_fill_2 : decode cJ7_fill_53178 2 = .ok (.aload_n 0, 1) := by decide +kernel
theorem dJ7_fill_3 : decode cJ7_fill_53178 3 = .ok (.arraylength, 1) := by decide +kernel
theorem dJ7_fill_4 : decode cJ7_fill_53178 4 = .ok (.istore_n 3, 1) := by decide +kernel
theorem dJ7_fill_5 : decode cJ7_fill_53178 5 = .ok (.iload_n 2, 1) := by decide +kernel
theorem dJ7_fill_6 : decode cJ7_fill_53178 6 = .ok (.iload_n 3, 1) := by decide +kernel
theorem dJ7_fill_7 : decode cJ7_fill_53178 7 = .ok (.if_icmp .ge 13, 3) := by decide +kernel
theorem dJ7_fill_10 : decode cJ7_fill_53178 10 = .ok (.aload_n 0, 1) := by decide +kernel
theorem dJ7_fill_11 : decode cJ7_fill_53178 11 = .ok (.iload_n 2, 1) := by decide +kernel
theorem dJ7_fill_12 : decode cJ7_fill_53178 12 = .ok (.iload_n 1, 1) := by decide +kernel
theorem dJ7_fill_13 : decode cJ7_fill_53178 13 = .ok (.iastore, 1) := by decide +kernel
theorem dJ7_fill_14 : decode cJ7_fill_53178 14 = .ok (.iinc 2 1, 3) := by decide +kernel
theorem dJ7_fill_17 : decode cJ7_fill_53178 17 = .ok (.goto (-12), 3) := by decide +kernel
theorem dJ7_fill_20 : decode cJ7_fill_53178 20 = .ok (.return_, 1) := by decide +kernel
theorem fll_up {i : Nat} {v : Int32} {f : Nat → Int32} : upd (fll i v f) i v = fll (i + 1) v f := by
  funext k
  unfold upd fll
  by_cases h : k = i
  · subst h; rw [if_pos rfl, if_pos (by omega)]
  · rw [if_neg h]
    by_cases h2 : k < i
    · rw [if_pos h2, if_pos (by omega)]
    · rw [if_neg h2, if_neg (by omega)]
section FIL
variable {p : Program} {l : Launch} {e : Env} {R : Room} {s : State} {m : MethodId} {args : Array Value} {below : List Frame} {meth : Method} {c : Code} {Q : State → Prop} {D : va_G} {cI cS cB : ClassId} {A : Nat → Prop}
theorem fill_loop (hx : p.tables.exec = Jvm.exec) (hb : c.code = cJ7_fill_53178) (hK : va_K D vwCl (tysA cI cS cB) s) {n b : Nat} {v : Int32} {f : Nat → Int32} (hn : n ≤ 1000)
    (kk : ∀ (H1 : Heap) (locs1 : List Loc) (ls1 : Array Slot), Yw D A s [(b, .inl (cI, n, .inl (fll n v f)))] H1 locs1 → W p l e R s m args below meth c H1 locs1 0 0 Q (F0 m 20 ls1 [])) :
    ∀ (g i : Nat) (H : Heap) (locs : List Loc) (ls : Array Slot), i ≤ n → n - i ≤ g → Yw D A s [(b, .inl (cI, n, .inl (fll i v f)))] H locs → lv_has ls 4 [(2, .int (I (i : Int))), (3, .int (I (n : Int))), (0, .ref b), (1, .int v)] → W p l e R s m args below meth c H locs 0 0 Q (F0 m 5 ls [])
  | g, i, H, locs, ls, hi, hg, hY, hl => by
    refine lv_iload_n hx hb dJ7_fill_5 rfl (lv_at hl 0 rfl) ?_
    refine lv_iload_n hx hb dJ7_fill_6 rfl (lv_at hl 1 rfl) ?_
    refine lv_icmp_ge (tgt := 20) hx hb dJ7_fill_7 rfl (fun hc => ?_) (fun hc => ?_)
    · rw [I_le ⟨by omega, by omega⟩ ⟨by omega, by omega⟩] at hc
      obtain rfl : i = n := by omega
      exact kk H locs ls hY
    · rw [I_le ⟨by omega, by omega⟩ ⟨by omega, by omega⟩] at hc
      have hlt : i < n := by omega
      refine lv_aload_n hx hb dJ7_fill_10 rfl (lv_at hl 2 rfl) ?_
      refine lv_iload_n hx hb dJ7_fill_11 rfl (lv_at hl 0 rfl) ?_
      refine lv_iload_n hx hb dJ7_fill_12 rfl (lv_at hl 3 rfl) ?_
      have hin : vp_in (I (i : Int)) n := I_vp (n := n) (by omega) (by omega) (by omega)
      refine va_iast hx hb hK hY.1 hY.2.1 hY.2.2 0 0 rfl rfl hin dJ7_fill_13 (fun H1 locs1 hP hD hS => ?_)
      have e1 : (I (i : Int)).toNatClampNeg = i := by rw [I_nat (by omega) (by omega)]; omega
      rw [e1, fll_up] at hP hD
      refine lv_iinc (k := 0) (v := I ((i + 1 : Nat) : Int)) hx hb dJ7_fill_14 hl rfl (by show I _ + I 1 = _; rw [I_add]; rfl) (by decide) rfl (fun ls1 hl1 => ?_)
      refine lv_goto (tgt := 5) hx hb dJ7_fill_17 rfl ?_
      match g, hg with
      | 0, hg => omega
      | g + 1, hg => exact fill_loop hx hb hK hn kk g (i + 1) H1 locs1 ls1 hlt (by omega) ⟨hP, hD, hS⟩ hl1
theorem m_fill (l : Launch) (D : va_G) (cI cS cB : ClassId) {n : Nat} (hn : n ≤ 1000) (v : Int32) (b sz : Nat) (f : Nat → Int32) : Met l yJ7_fill_53178 wFL rmFL (va_Pc [.ref b, .int v] (fun U => U.heap.size = sz ∧ va_P D vwCl [(b, .inl (cI, n, .inl f))] U.heap ∧ va_K D vwCl (tysA cI cS cB) U)) (fun _ st oc t => oc = .returned none ∧ va_P D vwCl [(b, .inl (cI, n, .inl (fll n v f)))] t.heap ∧ va_F (va_A [(b, .inl (cI, n, .inl f))] sz) st t) 0 0 (va_A [(b, .inl (cI, n, .inl f))] sz) := by
  refine Met.ofW (cc := cJ7_fill_53178) (maxL := 4) (ret := none) (by decide +kernel) rfl ?_
  intro p e s m args below meth c s₁ B hml hv
  obtain ⟨rfl, hsz, hP, hK⟩ := hv
  subst hsz
  have hx := B.exec
  have hb := B.bytes
  have hlocks := B.notSynchronized
  have hret := B.returns
  have hY : Yw D (va_A [(b, .inl (cI, n, .inl f))] s.heap.size) s [(b, .inl (cI, n, .inl (fll 0 v f)))] s.heap [] := by
    have e0 : fll 0 v f = f := by funext k; unfold fll; rw [if_neg (by omega)]
    rw [e0]
    exact ⟨hP, va_D1 (va_A.in (k := 0) rfl), va_S.rf⟩
  have hl := lv_entry ([.ref b, .int v]) (n := 4) (Nat.le_of_ble_eq_true rfl)
  rw [lg_entry_eq]
  generalize (lg_sl ([.ref b, .int v]) ++ List.replicate (4 - (lg_sl ([.ref b, .int v])).length) Slot.unset).toArray = ls at hl ⊢
  have hl : lv_has ls 4 [(0, .ref b), (1, .int v)] := hl
  refine lv_iconst (v := I 0) hx hb dJ7_fill_0 (by decide) ?_
  refine lv_istore_n (lv' := [(2, .int (I 0)), (0, .ref b), (1, .int v)]) hx hb dJ7_fill_1 rfl hl (by decide) rfl (fun ls hl => ?_)
  refine lv_aload_n hx hb dJ7_fill_2 rfl (lv_at hl 1 rfl) ?_
  refine va_alen (v := I (n : Int)) hx hb hK hY.1 0 0 rfl rfl (I_nn rfl) dJ7_fill_3 ?_
  refine lv_istore_n (lv' := [(3, .int (I (n : Int))), (2, .int (I 0)), (0, .ref b), (1, .int v)]) hx hb dJ7_fill_4 rfl hl (by decide) rfl (fun ls hl => ?_)
  refine fill_loop hx hb hK hn (fun H1 locs1 ls1 hY1 => ?_) n 0 s.heap [] ls (by omega) (by omega) hY (lv_sub hl [1, 0, 2, 3] rfl)
  exact W.vret hx hb hret (fun t ht hWm => ⟨rfl, by rw [ht]; exact hY1.1, hY1.2.2.F ht⟩) hY1.2.2.2.2 dJ7_fill_20
variable {H : Heap} {locs : List Loc} {wr : va_W} {pc own nL cells slots : Nat} {ls : Array Slot} {rest : List Value} {cc : ByteArray}
set_option maxRecDepth 100000 in
theorem w_sFL : InT (.static yJ7_fill_53178) := ⟨by decide +kernel, rfl⟩
set_option maxRecDepth 100000 in
theorem w_iFL : InT (.initialized yJ7_fill_53178.cls) := ⟨by decide +kernel, rfl⟩
set_option maxRecDepth 100000 in
theorem w_cFL : InT (.code yJ7_fill_53178 cJ7_fill_53178 4 none) := ⟨by decide +kernel, rfl⟩
theorem y_fill (hF : Fk p s m args c cc own nL D cI cS cB) (hA : ∀ q, s.heap.size ≤ q → A q) {b n idx : Nat} {v : Int32} {f : Nat → Int32} (hn : n ≤ 1000) (hY : Yw D A s (wr ++ [(b, .inl (cI, n, .inl f))]) H locs) (hlk : InT (.methodLink (cnm own) idx yJ7_fill_53178)) (hR : 1 + 1 ≤ R.frames ∧ 8 + (4 + 11) + 20 ≤ R.locals) (hf : cells ≤ R.cells ∧ slots ≤ R.slots) (hls : ls.size = nL) (hcat : (rest.map fun v => v.category).sum ≤ 8) (hd : decode cc pc = .ok (.invokestatic idx, 3))
    (kk : ∀ (H1 : Heap) (locs1 : List Loc), Yw D A s (wr ++ [(b, .inl (cI, n, .inl (fll n v f)))]) H1 locs1 → W p l e R s m args below meth c H1 locs1 cells slots Q (F0 m (pc + 3) ls rest)) : W p l e R s m args below meth c H locs cells slots Q (F0 m pc ls (.int v :: .ref b :: rest)) := by
  obtain ⟨hx, hb, hml, hown, hts, hK, hAO⟩ := hF
  obtain ⟨hP, hD, hS⟩ := hY
  have hF1 : ∀ x, va_A [(b, .inl (cI, n, .inl f))] H.size x → A x := by
    rintro x (⟨k, e, hk⟩ | h)
    · exact hD.2 (wr.length + k) (x, e) (by rw [List.getElem?_append_right (by omega), show wr.length + k - wr.length = k by omega]; exact hk)
    · exact hA x (Nat.le_trans hS.1 h)
  have hr := va_runS (H := H) (locs := locs) (cells := cells) (slots := slots) (below := below) (meth := meth) (p := p) (e := e) (R := R) (As := [.ref b, .int v]) (rest := rest) (g := F0 m pc ls (.int v :: .ref b :: rest)) ⟨hx, hb, hml, hown, hts⟩ (m_fill l D cI cS cB hn v b H.size f) (va_cwS 2 hts (gS hlk w_sFL w_iFL w_cFL) rfl rfl rfl ⟨by decide +kernel, by decide +kernel, by decide +kernel⟩ hR) ⟨fun v U g mk q => ⟨q.1, q.2.1, q.2.2.1, va_K.moved (u := U) (U := U.calling g mk v) (Vm.Alike.refl U.vm) q.2.2.2⟩, fun U hU hW => ⟨rfl, by rw [hU], by rw [hU]; exact va_P_r hP, va_K.moved hW.alike hK⟩⟩ rfl rfl hls rfl (lv_room hcat) hd hf
  intro T hT X
  obtain ⟨v', st₀, t, T', L, h0, X', hL, e1, e2, ⟨hv, hP1, hz, hk⟩, st⟩ := hr T hT X
  cases hv
  rw [h0] at hz hk
  have hlt : b < H.size := ((va_P_r hP) 0 _ rfl).lt
  obtain ⟨j1, j2⟩ := join_suf hP hD hk hF1 hP1 (va_D1 (Or.inl ⟨0, .inl (cI, n, .inl f), rfl⟩))
  obtain ⟨t2, a1, b1⟩ := kk T'.heap (locs ++ L) ⟨by rw [e1]; exact j1, j2, Nat.le_trans hS.1 (by rw [e1]; exact hz), fun x h1 h2 => by
    rw [e1, hk x (Nat.lt_of_lt_of_le h1 hS.1) (fun z => h2 (hF1 x z))]
    exact hS.2.1 x h1 h2, fun x hx => by
      rcases List.mem_append.mp hx with h1 | h1
      · exact hS.2.2 x h1
      · exact hF1 _ (hL x h1)⟩ T' rfl X'
  exact ⟨t2, st t2 a1, b1⟩
end FIL
