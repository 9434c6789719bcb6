/-! AT THE LAW'S ENTRY: what the tables and the start give -/
def R_law9 : String := "TakenUpByThePiecesLaw"
def lw_At9 (p : Program) (s : State) (m : MethodId) (meth : Method) (c : Code) (b L : Nat) (xs : Nat → Int32) : Prop :=
  p.tables.exec = Jvm.exec ∧ c.code = code ∧ meth.sig.returnType = ret ∧ c.maxLocals = 23 ∧ s.vm.findClass R_law9 = some m.cls ∧ (∀ w ∈ lw_tbl, w.before #[Value.ref b] s = true) ∧ va_X b L xs s s.heap ∧ b < s.heap.size ∧ meth.locks = false ∧ (Jvm.Cond.and given_1 narrow_1).before #[Value.ref b] s = true
theorem wx_n2 : InT (.instantiable (cnm 2) (nfl 2)) := ⟨by decide +kernel, rfl⟩
set_option maxRecDepth 100000 in
set_option maxHeartbeats 8000000 in
theorem lw_facts {p : Program} {s : State} {m : MethodId} {meth : Method} {c : Code} {b L : Nat} {xs : Nat → Int32} (C0 : lw_At9 p s m meth c b L xs) : ∃ (D : va_G) (cI cS cB : ClassId), Fk p s m #[Value.ref b] c code 8 23 D cI cS cB ∧ NW s := by
  obtain ⟨hx, hb, hr, hml, hown, hts, hX, hbl, hlocks, hgv⟩ := id C0
  have hts1 : ∀ w ∈ WSg, w.before #[Value.ref b] s = true := fun w hw => hts w (List.mem_filter.mp hw).1
  obtain ⟨c0, i0, hk0⟩ := u_known (C := cnm 0) (T := clT 0) (N := nfl 0) (n := nfl 0) hts1 (cl_in (by decide)) (hts1 _ (WSg_in wx_nb))
  obtain ⟨c1, i1, hk1⟩ := u_known (C := cnm 1) (T := clT 1) (N := nfl 1) (n := nfl 1) hts1 (cl_in (by decide)) (hts1 _ (WSg_in wx_ns))
  obtain ⟨c2, i2, hk2⟩ := u_known (C := cnm 2) (T := clT 2) (N := nfl 2) (n := nfl 2) hts1 (cl_in (by decide)) (hts1 _ (WSg_in wx_n2))
  have hAS : (Cond.arrayOver (.object "TakenUpByThePieces$Shelf")).before #[Value.ref b] s = true := hts _ (by decide +kernel)
  have hAB : (Cond.arrayOver (.object "TakenUpByThePieces$Board")).before #[Value.ref b] s = true := hts _ (by decide +kernel)
  obtain ⟨cI, kI, compI, a1, a2, a3⟩ := Cond.arrayClass_spec (hts1 _ (WSg_in w_arrI))
  obtain ⟨compS, cS, kS, s1, s2, s3, s4, s5⟩ := Cond.arrayOver_spec hAS
  obtain ⟨compB, cB, kB, b1, b2, b3, b4, b5⟩ := Cond.arrayOver_spec hAB
  have hK : va_K (fun k => if k = 0 then c0 else if k = 1 then c1 else c2, fun k => if k = 0 then i0 else if k = 1 then i1 else i2) vwCl (tysA cI cS cB) s := by
    refine ⟨fun k q hq => ?_, fun k q hq => ?_⟩
    · match k, hq with
      | 0, hq => cases hq; exact hk0
      | 1, hq => cases hq; exact hk1
      | 2, hq => cases hq; exact hk2
      | k + 3, hq => simp [vwCl] at hq
    · match k, hq with
      | 0, hq => cases hq; exact ⟨fun n z => ⟨fun k h => (by cases h), kI, a2, compI, a3⟩, a1⟩
      | 1, hq => cases hq; exact ⟨fun n z => ⟨fun k h => (by cases h), kS, s3, compS, s4⟩, kS, compS, s3, s4, s1, s5⟩
      | 2, hq => cases hq; exact ⟨fun n z => ⟨fun k h => (by cases h), kB, b3, compB, b4⟩, kB, compB, b3, b4, b1, b5⟩
      | k + 3, hq => simp [tysA] at hq
  refine ⟨_, cI, cS, cB, ⟨hx, hb, hml, hown, hts1, hK, ⟨va_AO.of hAS, va_AO.of hAB, va_Nw.of rfl (hts _ (by decide +kernel))⟩⟩, fun e he mi hmi => ?_⟩
  obtain ⟨mi', h1, h2, -⟩ := cn_ok e he
  cases hmi.symm.trans h1
  exact va_Nw.of rfl (hts _ h2)
