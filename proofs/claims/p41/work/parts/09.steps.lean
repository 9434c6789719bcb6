/-! THE ABSTRACT MACHINE IS SOUND: a block's straight instructions -/
theorem has_in {T : Type} [BEq T] [LawfulBEq T] {l : List T} {x : T} (h : l.contains x = true) : x ∈ l := List.contains_iff_mem.mp h
theorem lvl_ix {ad : Nat → Nat → Nat} {ls : Lc} {i : Nat} {v : AV} (h : lat ls i = some v) : ∃ k : Nat, (lvl ad ls)[k]? = some (i, conc ad v) := List.getElem?_of_mem (lvl_mem.mpr ⟨v, h, rfl⟩)
theorem vI {x : Int32} {r : List AV} (h : vlds r) : vlds (ai x :: r) := vlds_c (v := ai x) trivial h
theorem vL {x : Int64} {r : List AV} (h : vlds r) : vlds (al x :: r) := vlds_c (v := al x) trivial h
theorem vN {r : List AV} (h : vlds r) : vlds (an :: r) := vlds_c (v := an) trivial h
theorem lrem_eq_mod (x y : Int64) : x - x / y * y = x % y := by
  apply Int64.toInt_inj.mp
  have h1 := Int64.le_toInt (x % y)
  have h2 := Int64.toInt_lt (x % y)
  rw [Int64.toInt_sub, Int64.toInt_mul, Int64.toInt_div, Int.bmod_mul_bmod, Int.sub_bmod_bmod, Int.mul_comm (x.toInt.tdiv y.toInt), ← Int.tmod_def, ← Int64.toInt_mod]
  exact Int.bmod_eq_of_le_mul_two (by omega) (by omega)
section SNS
variable {p : Program} {l : Launch} {e : Env} {R : Room} {s : State} {m : MethodId} {args : Array Value} {below : List Frame} {meth : Method} {c : Code} {cells slots : Nat} {Q : State → Prop} {cc : ByteArray} {own nL : Nat} {D : va_G} {cI cS cB : ClassId} {ad : Nat → Nat → Nat} {A : Nat → Prop} {L : Nat} {xs : Nat → Int32}
set_option maxHeartbeats 8000000 in
theorem snS (hF : Fx p s m args c cc own nL D cI cS cB) (hX : Scr ad A s L xs) (hR : 1 ≤ R.frames ∧ 40 ≤ R.locals ∧ cells ≤ R.cells ∧ slots ≤ R.slots) {i : AI} (hok : okS own nL i = true) {pc : Nat} (hd : decode cc pc = .ok (i.1, i.2.1)) {ls : Lc} {st : List AV} {h : Mem} {H : Heap} {locs : List Loc} {Lm : Array Slot} (hW : Wd ad cI cS cB D A s xs h H locs) (hL : Rls ad ls Lm nL) (hv : vlds st) {K : Lc → List AV → Mem → Prop} (hw : wS L i ls st h K)
    (kk : ∀ (ls' : Lc) (st' : List AV) (h' : Mem) (H' : Heap) (locs' : List Loc) (Lm' : Array Slot), Wd ad cI cS cB D A s xs h' H' locs' → Rls ad ls' Lm' nL → vlds st' → K ls' st' h' → W p l e R s m args below meth c H' locs' cells slots Q (F0 m (pc + i.2.1) Lm' (st'.map (conc ad)))) : W p l e R s m args below meth c H locs cells slots Q (F0 m pc Lm (st.map (conc ad))) := by
  have hF0 := hF
  obtain ⟨hx, hb, hml, hown, hts, hK, hN⟩ := hF0
  have hwd : ∀ w, InT w → w.before args s = true := fun w h => hts w (List.mem_filter.mpr h)
  obtain ⟨ins, n, a, b, t⟩ := i
  unfold okS at hok
  rw [Bool.and_eq_true] at hok
  obtain ⟨hn, hok⟩ := hok
  have hn := Nat.eq_of_beq_eq_true hn
  dsimp only at hn hok hd
  cases ins
  case iconst v =>
    subst hn
    exact lv_iconst hx hb hd (of_decide_eq_true hok) (kk _ _ _ _ _ _ hW hL (vI hv) hw)
  case bipush v =>
    subst hn
    exact lv_bipush hx hb hd (of_decide_eq_true hok) (kk _ _ _ _ _ _ hW hL (vI hv) hw)
  case sipush v =>
    subst hn
    exact lv_sipush hx hb hd (of_decide_eq_true hok) (kk _ _ _ _ _ _ hW hL (vI hv) hw)
  case ldc v =>
    subst hn
    exact lv_ldc hx hb hown (hwd _ (ld_ok _ (has_in hok))) hd (kk _ _ _ _ _ _ hW hL (vI hv) hw)
  case ldc_w v =>
    subst hn
    exact lv_ldcw hx hb hown (hwd _ (ld_ok _ (has_in hok))) hd (kk _ _ _ _ _ _ hW hL (vI hv) hw)
  case lconst v =>
    subst hn
    exact lv_lconst hx hb hd (of_decide_eq_true hok) (kk _ _ _ _ _ _ hW hL (vL hv) hw)
  case ldc2_w v =>
    subst hn
    exact lv_ldc2 hx hb hown (hwd _ (ll_ok _ (has_in hok))) hd (kk _ _ _ _ _ _ hW hL (vL hv) hw)
  case aconst_null =>
    subst hn
    exact lv_null hx hb hd (kk _ _ _ _ _ _ hW hL (vN hv) hw)
  case iload v =>
    subst hn
    obtain ⟨x, h1, h2⟩ := gI_inv hw
    exact lv_iload hx hb hd (Rls_at hL h1) (kk _ _ _ _ _ _ hW hL (vI hv) h2)
  case iload_n v =>
    subst hn
    obtain ⟨x, h1, h2⟩ := gI_inv hw
    exact lv_iload_n hx hb hd rfl (Rls_at hL h1) (kk _ _ _ _ _ _ hW hL (vI hv) h2)
  case lload v =>
    subst hn
    obtain ⟨x, h1, h2⟩ := gL_inv hw
    exact lv_lload hx hb hd (Rls_at hL h1) (kk _ _ _ _ _ _ hW hL (vL hv) h2)
  case lload_n v =>
    subst hn
    obtain ⟨x, h1, h2⟩ := gL_inv hw
    exact lv_lload_n hx hb hd rfl (Rls_at hL h1) (kk _ _ _ _ _ _ hW hL (vL hv) h2)
  case aload v =>
    subst hn
    obtain ⟨x, h1, h2⟩ := gR_inv hw
    have h3 := kk _ _ _ _ _ _ hW hL (vlds_c (hL.2.2 _ _ h1) hv) h2
    cases x with
    | none => exact lv_aloadN hx hb hd (Rls_at hL h1) h3
    | some q => exact lv_aload hx hb hd (Rls_at hL h1) h3
  case aload_n v =>
    subst hn
    obtain ⟨x, h1, h2⟩ := gR_inv hw
    have h3 := kk _ _ _ _ _ _ hW hL (vlds_c (hL.2.2 _ _ h1) hv) h2
    cases x with
    | none => exact lv_aload_nN hx hb hd rfl (Rls_at hL h1) h3
    | some q => exact lv_aload_n hx hb hd rfl (Rls_at hL h1) h3
  case istore v =>
    subst hn
    obtain ⟨x, r, rfl, h2⟩ := pI_inv hw
    exact lv_istore hx hb hd hL.2.1 (Nat.le_of_ble_eq_true hok) rfl (fun Lm' hl => kk _ _ _ _ _ _ hW (Rls_s1 (v := ai x) hL trivial hl) (vlds_t hv) h2)
  case istore_n v =>
    subst hn
    obtain ⟨x, r, rfl, h2⟩ := pI_inv hw
    exact lv_istore_n hx hb hd rfl hL.2.1 (Nat.le_of_ble_eq_true hok) rfl (fun Lm' hl => kk _ _ _ _ _ _ hW (Rls_s1 (v := ai x) hL trivial hl) (vlds_t hv) h2)
  case lstore v =>
    subst hn
    obtain ⟨x, r, rfl, h2⟩ := pL_inv hw
    exact lv_lstore hx hb hd hL.2.1 (Nat.le_of_ble_eq_true hok) rfl (fun Lm' hl => kk _ _ _ _ _ _ hW (Rls_s2 (v := al x) hL trivial hl) (vlds_t hv) h2)
  case lstore_n v =>
    subst hn
    obtain ⟨x, r, rfl, h2⟩ := pL_inv hw
    exact lv_lstore_n hx hb hd rfl hL.2.1 (Nat.le_of_ble_eq_true hok) rfl (fun Lm' hl => kk _ _ _ _ _ _ hW (Rls_s2 (v := al x) hL trivial hl) (vlds_t hv) h2)
  case astore v =>
    subst hn
    obtain ⟨x, r, rfl, h2⟩ := pR_inv hw
    cases x with
    | none => exact lv_astoreN hx hb hd hL.2.1 (Nat.le_of_ble_eq_true hok) rfl (fun Lm' hl => kk _ _ _ _ _ _ hW (Rls_s1 (v := an) hL trivial hl) (vlds_t hv) h2)
    | some q => exact lv_astore hx hb hd hL.2.1 (Nat.le_of_ble_eq_true hok) rfl (fun Lm' hl => kk _ _ _ _ _ _ hW (Rls_s1 (v := ar q.1 q.2) hL (vlds_h hv) hl) (vlds_t hv) h2)
  case astore_n v =>
    subst hn
    obtain ⟨x, r, rfl, h2⟩ := pR_inv hw
    cases x with
    | none => exact lv_astore_nN hx hb hd rfl hL.2.1 (Nat.le_of_ble_eq_true hok) rfl (fun Lm' hl => kk _ _ _ _ _ _ hW (Rls_s1 (v := an) hL trivial hl) (vlds_t hv) h2)
    | some q => exact lv_astore_n hx hb hd rfl hL.2.1 (Nat.le_of_ble_eq_true hok) rfl (fun Lm' hl => kk _ _ _ _ _ _ hW (Rls_s1 (v := ar q.1 q.2) hL (vlds_h hv) hl) (vlds_t hv) h2)
  case iinc v w =>
    subst hn
    rw [Bool.and_eq_true] at hok
    obtain ⟨x, h1, h2⟩ := gI_inv hw
    obtain ⟨k, hk⟩ := lvl_ix (ad := ad) h1
    exact lv_iinc hx hb hd hL.2.1 hk (by rw [of_decide_eq_true hok.2]) (Nat.le_of_ble_eq_true hok.1) rfl (fun Lm' hl => kk _ _ _ _ _ _ hW (Rls_s1 (v := ai (x + cst a b)) hL trivial hl) hv h2)
  case iadd =>
    subst hn
    obtain ⟨x, y, r, rfl, h2⟩ := pI2_inv hw
    exact lv_iadd hx hb hd (kk _ _ _ _ _ _ hW hL (vI (vlds_t (vlds_t hv))) h2)
  case isub =>
    subst hn
    obtain ⟨x, y, r, rfl, h2⟩ := pI2_inv hw
    exact lv_isub hx hb hd (kk _ _ _ _ _ _ hW hL (vI (vlds_t (vlds_t hv))) h2)
  case imul =>
    subst hn
    obtain ⟨x, y, r, rfl, h2⟩ := pI2_inv hw
    exact lv_imul hx hb hd (kk _ _ _ _ _ _ hW hL (vI (vlds_t (vlds_t hv))) h2)
  case iand =>
    subst hn
    obtain ⟨x, y, r, rfl, h2⟩ := pI2_inv hw
    exact lv_iand hx hb hd (kk _ _ _ _ _ _ hW hL (vI (vlds_t (vlds_t hv))) h2)
  case ior =>
    subst hn
    obtain ⟨x, y, r, rfl, h2⟩ := pI2_inv hw
    exact lv_ior hx hb hd (kk _ _ _ _ _ _ hW hL (vI (vlds_t (vlds_t hv))) h2)
  case ixor =>
    subst hn
    obtain ⟨x, y, r, rfl, h2⟩ := pI2_inv hw
    exact lv_ixor hx hb hd (kk _ _ _ _ _ _ hW hL (vI (vlds_t (vlds_t hv))) h2)
  case ishl =>
    subst hn
    obtain ⟨x, y, r, rfl, h2⟩ := pI2_inv hw
    exact lv_ishl hx hb hd (kk _ _ _ _ _ _ hW hL (vI (vlds_t (vlds_t hv))) h2)
  case ishr =>
    subst hn
    obtain ⟨x, y, r, rfl, h2⟩ := pI2_inv hw
    exact lv_ishr hx hb hd (kk _ _ _ _ _ _ hW hL (vI (vlds_t (vlds_t hv))) h2)
  case iushr =>
    subst hn
    obtain ⟨x, y, r, rfl, h2⟩ := pI2_inv hw
    exact lv_iushr hx hb hd rfl (kk _ _ _ _ _ _ hW hL (vI (vlds_t (vlds_t hv))) h2)
  case idiv =>
    subst hn
    obtain ⟨x, y, r, rfl, h1, h2⟩ := pI2_inv hw
    exact lv_idiv hx hb hd h1 (kk _ _ _ _ _ _ hW hL (vI (vlds_t (vlds_t hv))) h2)
  case irem =>
    subst hn
    obtain ⟨x, y, r, rfl, h1, h2⟩ := pI2_inv hw
    refine lv_irem hx hb hd h1 ?_
    rw [irem_eq_mod]
    exact kk _ _ _ _ _ _ hW hL (vI (vlds_t (vlds_t hv))) h2
  case ineg =>
    subst hn
    obtain ⟨x, r, rfl, h2⟩ := pI_inv hw
    exact lv_ineg hx hb hd (kk _ _ _ _ _ _ hW hL (vI (vlds_t hv)) h2)
  case i2l =>
    subst hn
    obtain ⟨x, r, rfl, h2⟩ := pI_inv hw
    exact lv_i2l hx hb hd rfl (kk _ _ _ _ _ _ hW hL (vL (vlds_t hv)) h2)
  case i2b =>
    subst hn
    obtain ⟨x, r, rfl, h2⟩ := pI_inv hw
    exact lv_i2b hx hb hd rfl (kk _ _ _ _ _ _ hW hL (vI (vlds_t hv)) h2)
  case i2s =>
    subst hn
    obtain ⟨x, r, rfl, h2⟩ := pI_inv hw
    exact lv_i2s hx hb hd rfl (kk _ _ _ _ _ _ hW hL (vI (vlds_t hv)) h2)
  case ladd =>
    subst hn
    obtain ⟨x, y, r, rfl, h2⟩ := pL2_inv hw
    exact lv_ladd hx hb hd (kk _ _ _ _ _ _ hW hL (vL (vlds_t (vlds_t hv))) h2)
  case lmul =>
    subst hn
    obtain ⟨x, y, r, rfl, h2⟩ := pL2_inv hw
    exact lv_lmul hx hb hd (kk _ _ _ _ _ _ hW hL (vL (vlds_t (vlds_t hv))) h2)
  case ldiv =>
    subst hn
    obtain ⟨x, y, r, rfl, h1, h2⟩ := pL2_inv hw
    exact lv_ldiv hx hb hd h1 (kk _ _ _ _ _ _ hW hL (vL (vlds_t (vlds_t hv))) h2)
  case lrem =>
    subst hn
    obtain ⟨x, y, r, rfl, h1, h2⟩ := pL2_inv hw
    refine lv_lrem hx hb hd h1 ?_
    rw [lrem_eq_mod]
    exact kk _ _ _ _ _ _ hW hL (vL (vlds_t (vlds_t hv))) h2
  case lcmp =>
    subst hn
    obtain ⟨x, y, r, rfl, h2⟩ := pL2_inv hw
    exact W.lcmp hx hb hd (kk _ _ _ _ _ _ hW hL (vI (vlds_t (vlds_t hv))) h2)
  case dup =>
    subst hn
    match st, hv, hw with
    | [], hv, hw => exact hw.elim
    | v :: r, hv, hw =>
      obtain ⟨h1, h2⟩ := ifB_t hw
      exact lv_dup hx hb hd (by rw [conc_cat, if_pos h1]) (kk _ _ _ _ _ _ hW hL (vlds_c (vlds_h hv) hv) h2)
  case dup2 =>
    subst hn
    match st, hv, hw with
    | [], hv, hw => exact hw.elim
    | [_], hv, hw => exact hw.elim
    | v :: w :: r, hv, hw =>
      obtain ⟨h1, h2⟩ := ifB_t hw
      rw [Bool.and_eq_true] at h1
      exact lv_dup2_11 hx hb hd (by rw [conc_cat, if_pos h1.1]) (by rw [conc_cat, if_pos h1.2]) (kk _ _ _ _ _ _ hW hL (vlds_c (vlds_h hv) (vlds_c (vlds_h (vlds_t hv)) hv)) h2)
  case pop =>
    subst hn
    match st, hv, hw with
    | [], hv, hw => exact hw.elim
    | v :: r, hv, hw =>
      obtain ⟨h1, h2⟩ := ifB_t hw
      exact lv_pop hx hb hd (by rw [conc_cat, if_pos h1]) (kk _ _ _ _ _ _ hW hL (vlds_t hv) h2)
  case getfield k =>
    subst hn
    obtain ⟨t1, b1, r, rfl, h1⟩ := pO_inv hw
    obtain ⟨h1, h2⟩ := ifB_t h1
    have h1 := Nat.eq_of_beq_eq_true h1
    dsimp only at h1 h2
    subst h1
    exact sn_get hF (gf_ok _ (has_in hok)) hW (vlds_h hv) hd (kk _ _ _ _ _ _ hW hL (vlds_c (aval_vld (vlds_h hv)) (vlds_t hv)) h2)
  case putfield k =>
    subst hn
    rw [Bool.and_eq_true] at hok
    obtain ⟨x, t1, b1, r, rfl, h1⟩ := pIO_inv hw
    obtain ⟨h1, h2⟩ := ifB_t h1
    have h1 := Nat.eq_of_beq_eq_true h1
    dsimp only at h1 h2
    subst h1
    have hf : fsh t1 b = none := by simpa using hok.2
    refine sn_put hF (gf_ok _ (has_in hok.1)) hf hW (vlds_h (vlds_t hv)) (x := x) ?_ hd (fun H1 locs1 hW1 => kk _ _ _ _ _ _ hW1 hL (vlds_t (vlds_t hv)) ?_)
    · intro hbo
      rw [if_pos hbo] at h2
      exact h2.1
    · split at h2
      · exact h2.2
      · exact h2
  case iaload =>
    subst hn
    obtain ⟨j, t1, b1, r, rfl, h1, h2⟩ := pIO_inv hw
    exact sn_iald hF hX hW (vlds_h (vlds_t hv)) h1 hd (kk _ _ _ _ _ _ hW hL (vI (vlds_t (vlds_t hv))) h2)
  case iastore =>
    subst hn
    obtain ⟨x, j, t1, b1, r, rfl, h1⟩ := pIIO_inv hw
    obtain ⟨h0, h1, h2⟩ := ifB_t h1
    exact sn_iast hF hW (vlds_h (vlds_t (vlds_t hv))) h0 h1 hd (fun H1 locs1 hW1 => kk _ _ _ _ _ _ hW1 hL (vlds_t (vlds_t (vlds_t hv))) h2)
  case aaload =>
    subst hn
    obtain ⟨j, t1, b1, r, rfl, h1, h2⟩ := pIO_inv hw
    have hlt : j.toNatClampNeg < 8 := Nat.not_le.mp fun q => h1 (Or.inr q)
    have hb1 : b1 < ocn t1 := vlds_h (vlds_t hv)
    unfold rel at h2
    split at h2
    · rename_i q hq
      split at hq
      · cases hq
        obtain ⟨k, hk, hk2⟩ := wsA_get (ad := ad) (cI := cI) (cS := cS) (cB := cB) (h := h) (t := 20) (by omega) hb1
        exact va_aldq hx hb hK hW.1 k 1 hk2 rfl h1 hd (kk _ _ _ _ _ _ hW hL (vlds_c (v := ar 1 j.toNatClampNeg) hlt (vlds_t (vlds_t hv))) h2)
      · cases hq
        obtain ⟨k, hk, hk2⟩ := wsA_get (ad := ad) (cI := cI) (cS := cS) (cB := cB) (h := h) (t := 21) (by omega) hb1
        exact va_aldq hx hb hK hW.1 k 2 hk2 rfl h1 hd (kk _ _ _ _ _ _ hW hL (vlds_c (v := ar 0 (4 + j.toNatClampNeg)) (show 4 + j.toNatClampNeg < 12 by omega) (vlds_t (vlds_t hv))) h2)
      · cases hq
    · exact h2.elim
  case arraylength =>
    subst hn
    obtain ⟨t1, b1, r, rfl, h2⟩ := pO_inv hw
    have hb1 : b1 < ocn t1 := vlds_h hv
    split at h2
    · rename_i k hk
      have h3 := kk _ _ _ _ _ _ hW hL (vI (vlds_t hv)) h2
      by_cases hr : 4 ≤ t1 ∧ t1 ≤ 19
      · obtain ⟨q, hq, hq2⟩ := row_at hW hr.1 hr.2 hb1
        refine va_alen hx hb hK hW.1 q 0 hq2 rfl (v := Int32.ofNat k) ?_ hd h3
        have : aln 0 t1 = k := by
          unfold alA at hk
          split at hk <;> first | (cases hk; rfl) | omega | cases hk
        rw [← this]
      · have ht : t1 = 20 ∨ t1 = 21 ∨ t1 = 22 := by
          unfold alA at hk
          split at hk <;> first | omega | cases hk
        rcases ht with rfl | rfl | rfl
        · cases hk
          obtain ⟨q, hq, hq2⟩ := wsA_get (ad := ad) (cI := cI) (cS := cS) (cB := cB) (h := h) (t := 20) (by omega) hb1
          exact va_alen hx hb hK hW.1 q 1 hq2 rfl (v := Int32.ofNat 8) rfl hd h3
        · cases hk
          obtain ⟨q, hq, hq2⟩ := wsA_get (ad := ad) (cI := cI) (cS := cS) (cB := cB) (h := h) (t := 21) (by omega) hb1
          exact va_alen hx hb hK hW.1 q 2 hq2 rfl (v := Int32.ofNat 8) rfl hd h3
        · have hb2 : b1 = 0 := by
            have : ocn 22 = 1 := rfl
            omega
          subst hb2
          rcases hX with rfl | ⟨g0, g1, g2, g3⟩
          · cases hk
          · rw [g0] at hk
            cases hk
            exact va_slen hx hb g1 g2 g3 hW.2.2.1 hd h3
    · exact h2.elim
  case invokestatic idx _ =>
    subst hn
    dsimp only [wS] at hw
    dsimp only at hok
    split at hw
    · split at hw
      · rename_i r
        obtain ⟨h0, h1, h2, h3, h4, h5, h6⟩ := ifB_t hw
        rw [Bool.and_eq_true] at h0
        obtain ⟨h7, h8⟩ := ifB_t h6
        exact sn_cpy hF (ac_ok _ (has_in hok)) hW (vlds_h (vlds_t (vlds_t (vlds_t (vlds_t hv))))) (vlds_h (vlds_t (vlds_t hv))) h0.1 h0.2 h1 h2 h3 h4 h5 hL.2.1.1 (by rw [catS_map]; exact Nat.le_of_ble_eq_true h7) ⟨hR.1, hR.2.1⟩ hd (fun H1 locs1 hW1 => kk _ _ _ _ _ _ hW1 hL (vlds_t (vlds_t (vlds_t (vlds_t (vlds_t hv))))) h8)
      · exact hw.elim
    · rename_i hne
      obtain ⟨x, y, r, rfl, h2⟩ := pI2_inv hw
      obtain ⟨h7, h8⟩ := ifB_t h2
      have hmx : (own, idx) ∈ mxT := by
        split at hok
        · rename_i z; exact absurd rfl hne
        · exact has_in hok
      refine va_mmax hx hb (hml.trans hL.2.1.1.symm) hown (hwd _ (mx_ok _ hmx)) (hwd _ mxw_ok.1) (hwd _ mxw_ok.2.1) (hwd _ mxw_ok.2.2) hR.1 ?_ hR.2.2.1 hR.2.2.2 hd (kk _ _ _ _ _ _ hW hL (vI (vlds_t (vlds_t hv))) h8)
      rw [catS_map]
      have := Nat.le_of_ble_eq_true h7
      omega
  all_goals exact hw.elim
end SNS
