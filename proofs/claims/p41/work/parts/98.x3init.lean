/-! THE SYSTEM'S CONSTRUCTOR, whole -/
def rmX3_init : Room := { frames := 8, cells := 92, slots := 1892, locals := 300 }
def wcX3_init : List Jvm.Cond := .code yX3_init cX3_init 2 none :: WSg
def poX3 (cI cS cB : ClassId) (a : Nat) (w1 : va_W) : Prop := ∃ (b : Nat → Nat) (ub : Nat → Nat → Nat) (n : Nat → Nat) (LS LB : List (Nat × (Nat → Nat))), LS.length = 8 ∧ LB.length = 8 ∧ w1 = (a, .inr (2, w3f b n)) :: (w3t cI cS cB b ub n (fL LS) (fL LB) ++ (eS cI LS ++ eB cI LB))
set_option maxHeartbeats 4000000 in
set_option maxRecDepth 10000 in
theorem m_X3_init (l : Launch) (D : va_G) (cI cS cB : ClassId) : aCt l yX3_init wcX3_init rmX3_init D cI cS cB 2 dfl2 (poX3 cI cS cB) 92 1892 := by
  intro a sz
  refine Met.ofW (cc := cX3_init) (maxL := 2) (ret := none) (by decide +kernel) rfl ?_
  intro p e s m args below meth c s₁ B hml hv
  obtain ⟨rfl, hsz, hP, hK, hAO⟩ := hv
  subst hsz
  have hts := atoms_spec (ws := wcX3_init) B.pre
  have hown : s.vm.findClass yX3_init.cls = some m.cls := findClass_of_methodNamed B.named
  have hF : Fk p s m ([.ref a] : List Value).toArray c cX3_init 2 2 D cI cS cB := ⟨B.exec, B.bytes, hml, hown, fun w hw => hts w (List.mem_cons_of_mem _ hw), hK, hAO⟩
  have hx := B.exec
  have hb := B.bytes
  have hlocks := B.notSynchronized
  have hret := B.returns
  have hin : meth.name = "<init>" := (name_of_methodNamed B.named B.method).1
  have hA : ∀ q, s.heap.size ≤ q → va_A [(a, .inr (2, dfl2))] s.heap.size q := fun q hq => Or.inr hq
  have hY : Yw D (va_A [(a, .inr (2, dfl2))] s.heap.size) s [(a, .inr (2, dfl2))] s.heap [] := ⟨hP, va_D1 (va_A.in (k := 0) rfl), va_S.rf⟩
  have hl := lv_entry ([.ref a]) (n := 2) (Nat.le_of_ble_eq_true rfl)
  rw [lg_entry_eq]
  generalize (lg_sl ([.ref a]) ++ List.replicate (2 - (lg_sl ([.ref a])).length) Slot.unset).toArray = ls at hl ⊢
  have hl : lv_has ls 2 [(0, .ref a)] := hl
  refine lv_aload_n hx hb dX3_init_0 rfl (lv_at hl 0 rfl) ?_
  refine W.objInit hx hb hown (hts _ (List.mem_cons_of_mem _ (WSg_in woX3_init))) (hts _ (List.mem_cons_of_mem _ (WSg_in wo_i))) (hts _ (List.mem_cons_of_mem _ (WSg_in wo_c))) rfl (by rw [hml]; exact hl.1) rfl dX3_init_1 (Nat.le_of_ble_eq_true rfl) (Nat.le_of_ble_eq_true rfl) ?_
  refine W.eq (g2 := F0 m 4 ls []) rfl ?_
  have hY : Yw D _ s ((a, .inr (2, [.null, .null, .int 0, .null, .null, .null, .null, .null, .null, .int 0])) :: []) _ _ := hY
  refine lv_aload_n hx hb dX3_init_4 rfl (lv_at hl 0 rfl) ?_
  refine y_new hF hA hY 0 (by decide) dfl0_ok wx_b wx_nb wx_ib (Nat.le_of_ble_eq_true rfl) (Nat.le_of_ble_eq_true rfl) dX3_init_5 (fun b0 H hY => ?_)
  refine lv_dup hx hb dX3_init_8 rfl ?_
  refine y_init (wr := ((a, .inr (2, [.null, .null, .int 0, .null, .null, .null, .null, .null, .null, .int 0])) :: [])) hF hA hY (m_X0_init l D cI cS cB) rfl rfl wx_b1 wx_b2 wx_b3 wx_b4 rfl ⟨by decide +kernel, by decide +kernel, by decide +kernel⟩ ⟨(Nat.le_of_ble_eq_true rfl), (Nat.le_of_ble_eq_true rfl)⟩ ⟨(Nat.le_of_ble_eq_true rfl), (Nat.le_of_ble_eq_true rfl)⟩ hl.1 (Nat.le_of_ble_eq_true rfl) dX3_init_9 (fun w1 H locs hw1 hY => ?_)
  obtain ⟨u0, rfl⟩ := hw1
  refine W.widen (k := 6) (n := 85) (Nat.le_refl _) (Nat.le_refl _) ?_
  have hY : Yw D _ s ((a, .inr (2, [.null, .null, .int 0, .null, .null, .null, .null, .null, .null, .int 0])) :: uB cI b0 u0) H locs := hY
  refine y_put hF hY (k := 0) (by decide) wfX3_init_12 (Or.inr ⟨rfl, hin, rfl⟩) rfl rfl (Nat.le_of_ble_eq_true rfl) dX3_init_12 (fun H locs hY => ?_)
  have hY : Yw D _ s ((a, .inr (2, [.ref b0, .null, .int 0, .null, .null, .null, .null, .null, .null, .int 0])) :: uB cI b0 u0) H locs := hY
  refine lv_aload_n hx hb dX3_init_15 rfl (lv_at hl 0 rfl) ?_
  refine y_new hF hA hY 0 (by decide) dfl0_ok wx_b wx_nb wx_ib (Nat.le_of_ble_eq_true rfl) (Nat.le_of_ble_eq_true rfl) dX3_init_16 (fun b1 H hY => ?_)
  refine lv_dup hx hb dX3_init_19 rfl ?_
  refine y_init (wr := ((a, .inr (2, [.ref b0, .null, .int 0, .null, .null, .null, .null, .null, .null, .int 0])) :: uB cI b0 u0)) hF hA hY (m_X0_init l D cI cS cB) rfl rfl wx_b1 wx_b2 wx_b3 wx_b4 rfl ⟨by decide +kernel, by decide +kernel, by decide +kernel⟩ ⟨(Nat.le_of_ble_eq_true rfl), (Nat.le_of_ble_eq_true rfl)⟩ ⟨(Nat.le_of_ble_eq_true rfl), (Nat.le_of_ble_eq_true rfl)⟩ hl.1 (Nat.le_of_ble_eq_true rfl) dX3_init_20 (fun w1 H locs hw1 hY => ?_)
  obtain ⟨u1, rfl⟩ := hw1
  refine W.widen (k := 12) (n := 170) (Nat.le_refl _) (Nat.le_refl _) ?_
  have hY : Yw D _ s ((a, .inr (2, [.ref b0, .null, .int 0, .null, .null, .null, .null, .null, .null, .int 0])) :: (uB cI b0 u0 ++ uB cI b1 u1)) H locs := hY
  refine y_put hF hY (k := 1) (by decide) wfX3_init_23 (Or.inr ⟨rfl, hin, rfl⟩) rfl rfl (Nat.le_of_ble_eq_true rfl) dX3_init_23 (fun H locs hY => ?_)
  have hY : Yw D _ s ((a, .inr (2, [.ref b0, .ref b1, .int 0, .null, .null, .null, .null, .null, .null, .int 0])) :: (uB cI b0 u0 ++ uB cI b1 u1)) H locs := hY
  refine lv_aload_n hx hb dX3_init_26 rfl (lv_at hl 0 rfl) ?_
  refine lv_iconst (v := I 0) hx hb dX3_init_27 (by decide) ?_
  refine y_put hF hY (k := 2) (by decide) wfX3_init_28 (Or.inl rfl) rfl rfl (Nat.le_of_ble_eq_true rfl) dX3_init_28 (fun H locs hY => ?_)
  have hY : Yw D _ s ((a, .inr (2, [.ref b0, .ref b1, .int (I 0), .null, .null, .null, .null, .null, .null, .int 0])) :: (uB cI b0 u0 ++ uB cI b1 u1)) H locs := hY
  refine lv_aload_n hx hb dX3_init_31 rfl (lv_at hl 0 rfl) ?_
  refine lv_bipush (v := I 8) hx hb dX3_init_32 (by decide) ?_
  refine y_newq hF hA hY (cQ := cS) 1 (by decide) rfl hAO.1 wx_s (Nat.le_of_ble_eq_true rfl) (Nat.le_of_ble_eq_true rfl) dX3_init_34 (fun n0 H hY => ?_)
  refine W.widen (k := 13) (n := 178) (Nat.le_refl _) (Nat.le_refl _) ?_
  have hY : Yw D _ s ((a, .inr (2, [.ref b0, .ref b1, .int (I 0), .null, .null, .null, .null, .null, .null, .int 0])) :: ((uB cI b0 u0 ++ uB cI b1 u1) ++ [(n0, aQ cS (fun _ => none))])) H _ := hY
  refine y_put hF hY (k := 3) (by decide) wfX3_init_37 (Or.inr ⟨rfl, hin, rfl⟩) rfl rfl (Nat.le_of_ble_eq_true rfl) dX3_init_37 (fun H locs hY => ?_)
  have hY : Yw D _ s ((a, .inr (2, [.ref b0, .ref b1, .int (I 0), .ref n0, .null, .null, .null, .null, .null, .int 0])) :: ((uB cI b0 u0 ++ uB cI b1 u1) ++ [(n0, aQ cS (fun _ => none))])) H locs := hY
  refine lv_aload_n hx hb dX3_init_40 rfl (lv_at hl 0 rfl) ?_
  refine lv_bipush (v := I 8) hx hb dX3_init_41 (by decide) ?_
  refine y_newq hF hA hY (cQ := cB) 2 (by decide) rfl hAO.2.1 wx_b (Nat.le_of_ble_eq_true rfl) (Nat.le_of_ble_eq_true rfl) dX3_init_43 (fun n1 H hY => ?_)
  refine W.widen (k := 14) (n := 186) (Nat.le_refl _) (Nat.le_refl _) ?_
  have hY : Yw D _ s ((a, .inr (2, [.ref b0, .ref b1, .int (I 0), .ref n0, .null, .null, .null, .null, .null, .int 0])) :: (((uB cI b0 u0 ++ uB cI b1 u1) ++ [(n0, aQ cS (fun _ => none))]) ++ [(n1, aQ cB (fun _ => none))])) H _ := hY
  refine y_put hF hY (k := 4) (by decide) wfX3_init_46 (Or.inr ⟨rfl, hin, rfl⟩) rfl rfl (Nat.le_of_ble_eq_true rfl) dX3_init_46 (fun H locs hY => ?_)
  have hY : Yw D _ s ((a, .inr (2, [.ref b0, .ref b1, .int (I 0), .ref n0, .ref n1, .null, .null, .null, .null, .int 0])) :: (((uB cI b0 u0 ++ uB cI b1 u1) ++ [(n0, aQ cS (fun _ => none))]) ++ [(n1, aQ cB (fun _ => none))])) H locs := hY
  refine lv_aload_n hx hb dX3_init_49 rfl (lv_at hl 0 rfl) ?_
  refine y_new hF hA hY 0 (by decide) dfl0_ok wx_b wx_nb wx_ib (Nat.le_of_ble_eq_true rfl) (Nat.le_of_ble_eq_true rfl) dX3_init_50 (fun b2 H hY => ?_)
  refine lv_dup hx hb dX3_init_53 rfl ?_
  refine y_init (wr := ((a, .inr (2, [.ref b0, .ref b1, .int (I 0), .ref n0, .ref n1, .null, .null, .null, .null, .int 0])) :: (((uB cI b0 u0 ++ uB cI b1 u1) ++ [(n0, aQ cS (fun _ => none))]) ++ [(n1, aQ cB (fun _ => none))]))) hF hA hY (m_X0_init l D cI cS cB) rfl rfl wx_b1 wx_b2 wx_b3 wx_b4 rfl ⟨by decide +kernel, by decide +kernel, by decide +kernel⟩ ⟨(Nat.le_of_ble_eq_true rfl), (Nat.le_of_ble_eq_true rfl)⟩ ⟨(Nat.le_of_ble_eq_true rfl), (Nat.le_of_ble_eq_true rfl)⟩ hl.1 (Nat.le_of_ble_eq_true rfl) dX3_init_54 (fun w1 H locs hw1 hY => ?_)
  obtain ⟨u2, rfl⟩ := hw1
  refine W.widen (k := 20) (n := 271) (Nat.le_refl _) (Nat.le_refl _) ?_
  have hY : Yw D _ s ((a, .inr (2, [.ref b0, .ref b1, .int (I 0), .ref n0, .ref n1, .null, .null, .null, .null, .int 0])) :: ((((uB cI b0 u0 ++ uB cI b1 u1) ++ [(n0, aQ cS (fun _ => none))]) ++ [(n1, aQ cB (fun _ => none))]) ++ uB cI b2 u2)) H locs := hY
  refine y_put hF hY (k := 5) (by decide) wfX3_init_57 (Or.inr ⟨rfl, hin, rfl⟩) rfl rfl (Nat.le_of_ble_eq_true rfl) dX3_init_57 (fun H locs hY => ?_)
  have hY : Yw D _ s ((a, .inr (2, [.ref b0, .ref b1, .int (I 0), .ref n0, .ref n1, .ref b2, .null, .null, .null, .int 0])) :: ((((uB cI b0 u0 ++ uB cI b1 u1) ++ [(n0, aQ cS (fun _ => none))]) ++ [(n1, aQ cB (fun _ => none))]) ++ uB cI b2 u2)) H locs := hY
  refine lv_aload_n hx hb dX3_init_60 rfl (lv_at hl 0 rfl) ?_
  refine y_new hF hA hY 0 (by decide) dfl0_ok wx_b wx_nb wx_ib (Nat.le_of_ble_eq_true rfl) (Nat.le_of_ble_eq_true rfl) dX3_init_61 (fun b3 H hY => ?_)
  refine lv_dup hx hb dX3_init_64 rfl ?_
  refine y_init (wr := ((a, .inr (2, [.ref b0, .ref b1, .int (I 0), .ref n0, .ref n1, .ref b2, .null, .null, .null, .int 0])) :: ((((uB cI b0 u0 ++ uB cI b1 u1) ++ [(n0, aQ cS (fun _ => none))]) ++ [(n1, aQ cB (fun _ => none))]) ++ uB cI b2 u2))) hF hA hY (m_X0_init l D cI cS cB) rfl rfl wx_b1 wx_b2 wx_b3 wx_b4 rfl ⟨by decide +kernel, by decide +kernel, by decide +kernel⟩ ⟨(Nat.le_of_ble_eq_true rfl), (Nat.le_of_ble_eq_true rfl)⟩ ⟨(Nat.le_of_ble_eq_true rfl), (Nat.le_of_ble_eq_true rfl)⟩ hl.1 (Nat.le_of_ble_eq_true rfl) dX3_init_65 (fun w1 H locs hw1 hY => ?_)
  obtain ⟨u3, rfl⟩ := hw1
  refine W.widen (k := 26) (n := 356) (Nat.le_refl _) (Nat.le_refl _) ?_
  have hY : Yw D _ s ((a, .inr (2, [.ref b0, .ref b1, .int (I 0), .ref n0, .ref n1, .ref b2, .null, .null, .null, .int 0])) :: (((((uB cI b0 u0 ++ uB cI b1 u1) ++ [(n0, aQ cS (fun _ => none))]) ++ [(n1, aQ cB (fun _ => none))]) ++ uB cI b2 u2) ++ uB cI b3 u3)) H locs := hY
  refine y_put hF hY (k := 6) (by decide) wfX3_init_68 (Or.inr ⟨rfl, hin, rfl⟩) rfl rfl (Nat.le_of_ble_eq_true rfl) dX3_init_68 (fun H locs hY => ?_)
  have hY : Yw D _ s ((a, .inr (2, [.ref b0, .ref b1, .int (I 0), .ref n0, .ref n1, .ref b2, .ref b3, .null, .null, .int 0])) :: (((((uB cI b0 u0 ++ uB cI b1 u1) ++ [(n0, aQ cS (fun _ => none))]) ++ [(n1, aQ cB (fun _ => none))]) ++ uB cI b2 u2) ++ uB cI b3 u3)) H locs := hY
  refine lv_aload_n hx hb dX3_init_71 rfl (lv_at hl 0 rfl) ?_
  refine lv_iconst (v := I 4) hx hb dX3_init_72 (by decide) ?_
  refine y_newi (D := D) (cI := cI) hF hA hY 4 (by omega) (by omega) rfl (Nat.le_of_ble_eq_true rfl) (Nat.le_of_ble_eq_true rfl) dX3_init_73 (fun n2 H hY => ?_)
  refine W.widen (k := 27) (n := 360) (Nat.le_refl _) (Nat.le_refl _) ?_
  have hY : Yw D _ s ((a, .inr (2, [.ref b0, .ref b1, .int (I 0), .ref n0, .ref n1, .ref b2, .ref b3, .null, .null, .int 0])) :: ((((((uB cI b0 u0 ++ uB cI b1 u1) ++ [(n0, aQ cS (fun _ => none))]) ++ [(n1, aQ cB (fun _ => none))]) ++ uB cI b2 u2) ++ uB cI b3 u3) ++ [(n2, .inl (cI, 4, .inl zI))])) H _ := hY
  refine y_put hF hY (k := 7) (by decide) wfX3_init_75 (Or.inr ⟨rfl, hin, rfl⟩) rfl rfl (Nat.le_of_ble_eq_true rfl) dX3_init_75 (fun H locs hY => ?_)
  have hY : Yw D _ s ((a, .inr (2, [.ref b0, .ref b1, .int (I 0), .ref n0, .ref n1, .ref b2, .ref b3, .ref n2, .null, .int 0])) :: ((((((uB cI b0 u0 ++ uB cI b1 u1) ++ [(n0, aQ cS (fun _ => none))]) ++ [(n1, aQ cB (fun _ => none))]) ++ uB cI b2 u2) ++ uB cI b3 u3) ++ [(n2, .inl (cI, 4, .inl zI))])) H locs := hY
  refine lv_aload_n hx hb dX3_init_78 rfl (lv_at hl 0 rfl) ?_
  refine lv_iconst (v := I 4) hx hb dX3_init_79 (by decide) ?_
  refine y_newi (D := D) (cI := cI) hF hA hY 4 (by omega) (by omega) rfl (Nat.le_of_ble_eq_true rfl) (Nat.le_of_ble_eq_true rfl) dX3_init_80 (fun n3 H hY => ?_)
  refine W.widen (k := 28) (n := 364) (Nat.le_refl _) (Nat.le_refl _) ?_
  have hY : Yw D _ s ((a, .inr (2, [.ref b0, .ref b1, .int (I 0), .ref n0, .ref n1, .ref b2, .ref b3, .ref n2, .null, .int 0])) :: (((((((uB cI b0 u0 ++ uB cI b1 u1) ++ [(n0, aQ cS (fun _ => none))]) ++ [(n1, aQ cB (fun _ => none))]) ++ uB cI b2 u2) ++ uB cI b3 u3) ++ [(n2, .inl (cI, 4, .inl zI))]) ++ [(n3, .inl (cI, 4, .inl zI))])) H _ := hY
  refine y_put hF hY (k := 8) (by decide) wfX3_init_82 (Or.inr ⟨rfl, hin, rfl⟩) rfl rfl (Nat.le_of_ble_eq_true rfl) dX3_init_82 (fun H locs hY => ?_)
  have hY : Yw D _ s ((a, .inr (2, [.ref b0, .ref b1, .int (I 0), .ref n0, .ref n1, .ref b2, .ref b3, .ref n2, .ref n3, .int 0])) :: (((((((uB cI b0 u0 ++ uB cI b1 u1) ++ [(n0, aQ cS (fun _ => none))]) ++ [(n1, aQ cB (fun _ => none))]) ++ uB cI b2 u2) ++ uB cI b3 u3) ++ [(n2, .inl (cI, 4, .inl zI))]) ++ [(n3, .inl (cI, 4, .inl zI))])) H locs := hY
  refine lv_aload_n hx hb dX3_init_85 rfl (lv_at hl 0 rfl) ?_
  refine lv_iconst (v := I 0) hx hb dX3_init_86 (by decide) ?_
  refine y_put hF hY (k := 9) (by decide) wfX3_init_87 (Or.inl rfl) rfl rfl (Nat.le_of_ble_eq_true rfl) dX3_init_87 (fun H locs hY => ?_)
  have hY : Yw D _ s ((a, .inr (2, [.ref b0, .ref b1, .int (I 0), .ref n0, .ref n1, .ref b2, .ref b3, .ref n2, .ref n3, .int (I 0)])) :: (((((((uB cI b0 u0 ++ uB cI b1 u1) ++ [(n0, aQ cS (fun _ => none))]) ++ [(n1, aQ cB (fun _ => none))]) ++ uB cI b2 u2) ++ uB cI b3 u3) ++ [(n2, .inl (cI, 4, .inl zI))]) ++ [(n3, .inl (cI, 4, .inl zI))])) H locs := hY
  refine lv_iconst (v := I 0) hx hb dX3_init_90 (by decide) ?_
  refine lv_istore_n (lv' := [(1, .int (I 0)), (0, .ref a)]) hx hb dX3_init_91 rfl hl (by decide) rfl (fun ls hl => ?_)
  have hY1 : Yw D (va_A [(a, .inr (2, dfl2))] s.heap.size) s ((a, .inr (2, w3f (fun k => [b0, b1, b2, b3].getD k 0) (fun k => [n0, n1, n2, n3].getD k 0))) :: (w3t cI cS cB (fun k => [b0, b1, b2, b3].getD k 0) (fun k => [u0, u1, u2, u3].getD k (fun _ => 0)) (fun k => [n0, n1, n2, n3].getD k 0) (fL []) (fun _ => none) ++ eS cI [])) H locs := by
    rw [show fL [] = fun _ => none from rfl, show eS cI [] = [] from rfl, List.append_nil]
    exact hY
  refine x3_loop1 (a := a) (b := fun k => [b0, b1, b2, b3].getD k 0) (ub := fun k => [u0, u1, u2, u3].getD k (fun _ => 0)) (n := fun k => [n0, n1, n2, n3].getD k 0) hF hA ⟨(Nat.le_of_ble_eq_true rfl), (Nat.le_of_ble_eq_true rfl), (Nat.le_of_ble_eq_true rfl), (Nat.le_of_ble_eq_true rfl)⟩ (fun LS H locs ls h8 hY hl => ?_) 8 [] H locs ls (by decide) (by decide) hY1 hl
  refine lv_iconst (v := I 0) hx hb dX3_init_117 (by decide) ?_
  refine lv_istore_n (lv' := [(1, .int (I 0)), (0, .ref a)]) hx hb dX3_init_118 rfl hl (by decide) rfl (fun ls hl => ?_)
  have hY2 : Yw D (va_A [(a, .inr (2, dfl2))] s.heap.size) s ((a, .inr (2, w3f (fun k => [b0, b1, b2, b3].getD k 0) (fun k => [n0, n1, n2, n3].getD k 0))) :: (w3t cI cS cB (fun k => [b0, b1, b2, b3].getD k 0) (fun k => [u0, u1, u2, u3].getD k (fun _ => 0)) (fun k => [n0, n1, n2, n3].getD k 0) (fL LS) (fL []) ++ (eS cI LS ++ eB cI []))) H locs := by
    rw [show fL [] = fun _ => none from rfl, show eB cI [] = [] from rfl, List.append_nil]
    exact hY
  refine x3_loop2 (a := a) (LS := LS) hF hA ⟨(Nat.le_of_ble_eq_true rfl), (Nat.le_of_ble_eq_true rfl), (Nat.le_of_ble_eq_true rfl), (Nat.le_of_ble_eq_true rfl)⟩ (fun LB H locs ls h8b hY => ?_) 8 [] H locs ls (by decide) (by decide) hY2 hl
  exact W.vret hx hb hret (fun t ht hWm => ⟨rfl, ⟨_, ⟨_, _, _, LS, LB, h8, h8b, rfl⟩, by rw [ht]; exact hY.1, hY.2.1⟩, hY.2.2.F ht⟩) hY.2.2.2.2 dX3_init_144
