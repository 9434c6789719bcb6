/-! THE SYSTEM'S CONSTRUCTOR: by program (wip/p41/gen97.py) -/
theorem dX3_init_0 : decode cX3_init 0 = .ok (.aload_n 0, 1) := by decide +kernel
theorem dX3_init_1 : decode cX3_init 1 = .ok (.invokespecial 1, 3) := by decide +kernel
theorem dX3_init_4 : decode cX3_init 4 = .ok (.aload_n 0, 1) := by decide +kernel
theorem dX3_init_5 : decode cX3_init 5 = .ok (.new 7, 3) := by decide +kernel
theorem dX3_init_8 : decode cX3_init 8 = .ok (.dup, 1) := by decide +kernel
theorem dX3_init_9 : decode cX3_init 9 = .ok (.invokespecial 9, 3) := by decide +kernel
theorem dX3_init_12 : decode cX3_init 12 = .ok (.putfield 10, 3) := by decide +kernel
theorem dX3_init_15 : decode cX3_init 15 = .ok (.aload_n 0, 1) := by decide +kernel
theorem dX3_init_16 : decode cX3_init 16 = .ok (.new 7, 3) := by decide +kernel
theorem dX3_init_19 : decode cX3_init 19 = .ok (.dup, 1) := by decide +kernel
theorem dX3_init_20 : decode cX3_init 20 = .ok (.invokespecial 9, 3) := by decide +kernel
theorem dX3_init_23 : decode cX3_init 23 = .ok (.putfield 16, 3) := by decide +kernel
theorem dX3_init_26 : decode cX3_init 26 = .ok (.aload_n 0, 1) := by decide +kernel
theorem dX3_init_27 : decode cX3_init 27 = .ok (.iconst 0, 1) := by decide +kernel
theorem dX3_init_28 : decode cX3_init 28 = .ok (.putfield 19, 3) := by decide +kernel
theorem dX3_init_31 : decode cX3_init 31 = .ok (.aload_n 0, 1) := by decide +kernel
theorem dX3_init_32 : decode cX3_init 32 = .ok (.bipush 8, 2) := by decide +kernel
theorem dX3_init_34 : decode cX3_init 34 = .ok (.anewarray 23, 3) := by decide +kernel
theorem dX3_init_37 : decode cX3_init 37 = .ok (.putfield 25, 3) := by decide +kernel
theorem dX3_init_40 : decode cX3_init 40 = .ok (.aload_n 0, 1) := by decide +kernel
theorem dX3_init_41 : decode cX3_init 41 = .ok (.bipush 8, 2) := by decide +kernel
theorem dX3_init_43 : decode cX3_init 43 = .ok (.anewarray 7, 3) := by decide +kernel
theorem dX3_init_46 : decode cX3_init 46 = .ok (.putfield 29, 3) := by decide +kernel
theorem dX3_init_49 : decode cX3_init 49 = .ok (.aload_n 0, 1) := by decide +kernel
theorem dX3_init_50 : decode cX3_init 50 = .ok (.new 7, 3) := by decide +kernel
theorem dX3_init_53 : decode cX3_init 53 = .ok (.dup, 1) := by decide +kernel
theorem dX3_init_54 : decode cX3_init 54 = .ok (.invokespecial 9, 3) := by decide +kernel
theorem dX3_init_57 : decode cX3_init 57 = .ok (.putfield 33, 3) := by decide +kernel
theorem dX3_init_60 : decode cX3_init 60 = .ok (.aload_n 0, 1) := by decide +kernel
theorem dX3_init_61 : decode cX3_init 61 = .ok (.new 7, 3) := by decide +kernel
theorem dX3_init_64 : decode cX3_init 64 = .ok (.dup, 1) := by decide +kernel
theorem dX3_init_65 : decode cX3_init 65 = .ok (.invokespecial 9, 3) := by decide +kernel
theorem dX3_init_68 : decode cX3_init 68 = .ok (.putfield 36, 3) := by decide +kernel
theorem dX3_init_71 : decode cX3_init 71 = .ok (.aload_n 0, 1) := by decide +kernel
theorem dX3_init_72 : decode cX3_init 72 = .ok (.iconst 4, 1) := by decide +kernel
theorem dX3_init_73 : decode cX3_init 73 = .ok (.newarray .int, 2) := by decide +kernel
theorem dX3_init_75 : decode cX3_init 75 = .ok (.putfield 39, 3) := by decide +kernel
theorem dX3_init_78 : decode cX3_init 78 = .ok (.aload_n 0, 1) := by decide +kernel
theorem dX3_init_79 : decode cX3_init 79 = .ok (.iconst 4, 1) := by decide +kernel
theorem dX3_init_80 : decode cX3_init 80 = .ok (.newarray .int, 2) := by decide +kernel
theorem dX3_init_82 : decode cX3_init 82 = .ok (.putfield 43, 3) := by decide +kernel
theorem dX3_init_85 : decode cX3_init 85 = .ok (.aload_n 0, 1) := by decide +kernel
theorem dX3_init_86 : decode cX3_init 86 = .ok (.iconst 0, 1) := by decide +kernel
theorem dX3_init_87 : decode cX3_init 87 = .ok (.putfield 46, 3) := by decide +kernel
theorem dX3_init_90 : decode cX3_init 90 = .ok (.iconst 0, 1) := by decide +kernel
theorem dX3_init_91 : decode cX3_init 91 = .ok (.istore_n 1, 1) := by decide +kernel
theorem dX3_init_92 : decode cX3_init 92 = .ok (.iload_n 1, 1) := by decide +kernel
theorem dX3_init_93 : decode cX3_init 93 = .ok (.bipush 8, 2) := by decide +kernel
theorem dX3_init_95 : decode cX3_init 95 = .ok (.if_icmp .ge 22, 3) := by decide +kernel
theorem dX3_init_98 : decode cX3_init 98 = .ok (.aload_n 0, 1) := by decide +kernel
theorem dX3_init_99 : decode cX3_init 99 = .ok (.getfield 25, 3) := by decide +kernel
theorem dX3_init_102 : decode cX3_init 102 = .ok (.iload_n 1, 1) := by decide +kernel
theorem dX3_init_103 : decode cX3_init 103 = .ok (.new 23, 3) := by decide +kernel
theorem dX3_init_106 : decode cX3_init 106 = .ok (.dup, 1) := by decide +kernel
theorem dX3_init_107 : decode cX3_init 107 = .ok (.invokespecial 50, 3) := by decide +kernel
theorem dX3_init_110 : decode cX3_init 110 = .ok (.aastore, 1) := by decide +kernel
theorem dX3_init_111 : decode cX3_init 111 = .ok (.iinc 1 1, 3) := by decide +kernel
theorem dX3_init_114 : decode cX3_init 114 = .ok (.goto (-22), 3) := by decide +kernel
theorem dX3_init_117 : decode cX3_init 117 = .ok (.iconst 0, 1) := by decide +kernel
theorem dX3_init_118 : decode cX3_init 118 = .ok (.istore_n 1, 1) := by decide +kernel
theorem dX3_init_119 : decode cX3_init 119 = .ok (.iload_n 1, 1) := by decide +kernel
theorem dX3_init_120 : decode cX3_init 120 = .ok (.bipush 7, 2) := by decide +kernel
theorem dX3_init_122 : decode cX3_init 122 = .ok (.if_icmp .gt 22, 3) := by decide +kernel
theorem dX3_init_125 : decode cX3_init 125 = .ok (.aload_n 0, 1) := by decide +kernel
theorem dX3_init_126 : decode cX3_init 126 = .ok (.getfield 29, 3) := by decide +kernel
theorem dX3_init_129 : decode cX3_init 129 = .ok (.iload_n 1, 1) := by decide +kernel
theorem dX3_init_130 : decode cX3_init 130 = .ok (.new 7, 3) := by decide +kernel
theorem dX3_init_133 : decode cX3_init 133 = .ok (.dup, 1) := by decide +kernel
theorem dX3_init_134 : decode cX3_init 134 = .ok (.invokespecial 9, 3) := by decide +kernel
theorem dX3_init_137 : decode cX3_init 137 = .ok (.aastore, 1) := by decide +kernel
theorem dX3_init_138 : decode cX3_init 138 = .ok (.iinc 1 1, 3) := by decide +kernel
theorem dX3_init_141 : decode cX3_init 141 = .ok (.goto (-22), 3) := by decide +kernel
theorem dX3_init_144 : decode cX3_init 144 = .ok (.return_, 1) := by decide +kernel
set_option maxRecDepth 100000 in
theorem wfX3_init_12 : InT (.fieldLink (cnm 2) 10 (cnm 2) (clT 2 0).2.1 (clT 2 0).2.2.1) := ⟨by decide +kernel, rfl⟩
set_option maxRecDepth 100000 in
theorem wfX3_init_23 : InT (.fieldLink (cnm 2) 16 (cnm 2) (clT 2 1).2.1 (clT 2 1).2.2.1) := ⟨by decide +kernel, rfl⟩
set_option maxRecDepth 100000 in
theorem wfX3_init_28 : InT (.fieldLink (cnm 2) 19 (cnm 2) (clT 2 2).2.1 (clT 2 2).2.2.1) := ⟨by decide +kernel, rfl⟩
set_option maxRecDepth 100000 in
theorem wfX3_init_37 : InT (.fieldLink (cnm 2) 25 (cnm 2) (clT 2 3).2.1 (clT 2 3).2.2.1) := ⟨by decide +kernel, rfl⟩
set_option maxRecDepth 100000 in
theorem wfX3_init_46 : InT (.fieldLink (cnm 2) 29 (cnm 2) (clT 2 4).2.1 (clT 2 4).2.2.1) := ⟨by decide +kernel, rfl⟩
set_option maxRecDepth 100000 in
theorem wfX3_init_57 : InT (.fieldLink (cnm 2) 33 (cnm 2) (clT 2 5).2.1 (clT 2 5).2.2.1) := ⟨by decide +kernel, rfl⟩
set_option maxRecDepth 100000 in
theorem wfX3_init_68 : InT (.fieldLink (cnm 2) 36 (cnm 2) (clT 2 6).2.1 (clT 2 6).2.2.1) := ⟨by decide +kernel, rfl⟩
set_option maxRecDepth 100000 in
theorem wfX3_init_75 : InT (.fieldLink (cnm 2) 39 (cnm 2) (clT 2 7).2.1 (clT 2 7).2.2.1) := ⟨by decide +kernel, rfl⟩
set_option maxRecDepth 100000 in
theorem wfX3_init_82 : InT (.fieldLink (cnm 2) 43 (cnm 2) (clT 2 8).2.1 (clT 2 8).2.2.1) := ⟨by decide +kernel, rfl⟩
set_option maxRecDepth 100000 in
theorem wfX3_init_87 : InT (.fieldLink (cnm 2) 46 (cnm 2) (clT 2 9).2.1 (clT 2 9).2.2.1) := ⟨by decide +kernel, rfl⟩
set_option maxRecDepth 100000 in
theorem wx_b : InT (.classLink (cnm 2) 7 (cnm 0)) := ⟨by decide +kernel, rfl⟩
set_option maxRecDepth 100000 in
theorem wx_s : InT (.classLink (cnm 2) 23 (cnm 1)) := ⟨by decide +kernel, rfl⟩
set_option maxRecDepth 100000 in
theorem wx_nb : InT (.instantiable (cnm 0) (nfl 0)) := ⟨by decide +kernel, rfl⟩
set_option maxRecDepth 100000 in
theorem wx_ns : InT (.instantiable (cnm 1) (nfl 1)) := ⟨by decide +kernel, rfl⟩
set_option maxRecDepth 100000 in
theorem wx_ib : InT (.initialized (cnm 0)) := ⟨by decide +kernel, rfl⟩
set_option maxRecDepth 100000 in
theorem wx_is : InT (.initialized (cnm 1)) := ⟨by decide +kernel, rfl⟩
set_option maxRecDepth 100000 in
theorem wx_b1 : InT (.initialized yX0_init.cls) := ⟨by decide +kernel, rfl⟩
set_option maxRecDepth 100000 in
theorem wx_b2 : InT (.methodLink (cnm 2) 9 yX0_init) := ⟨by decide +kernel, rfl⟩
set_option maxRecDepth 100000 in
theorem wx_b3 : InT (.instanceMethod yX0_init) := ⟨by decide +kernel, rfl⟩
set_option maxRecDepth 100000 in
theorem wx_b4 : InT (.code yX0_init cX0_init 1 none) := ⟨by decide +kernel, rfl⟩
set_option maxRecDepth 100000 in
theorem wx_s1 : InT (.initialized yX2_init.cls) := ⟨by decide +kernel, rfl⟩
set_option maxRecDepth 100000 in
theorem wx_s3 : InT (.instanceMethod yX2_init) := ⟨by decide +kernel, rfl⟩
set_option maxRecDepth 100000 in
theorem wx_s4 : InT (.code yX2_init cX2_init 1 none) := ⟨by decide +kernel, rfl⟩
set_option maxRecDepth 100000 in
theorem wgX3_init_99 : InT (.fieldLink (cnm 2) 25 (cnm 2) (clT 2 3).2.1 (clT 2 3).2.2.1) := ⟨by decide +kernel, rfl⟩
set_option maxRecDepth 100000 in
theorem wgX3_init_126 : InT (.fieldLink (cnm 2) 29 (cnm 2) (clT 2 4).2.1 (clT 2 4).2.2.1) := ⟨by decide +kernel, rfl⟩
def fL (LS : List (Nat × (Nat → Nat))) : Nat → Option Nat := fun j => (LS[j]?).map (fun q => q.1)
theorem fL_up {LS : List (Nat × (Nat → Nat))} {v : Nat} {u : Nat → Nat} : va_up (fL LS) LS.length (some v) = fL (LS ++ [(v, u)]) := by
  funext j
  unfold va_up fL
  by_cases h : j = LS.length
  · subst h
    rw [if_pos rfl, List.getElem?_append_right (Nat.le_refl _), Nat.sub_self]; rfl
  · rw [if_neg h]
    by_cases h2 : j < LS.length
    · rw [List.getElem?_append_left h2]
    · rw [List.getElem?_append_right (by omega), List.getElem?_eq_none (by omega), List.getElem?_eq_none (by simp; omega)]
def eS (cI : ClassId) (LS : List (Nat × (Nat → Nat))) : va_W := LS.flatMap fun q => uS cI q.1 q.2
def eB (cI : ClassId) (LB : List (Nat × (Nat → Nat))) : va_W := LB.flatMap fun q => uB cI q.1 q.2
theorem eS_app {cI : ClassId} {LS : List (Nat × (Nat → Nat))} {v : Nat} {u : Nat → Nat} : eS cI (LS ++ [(v, u)]) = eS cI LS ++ uS cI v u := by unfold eS; rw [List.flatMap_append]; simp
theorem eB_app {cI : ClassId} {LB : List (Nat × (Nat → Nat))} {v : Nat} {u : Nat → Nat} : eB cI (LB ++ [(v, u)]) = eB cI LB ++ uB cI v u := by unfold eB; rw [List.flatMap_append]; simp
abbrev aQ (cQ : ClassId) (f : Nat → Option Nat) : va_E := .inl (cQ, 8, .inr (.inr (.inr (.inr f))))
def w3f (b n : Nat → Nat) : List Value := [.ref (b 0), .ref (b 1), .int (I 0), .ref (n 0), .ref (n 1), .ref (b 2), .ref (b 3), .ref (n 2), .ref (n 3), .int (I 0)]
def w3t (cI cS cB : ClassId) (b : Nat → Nat) (ub : Nat → Nat → Nat) (n : Nat → Nat) (fS fB : Nat → Option Nat) : va_W := ((((((uB cI (b 0) (ub 0) ++ uB cI (b 1) (ub 1)) ++ [(n 0, aQ cS fS)]) ++ [(n 1, aQ cB fB)]) ++ uB cI (b 2) (ub 2)) ++ uB cI (b 3) (ub 3)) ++ [(n 2, .inl (cI, 4, .inl zI))]) ++ [(n 3, .inl (cI, 4, .inl zI))]
section YQ
variable {p : Program} {l : Launch} {e : Env} {R : Room} {s : State} {m : MethodId} {args : Array Value} {below : List Frame} {meth : Method} {c : Code} {cells slots : Nat} {Q : State → Prop} {cc : ByteArray} {own nL : Nat} {D : va_G} {cI cS cB : ClassId} {A : Nat → Prop} {H : Heap} {locs : List Loc} {ws : va_W} {pc : Nat} {ls : Array Slot} {rest : List Value}
theorem y_newq (hF : Fk p s m args c cc own nL D cI cS cB) (hA : ∀ q, s.heap.size ≤ q → A q) (hY : Yw D A s ws H locs) {idx : Nat} {C : String} {cQ : ClassId} (t0 : Nat) (ht0 : t0 < 3) (ht : (tysA cI cS cB)[t0]? = some (cQ, .object C)) (hover : va_AO C s) (hcl : InT (.classLink (cnm own) idx C)) (hc : cells + 1 ≤ R.cells) (hs : slots + 8 ≤ R.slots) (hd : decode cc pc = .ok (.anewarray idx, 3))
    (kk : ∀ (q : Nat) (H1 : Heap), Yw D A s (ws ++ [(q, aQ cQ (fun _ => none))]) H1 locs → W p l e R s m args below meth c H1 locs (cells + 1) (slots + 8) Q (F0 m (pc + 3) ls (.ref q :: rest))) : W p l e R s m args below meth c H locs cells slots Q (F0 m pc ls (.int (I 8) :: rest)) := by
  obtain ⟨hx, hb, hml, hown, hts, hK, hAO⟩ := hF
  refine va_newq (N' := 8) hx hb hown (hts _ (WSg_in hcl)) hover hK hY.1 hY.2.1 hY.2.2 hA (by decide) (by decide) (by decide) hc hs hd (fun q cA H1 hK1 hP1 hD1 hS1 => ?_)
  have e1 := (hK1.2 3 (cA, .object C) rfl).2
  have e2 := (hK.2 t0 (cQ, .object C) ht).2
  obtain ⟨kA, comp, -, -, -, f1⟩ := e1
  obtain ⟨kA', comp', -, -, -, f2⟩ := e2
  obtain rfl : cA = cQ := Option.some.inj (f1.symm.trans f2)
  exact kk q H1 ⟨hP1, hD1, hS1⟩
theorem y_astq (hF : Fk p s m args c cc own nL D cI cS cB) (hY : Yw D A s ws H locs) {a v ci : Nat} {cQ : ClassId} {f : Nat → Option Nat} {vs : List Value} (q0 qk t0 : Nat) (hci : ci < 3) (ha : ws[q0]? = some (a, aQ cQ f)) (ht : (tysA cI cS cB)[t0]? = some (cQ, .object (cnm ci))) (hv : ws[qk]? = some (v, .inr (ci, vs))) {i : Nat} (hi : i < 8) (hd : decode cc pc = .ok (.aastore, 1))
    (kk : ∀ (H1 : Heap) (locs1 : List Loc), Yw D A s (ws.set q0 (a, aQ cQ (va_up f i (some v)))) H1 locs1 → W p l e R s m args below meth c H1 locs1 cells slots Q (F0 m (pc + 1) ls rest)) : W p l e R s m args below meth c H locs cells slots Q (F0 m pc ls (.ref v :: .int (I (i : Int)) :: .ref a :: rest)) := by
  obtain ⟨hx, hb, hml, hown, hts, hK, hAO⟩ := hF
  have e1 : (I (i : Int)).toNatClampNeg = i := by rw [I_nat (by omega) (by omega)]; omega
  refine va_astq (r := (cnm ci, clT ci, nfl ci)) hx hb hK hY.1 hY.2.1 hY.2.2 q0 t0 qk ci ha ht hv (cl_at hci) (I_vp (n := 8) (by omega) (by omega) (by omega)) hd (fun H1 locs1 hP hD hS => kk H1 locs1 ?_)
  rw [e1] at hP hD
  exact ⟨hP, hD, hS⟩
end YQ
theorem W.eqn {p : Program} {l : Launch} {e : Env} {R : Room} {s : State} {m : MethodId} {args : Array Value} {below : List Frame} {meth : Method} {c : Code} {Q : State → Prop} {H : Heap} {locs : List Loc} {k n k' n' : Nat} {g : JFrame} (hk : k' = k) (hn : n' = n) (h : W p l e R s m args below meth c H locs k n Q g) : W p l e R s m args below meth c H locs k' n' Q g := by rw [hk, hn]; exact h
section X3L
variable {p : Program} {l : Launch} {e : Env} {R : Room} {s : State} {m : MethodId} {args : Array Value} {below : List Frame} {meth : Method} {c : Code} {Q : State → Prop} {D : va_G} {cI cS cB : ClassId} {A : Nat → Prop} {a : Nat} {b n : Nat → Nat} {ub : Nat → Nat → Nat}
set_option maxRecDepth 10000 in
set_option maxHeartbeats 4000000 in
theorem x3_loop1 (hF : Fk p s m args c cX3_init 2 2 D cI cS cB) (hA : ∀ q, s.heap.size ≤ q → A q) (hR : 8 ≤ R.frames ∧ 300 ≤ R.locals ∧ 92 ≤ R.cells ∧ 1892 ≤ R.slots)
    (kk : ∀ (LS : List (Nat × (Nat → Nat))) (H : Heap) (locs : List Loc) (ls : Array Slot), LS.length = 8 → Yw D A s ((a, .inr (2, w3f b n)) :: (w3t cI cS cB b ub n (fL LS) (fun _ => none) ++ eS cI LS)) H locs → lv_has ls 2 [(1, .int (I 8)), (0, .ref a)] → W p l e R s m args below meth c H locs 44 1212 Q (F0 m 117 ls [])) :
    ∀ (g : Nat) (LS : List (Nat × (Nat → Nat))) (H : Heap) (locs : List Loc) (ls : Array Slot), LS.length ≤ 8 → 8 - LS.length ≤ g → Yw D A s ((a, .inr (2, w3f b n)) :: (w3t cI cS cB b ub n (fL LS) (fun _ => none) ++ eS cI LS)) H locs → lv_has ls 2 [(1, .int (I (LS.length : Int))), (0, .ref a)] → W p l e R s m args below meth c H locs (28 + 2 * LS.length) (364 + 106 * LS.length) Q (F0 m 92 ls [])
  | g, LS, H, locs, ls, h8, hg, hY, hl => by
    have hx := hF.1
    have hb := hF.2.1
    refine lv_iload_n hx hb dX3_init_92 rfl (lv_at hl 0 rfl) ?_
    refine lv_bipush (v := I 8) hx hb dX3_init_93 (by decide) ?_
    refine lv_icmp_ge (tgt := 117) hx hb dX3_init_95 rfl (fun hc => ?_) (fun hc => ?_)
    · rw [I_le ⟨by omega, by omega⟩ ⟨by omega, by omega⟩] at hc
      have e8 : LS.length = 8 := by omega
      rw [e8] at hl ⊢
      exact kk LS H locs ls e8 hY hl
    · rw [I_le ⟨by omega, by omega⟩ ⟨by omega, by omega⟩] at hc
      refine lv_aload_n hx hb dX3_init_98 rfl (lv_at hl 1 rfl) ?_
      refine sn_getY hF hY (k := 3) (by decide) wgX3_init_99 rfl dX3_init_99 ?_
      refine lv_iload_n hx hb dX3_init_102 rfl (lv_at hl 0 rfl) ?_
      refine y_new hF hA hY 1 (by decide) dfl1_ok wx_s wx_ns wx_is (by omega) (by show _ + 6 ≤ _; omega) dX3_init_103 (fun q H1 hY1 => ?_)
      refine lv_dup hx hb dX3_init_106 rfl ?_
      refine y_initN hF hA hY1 (m_X2_init l D cI cS cB) rfl rfl wx_s1 hF.2.2.2.2.2.2.2.2 wx_s3 wx_s4 rfl ⟨by decide +kernel, by decide +kernel, by decide +kernel⟩ ⟨by show 4 + 1 ≤ _; omega, by show 8 + (1 + 11) + 100 ≤ _; omega⟩ ⟨by omega, by show _ + 6 + 100 ≤ _; omega⟩ hl.1 (Nat.le_of_ble_eq_true rfl) dX3_init_107 (fun w1 H2 locs2 hw1 hY2 => ?_)
      obtain ⟨u, rfl⟩ := hw1
      refine y_astq hF hY2 (ci := 1) (i := LS.length) 13 ((a, Sum.inr (2, w3f b n)) :: (w3t cI cS cB b ub n (fL LS) (fun _ => none) ++ eS cI LS)).length 1 (by decide) rfl rfl (by rw [List.getElem?_append_right (Nat.le_refl _), Nat.sub_self]; rfl) (by omega) dX3_init_110 (fun H3 locs3 hY3 => ?_)
      rw [fL_up (u := u)] at hY3
      have hY4 : Yw D A s ((a, .inr (2, w3f b n)) :: (w3t cI cS cB b ub n (fL (LS ++ [(q, u)])) (fun _ => none) ++ eS cI (LS ++ [(q, u)]))) H3 locs3 := by
        rw [eS_app]; exact hY3
      have el : (LS ++ [(q, u)]).length = LS.length + 1 := by simp
      refine lv_iinc (k := 0) (v := I (((LS ++ [(q, u)]).length : Nat) : Int)) hx hb dX3_init_111 hl rfl (by rw [el]; show I _ + I 1 = _; rw [I_add]; rfl) (by decide) rfl (fun ls1 hl1 => ?_)
      refine lv_goto (tgt := 92) hx hb dX3_init_114 rfl ?_
      match g, hg with
      | 0, hg => omega
      | g + 1, hg =>
        refine W.eqn ?_ ?_ (x3_loop1 hF hA hR kk g (LS ++ [(q, u)]) H3 locs3 ls1 (by omega) (by omega) hY4 hl1)
        · rw [el]; omega
        · rw [el]; show _ + 6 + 100 = _; omega
set_option maxRecDepth 10000 in
set_option maxHeartbeats 4000000 in
theorem x3_loop2 (hF : Fk p s m args c cX3_init 2 2 D cI cS cB) (hA : ∀ q, s.heap.size ≤ q → A q) (hR : 8 ≤ R.frames ∧ 300 ≤ R.locals ∧ 92 ≤ R.cells ∧ 1892 ≤ R.slots) {LS : List (Nat × (Nat → Nat))}
    (kk : ∀ (LB : List (Nat × (Nat → Nat))) (H : Heap) (locs : List Loc) (ls : Array Slot), LB.length = 8 → Yw D A s ((a, .inr (2, w3f b n)) :: (w3t cI cS cB b ub n (fL LS) (fL LB) ++ (eS cI LS ++ eB cI LB))) H locs → W p l e R s m args below meth c H locs 92 1892 Q (F0 m 144 ls [])) :
    ∀ (g : Nat) (LB : List (Nat × (Nat → Nat))) (H : Heap) (locs : List Loc) (ls : Array Slot), LB.length ≤ 8 → 8 - LB.length ≤ g → Yw D A s ((a, .inr (2, w3f b n)) :: (w3t cI cS cB b ub n (fL LS) (fL LB) ++ (eS cI LS ++ eB cI LB))) H locs → lv_has ls 2 [(1, .int (I (LB.length : Int))), (0, .ref a)] → W p l e R s m args below meth c H locs (44 + 6 * LB.length) (1212 + 85 * LB.length) Q (F0 m 119 ls [])
  | g, LB, H, locs, ls, h8, hg, hY, hl => by
    have hx := hF.1
    have hb := hF.2.1
    refine lv_iload_n hx hb dX3_init_119 rfl (lv_at hl 0 rfl) ?_
    refine lv_bipush (v := I 7) hx hb dX3_init_120 (by decide) ?_
    refine lv_icmp_gt (tgt := 144) hx hb dX3_init_122 rfl (fun hc => ?_) (fun hc => ?_)
    · rw [I_lt ⟨by omega, by omega⟩ ⟨by omega, by omega⟩] at hc
      have e8 : LB.length = 8 := by omega
      rw [e8]
      exact kk LB H locs ls e8 hY
    · rw [I_lt ⟨by omega, by omega⟩ ⟨by omega, by omega⟩] at hc
      refine lv_aload_n hx hb dX3_init_125 rfl (lv_at hl 1 rfl) ?_
      refine sn_getY hF hY (k := 4) (by decide) wgX3_init_126 rfl dX3_init_126 ?_
      refine lv_iload_n hx hb dX3_init_129 rfl (lv_at hl 0 rfl) ?_
      refine y_new hF hA hY 0 (by decide) dfl0_ok wx_b wx_nb wx_ib (by omega) (by show _ + 9 ≤ _; omega) dX3_init_130 (fun q H1 hY1 => ?_)
      refine lv_dup hx hb dX3_init_133 rfl ?_
      refine y_init hF hA hY1 (m_X0_init l D cI cS cB) rfl rfl wx_b1 wx_b2 wx_b3 wx_b4 rfl ⟨by decide +kernel, by decide +kernel, by decide +kernel⟩ ⟨by show 4 + 1 ≤ _; omega, by show 8 + (1 + 11) + 100 ≤ _; omega⟩ ⟨by omega, by show _ + 9 + 76 ≤ _; omega⟩ hl.1 (Nat.le_of_ble_eq_true rfl) dX3_init_134 (fun w1 H2 locs2 hw1 hY2 => ?_)
      obtain ⟨u, rfl⟩ := hw1
      refine y_astq hF hY2 (ci := 0) (i := LB.length) 14 ((a, Sum.inr (2, w3f b n)) :: (w3t cI cS cB b ub n (fL LS) (fL LB) ++ (eS cI LS ++ eB cI LB))).length 2 (by decide) rfl rfl (by rw [List.getElem?_append_right (Nat.le_refl _), Nat.sub_self]; rfl) (by omega) dX3_init_137 (fun H3 locs3 hY3 => ?_)
      rw [fL_up (u := u)] at hY3
      have hY4 : Yw D A s ((a, .inr (2, w3f b n)) :: (w3t cI cS cB b ub n (fL LS) (fL (LB ++ [(q, u)])) ++ (eS cI LS ++ eB cI (LB ++ [(q, u)])))) H3 locs3 := by
        rw [eB_app, ← List.append_assoc (eS cI LS)]; exact hY3
      have el : (LB ++ [(q, u)]).length = LB.length + 1 := by simp
      refine lv_iinc (k := 0) (v := I (((LB ++ [(q, u)]).length : Nat) : Int)) hx hb dX3_init_138 hl rfl (by rw [el]; show I _ + I 1 = _; rw [I_add]; rfl) (by decide) rfl (fun ls1 hl1 => ?_)
      refine lv_goto (tgt := 119) hx hb dX3_init_141 rfl ?_
      match g, hg with
      | 0, hg => omega
      | g + 1, hg =>
        refine W.eqn ?_ ?_ (x3_loop2 hF hA hR kk g (LB ++ [(q, u)]) H3 locs3 ls1 (by omega) (by omega) hY4 hl1)
        · rw [el]; omega
        · rw [el]; show _ + 9 + 76 = _; omega
end X3L
