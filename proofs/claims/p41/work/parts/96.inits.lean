/-! THE CONSTRUCTORS of a board, a shelf, the reference: by program (wip/p41/gen96.py) -/
section GY
variable {p : Program} {l : Launch} {e : Env} {R : Room} {s : State} {m : MethodId} {args : Array Value} {below : List Frame} {meth : Method} {c : Code} {cells slots : Nat} {Q : State → Prop} {cc : ByteArray} {own nL : Nat} {D : va_G} {cI cS cB : ClassId} {A : Nat → Prop} {H : Heap} {locs : List Loc} {ws : va_W} {pc : Nat} {ls : Array Slot} {rest : List Value}
theorem sn_getY (hF : Fk p s m args c cc own nL D cI cS cB) {a ci : Nat} {fs : List Value} (hY : Yw D A s ((a, .inr (ci, fs)) :: ws) H locs) {idx k : Nat} (hk : k < nfl ci) (hl : InT (.fieldLink (cnm own) idx (cnm ci) (clT ci k).2.1 (clT ci k).2.2.1)) {v : Value} (hv : fs[k]? = some v) (hd : decode cc pc = .ok (.getfield idx, 3)) (kk : W p l e R s m args below meth c H locs cells slots Q (F0 m (pc + 3) ls (v :: rest))) : W p l e R s m args below meth c H locs cells slots Q (F0 m pc ls (.ref a :: rest)) := by
  obtain ⟨hx, hb, hml, hown, hts, hK, hAO⟩ := hF
  have hci := nfl_lt hk
  exact va_get (D := D) (ci := ci) (v := v) (C := cnm ci) (T := clT ci) (N := nfl ci) hx hb hts (cl_in hci) hown hK hY.1 0 rfl (cl_at hci) k hk (hts _ (WSg_in hl)) (fun x h9 => by rw [cl_cls hk] at h9; exact h9) hv hd kk
end GY
set_option maxRecDepth 100000 in
theorem wo_i : InT (.instanceMethod Jvm.Lib.objectInit) := ⟨by decide +kernel, rfl⟩
set_option maxRecDepth 100000 in
theorem wo_c : InT (.code Jvm.Lib.objectInit { data := #[177] } 1 none) := ⟨by decide +kernel, rfl⟩
set_option maxRecDepth 100000 in
theorem woX0_init : InT (.methodLink yX0_init.cls 3 Jvm.Lib.objectInit) := ⟨by decide +kernel, rfl⟩
set_option maxRecDepth 100000 in
theorem woX2_init : InT (.methodLink yX2_init.cls 3 Jvm.Lib.objectInit) := ⟨by decide +kernel, rfl⟩
set_option maxRecDepth 100000 in
theorem woX3_init : InT (.methodLink yX3_init.cls 1 Jvm.Lib.objectInit) := ⟨by decide +kernel, rfl⟩
def dfl0 : List Value := [.null, .null, .null, .null, .null, .int 0, .int 0, .int 0, .int 0]
theorem dfl0_ok : ∀ j, j < nfl 0 → defaultValue (tyA 0 j) = vp_V dfl0 j := by
  intro j hj
  have hj : j < 9 := hj
  rcases (show j = 0 ∨ j = 1 ∨ j = 2 ∨ j = 3 ∨ j = 4 ∨ j = 5 ∨ j = 6 ∨ j = 7 ∨ j = 8 by omega) with rfl | rfl | rfl | rfl | rfl | rfl | rfl | rfl | rfl <;> rfl
def dfl1 : List Value := [.int 0, .int 0, .int 0, .int 0, .int 0, .null]
theorem dfl1_ok : ∀ j, j < nfl 1 → defaultValue (tyA 1 j) = vp_V dfl1 j := by
  intro j hj
  have hj : j < 6 := hj
  rcases (show j = 0 ∨ j = 1 ∨ j = 2 ∨ j = 3 ∨ j = 4 ∨ j = 5 by omega) with rfl | rfl | rfl | rfl | rfl | rfl <;> rfl
def dfl2 : List Value := [.null, .null, .int 0, .null, .null, .null, .null, .null, .null, .int 0]
theorem dfl2_ok : ∀ j, j < nfl 2 → defaultValue (tyA 2 j) = vp_V dfl2 j := by
  intro j hj
  have hj : j < 10 := hj
  rcases (show j = 0 ∨ j = 1 ∨ j = 2 ∨ j = 3 ∨ j = 4 ∨ j = 5 ∨ j = 6 ∨ j = 7 ∨ j = 8 ∨ j = 9 by omega) with rfl | rfl | rfl | rfl | rfl | rfl | rfl | rfl | rfl | rfl <;> rfl
set_option maxRecDepth 100000 in
theorem w_lX0_init : InT (.methodLink (cnm 0) 40 yJ7_fill_53178) := ⟨by decide +kernel, rfl⟩
set_option maxRecDepth 100000 in
theorem wgX0_init_65 : InT (.fieldLink (cnm 0) 24 (cnm 0) (clT 0 4).2.1 (clT 0 4).2.2.1) := ⟨by decide +kernel, rfl⟩
def uB (cI : ClassId) (a : Nat) (u : Nat → Nat) : va_W := [(a, .inr (0, [.ref (u 0), .ref (u 1), .ref (u 2), .ref (u 3), .ref (u 4), .int (I 0), .int (I 0), .int (I 0), .int (I 0)])), (u 0, .inl (cI, 10, .inl zI)), (u 1, .inl (cI, 10, .inl zI)), (u 2, .inl (cI, 10, .inl zI)), (u 3, .inl (cI, 10, .inl zI)), (u 4, .inl (cI, 36, .inl (fll 36 (I (-4)) zI)))]
def uS (cI : ClassId) (a : Nat) (u : Nat → Nat) : va_W := [(a, .inr (1, [.int (I 0), .int (I 0), .int (I 0), .int (I 0), .int (I 0), .ref (u 0)])), (u 0, .inl (cI, 100, .inl zI))]
theorem dX0_init_0 : decode cX0_init 0 = .ok (.aload_n 0, 1) := by decide +kernel
theorem dX0_init_1 : decode cX0_init 1 = .ok (.invokespecial 3, 3) := by decide +kernel
theorem dX0_init_4 : decode cX0_init 4 = .ok (.aload_n 0, 1) := by decide +kernel
theorem dX0_init_5 : decode cX0_init 5 = .ok (.bipush 10, 2) := by decide +kernel
theorem dX0_init_7 : decode cX0_init 7 = .ok (.newarray .int, 2) := by decide +kernel
theorem dX0_init_9 : decode cX0_init 9 = .ok (.putfield 9, 3) := by decide +kernel
theorem dX0_init_12 : decode cX0_init 12 = .ok (.aload_n 0, 1) := by decide +kernel
theorem dX0_init_13 : decode cX0_init 13 = .ok (.bipush 10, 2) := by decide +kernel
theorem dX0_init_15 : decode cX0_init 15 = .ok (.newarray .int, 2) := by decide +kernel
theorem dX0_init_17 : decode cX0_init 17 = .ok (.putfield 15, 3) := by decide +kernel
theorem dX0_init_20 : decode cX0_init 20 = .ok (.aload_n 0, 1) := by decide +kernel
theorem dX0_init_21 : decode cX0_init 21 = .ok (.bipush 10, 2) := by decide +kernel
theorem dX0_init_23 : decode cX0_init 23 = .ok (.newarray .int, 2) := by decide +kernel
theorem dX0_init_25 : decode cX0_init 25 = .ok (.putfield 18, 3) := by decide +kernel
theorem dX0_init_28 : decode cX0_init 28 = .ok (.aload_n 0, 1) := by decide +kernel
theorem dX0_init_29 : decode cX0_init 29 = .ok (.bipush 10, 2) := by decide +kernel
theorem dX0_init_31 : decode cX0_init 31 = .ok (.newarray .int, 2) := by decide +kernel
theorem dX0_init_33 : decode cX0_init 33 = .ok (.putfield 21, 3) := by decide +kernel
theorem dX0_init_36 : decode cX0_init 36 = .ok (.aload_n 0, 1) := by decide +kernel
theorem dX0_init_37 : decode cX0_init 37 = .ok (.bipush 36, 2) := by decide +kernel
theorem dX0_init_39 : decode cX0_init 39 = .ok (.newarray .int, 2) := by decide +kernel
theorem dX0_init_41 : decode cX0_init 41 = .ok (.putfield 24, 3) := by decide +kernel
theorem dX0_init_44 : decode cX0_init 44 = .ok (.aload_n 0, 1) := by decide +kernel
theorem dX0_init_45 : decode cX0_init 45 = .ok (.iconst 0, 1) := by decide +kernel
theorem dX0_init_46 : decode cX0_init 46 = .ok (.putfield 27, 3) := by decide +kernel
theorem dX0_init_49 : decode cX0_init 49 = .ok (.aload_n 0, 1) := by decide +kernel
theorem dX0_init_50 : decode cX0_init 50 = .ok (.iconst 0, 1) := by decide +kernel
theorem dX0_init_51 : decode cX0_init 51 = .ok (.putfield 31, 3) := by decide +kernel
theorem dX0_init_54 : decode cX0_init 54 = .ok (.aload_n 0, 1) := by decide +kernel
theorem dX0_init_55 : decode cX0_init 55 = .ok (.iconst 0, 1) := by decide +kernel
theorem dX0_init_56 : decode cX0_init 56 = .ok (.putfield 34, 3) := by decide +kernel
theorem dX0_init_59 : decode cX0_init 59 = .ok (.aload_n 0, 1) := by decide +kernel
theorem dX0_init_60 : decode cX0_init 60 = .ok (.iconst 0, 1) := by decide +kernel
theorem dX0_init_61 : decode cX0_init 61 = .ok (.putfield 37, 3) := by decide +kernel
theorem dX0_init_64 : decode cX0_init 64 = .ok (.aload_n 0, 1) := by decide +kernel
theorem dX0_init_65 : decode cX0_init 65 = .ok (.getfield 24, 3) := by decide +kernel
theorem dX0_init_68 : decode cX0_init 68 = .ok (.bipush (-4), 2) := by decide +kernel
theorem dX0_init_70 : decode cX0_init 70 = .ok (.invokestatic 40, 3) := by decide +kernel
theorem dX0_init_73 : decode cX0_init 73 = .ok (.return_, 1) := by decide +kernel
set_option maxRecDepth 100000 in
theorem wfX0_init_9 : InT (.fieldLink (cnm 0) 9 (cnm 0) (clT 0 0).2.1 (clT 0 0).2.2.1) := ⟨by decide +kernel, rfl⟩
set_option maxRecDepth 100000 in
theorem wfX0_init_17 : InT (.fieldLink (cnm 0) 15 (cnm 0) (clT 0 1).2.1 (clT 0 1).2.2.1) := ⟨by decide +kernel, rfl⟩
set_option maxRecDepth 100000 in
theorem wfX0_init_25 : InT (.fieldLink (cnm 0) 18 (cnm 0) (clT 0 2).2.1 (clT 0 2).2.2.1) := ⟨by decide +kernel, rfl⟩
set_option maxRecDepth 100000 in
theorem wfX0_init_33 : InT (.fieldLink (cnm 0) 21 (cnm 0) (clT 0 3).2.1 (clT 0 3).2.2.1) := ⟨by decide +kernel, rfl⟩
set_option maxRecDepth 100000 in
theorem wfX0_init_41 : InT (.fieldLink (cnm 0) 24 (cnm 0) (clT 0 4).2.1 (clT 0 4).2.2.1) := ⟨by decide +kernel, rfl⟩
set_option maxRecDepth 100000 in
theorem wfX0_init_46 : InT (.fieldLink (cnm 0) 27 (cnm 0) (clT 0 5).2.1 (clT 0 5).2.2.1) := ⟨by decide +kernel, rfl⟩
set_option maxRecDepth 100000 in
theorem wfX0_init_51 : InT (.fieldLink (cnm 0) 31 (cnm 0) (clT 0 6).2.1 (clT 0 6).2.2.1) := ⟨by decide +kernel, rfl⟩
set_option maxRecDepth 100000 in
theorem wfX0_init_56 : InT (.fieldLink (cnm 0) 34 (cnm 0) (clT 0 7).2.1 (clT 0 7).2.2.1) := ⟨by decide +kernel, rfl⟩
set_option maxRecDepth 100000 in
theorem wfX0_init_61 : InT (.fieldLink (cnm 0) 37 (cnm 0) (clT 0 8).2.1 (clT 0 8).2.2.1) := ⟨by decide +kernel, rfl⟩
theorem dX2_init_0 : decode cX2_init 0 = .ok (.aload_n 0, 1) := by decide +kernel
theorem dX2_init_1 : decode cX2_init 1 = .ok (.invokespecial 3, 3) := by decide +kernel
theorem dX2_init_4 : decode cX2_init 4 = .ok (.aload_n 0, 1) := by decide +kernel
theorem dX2_init_5 : decode cX2_init 5 = .ok (.iconst 0, 1) := by decide +kernel
theorem dX2_init_6 : decode cX2_init 6 = .ok (.putfield 9, 3) := by decide +kernel
theorem dX2_init_9 : decode cX2_init 9 = .ok (.aload_n 0, 1) := by decide +kernel
theorem dX2_init_10 : decode cX2_init 10 = .ok (.iconst 0, 1) := by decide +kernel
theorem dX2_init_11 : decode cX2_init 11 = .ok (.putfield 15, 3) := by decide +kernel
theorem dX2_init_14 : decode cX2_init 14 = .ok (.aload_n 0, 1) := by decide +kernel
theorem dX2_init_15 : decode cX2_init 15 = .ok (.iconst 0, 1) := by decide +kernel
theorem dX2_init_16 : decode cX2_init 16 = .ok (.putfield 18, 3) := by decide +kernel
theorem dX2_init_19 : decode cX2_init 19 = .ok (.aload_n 0, 1) := by decide +kernel
theorem dX2_init_20 : decode cX2_init 20 = .ok (.iconst 0, 1) := by decide +kernel
theorem dX2_init_21 : decode cX2_init 21 = .ok (.putfield 21, 3) := by decide +kernel
theorem dX2_init_24 : decode cX2_init 24 = .ok (.aload_n 0, 1) := by decide +kernel
theorem dX2_init_25 : decode cX2_init 25 = .ok (.iconst 0, 1) := by decide +kernel
theorem dX2_init_26 : decode cX2_init 26 = .ok (.putfield 24, 3) := by decide +kernel
theorem dX2_init_29 : decode cX2_init 29 = .ok (.aload_n 0, 1) := by decide +kernel
theorem dX2_init_30 : decode cX2_init 30 = .ok (.bipush 100, 2) := by decide +kernel
theorem dX2_init_32 : decode cX2_init 32 = .ok (.newarray .int, 2) := by decide +kernel
theorem dX2_init_34 : decode cX2_init 34 = .ok (.putfield 27, 3) := by decide +kernel
theorem dX2_init_37 : decode cX2_init 37 = .ok (.return_, 1) := by decide +kernel
set_option maxRecDepth 100000 in
theorem wfX2_init_6 : InT (.fieldLink (cnm 1) 9 (cnm 1) (clT 1 0).2.1 (clT 1 0).2.2.1) := ⟨by decide +kernel, rfl⟩
set_option maxRecDepth 100000 in
theorem wfX2_init_11 : InT (.fieldLink (cnm 1) 15 (cnm 1) (clT 1 1).2.1 (clT 1 1).2.2.1) := ⟨by decide +kernel, rfl⟩
set_option maxRecDepth 100000 in
theorem wfX2_init_16 : InT (.fieldLink (cnm 1) 18 (cnm 1) (clT 1 2).2.1 (clT 1 2).2.2.1) := ⟨by decide +kernel, rfl⟩
set_option maxRecDepth 100000 in
theorem wfX2_init_21 : InT (.fieldLink (cnm 1) 21 (cnm 1) (clT 1 3).2.1 (clT 1 3).2.2.1) := ⟨by decide +kernel, rfl⟩
set_option maxRecDepth 100000 in
theorem wfX2_init_26 : InT (.fieldLink (cnm 1) 24 (cnm 1) (clT 1 4).2.1 (clT 1 4).2.2.1) := ⟨by decide +kernel, rfl⟩
set_option maxRecDepth 100000 in
theorem wfX2_init_34 : InT (.fieldLink (cnm 1) 27 (cnm 1) (clT 1 5).2.1 (clT 1 5).2.2.1) := ⟨by decide +kernel, rfl⟩
def rmX0_init : Room := { frames := 4, cells := 5, slots := 76, locals := 100 }
def wcX0_init : List Jvm.Cond := .code yX0_init cX0_init 1 none :: WSg
set_option maxHeartbeats 4000000 in
set_option maxRecDepth 10000 in
theorem m_X0_init (l : Launch) (D : va_G) (cI cS cB : ClassId) : aCt l yX0_init wcX0_init rmX0_init D cI cS cB 0 dfl0 (fun a w1 => ∃ u, w1 = uB cI a u) 5 76 := by
  intro a sz
  refine Met.ofW (cc := cX0_init) (maxL := 1) (ret := none) (by decide +kernel) rfl ?_
  intro p e s m args below meth c s₁ B hml hv
  obtain ⟨rfl, hsz, hP, hK, hAO⟩ := hv
  subst hsz
  have hts := atoms_spec (ws := wcX0_init) B.pre
  have hown : s.vm.findClass yX0_init.cls = some m.cls := findClass_of_methodNamed B.named
  have hF : Fk p s m ([.ref a] : List Value).toArray c cX0_init 0 1 D cI cS cB := ⟨B.exec, B.bytes, hml, hown, fun w hw => hts w (List.mem_cons_of_mem _ hw), hK, hAO⟩
  have hx := B.exec
  have hb := B.bytes
  have hlocks := B.notSynchronized
  have hret := B.returns
  have hin : meth.name = "<init>" := (name_of_methodNamed B.named B.method).1
  have hA : ∀ q, s.heap.size ≤ q → va_A [(a, .inr (0, dfl0))] s.heap.size q := fun q hq => Or.inr hq
  have hY : Yw D (va_A [(a, .inr (0, dfl0))] s.heap.size) s [(a, .inr (0, dfl0))] s.heap [] := ⟨hP, va_D1 (va_A.in (k := 0) rfl), va_S.rf⟩
  have hl := lv_entry ([.ref a]) (n := 1) (Nat.le_of_ble_eq_true rfl)
  rw [lg_entry_eq]
  generalize (lg_sl ([.ref a]) ++ List.replicate (1 - (lg_sl ([.ref a])).length) Slot.unset).toArray = ls at hl ⊢
  have hl : lv_has ls 1 [(0, .ref a)] := hl
  refine lv_aload_n hx hb dX0_init_0 rfl (lv_at hl 0 rfl) ?_
  refine W.objInit hx hb hown (hts _ (List.mem_cons_of_mem _ (WSg_in woX0_init))) (hts _ (List.mem_cons_of_mem _ (WSg_in wo_i))) (hts _ (List.mem_cons_of_mem _ (WSg_in wo_c))) rfl (by rw [hml]; exact hl.1) rfl dX0_init_1 (Nat.le_of_ble_eq_true rfl) (Nat.le_of_ble_eq_true rfl) ?_
  refine W.eq (g2 := F0 m 4 ls []) rfl ?_
  refine lv_aload_n hx hb dX0_init_4 rfl (lv_at hl 0 rfl) ?_
  refine lv_bipush (v := I (10)) hx hb dX0_init_5 (by decide) ?_
  refine y_newi (D := D) (cI := cI) hF hA hY 10 (by omega) (by omega) rfl (Nat.le_of_ble_eq_true rfl) (Nat.le_of_ble_eq_true rfl) dX0_init_7 (fun q0 H hY => ?_)
  refine W.widen (k := 1) (n := 10) (Nat.le_refl _) (Nat.le_refl _) ?_
  have hY : Yw D _ s [(a, .inr (0, [.null, .null, .null, .null, .null, .int 0, .int 0, .int 0, .int 0])), (q0, .inl (cI, 10, .inl zI))] H _ := hY
  refine y_put hF hY (k := 0) (by decide) wfX0_init_9 (Or.inr ⟨rfl, hin, rfl⟩) rfl rfl (Nat.le_of_ble_eq_true rfl) dX0_init_9 (fun H locs hY => ?_)
  have hY : Yw D _ s [(a, .inr (0, [.ref q0, .null, .null, .null, .null, .int 0, .int 0, .int 0, .int 0])), (q0, .inl (cI, 10, .inl zI))] H locs := hY
  refine lv_aload_n hx hb dX0_init_12 rfl (lv_at hl 0 rfl) ?_
  refine lv_bipush (v := I (10)) hx hb dX0_init_13 (by decide) ?_
  refine y_newi (D := D) (cI := cI) hF hA hY 10 (by omega) (by omega) rfl (Nat.le_of_ble_eq_true rfl) (Nat.le_of_ble_eq_true rfl) dX0_init_15 (fun q1 H hY => ?_)
  refine W.widen (k := 2) (n := 20) (Nat.le_refl _) (Nat.le_refl _) ?_
  have hY : Yw D _ s [(a, .inr (0, [.ref q0, .null, .null, .null, .null, .int 0, .int 0, .int 0, .int 0])), (q0, .inl (cI, 10, .inl zI)), (q1, .inl (cI, 10, .inl zI))] H _ := hY
  refine y_put hF hY (k := 1) (by decide) wfX0_init_17 (Or.inr ⟨rfl, hin, rfl⟩) rfl rfl (Nat.le_of_ble_eq_true rfl) dX0_init_17 (fun H locs hY => ?_)
  have hY : Yw D _ s [(a, .inr (0, [.ref q0, .ref q1, .null, .null, .null, .int 0, .int 0, .int 0, .int 0])), (q0, .inl (cI, 10, .inl zI)), (q1, .inl (cI, 10, .inl zI))] H locs := hY
  refine lv_aload_n hx hb dX0_init_20 rfl (lv_at hl 0 rfl) ?_
  refine lv_bipush (v := I (10)) hx hb dX0_init_21 (by decide) ?_
  refine y_newi (D := D) (cI := cI) hF hA hY 10 (by omega) (by omega) rfl (Nat.le_of_ble_eq_true rfl) (Nat.le_of_ble_eq_true rfl) dX0_init_23 (fun q2 H hY => ?_)
  refine W.widen (k := 3) (n := 30) (Nat.le_refl _) (Nat.le_refl _) ?_
  have hY : Yw D _ s [(a, .inr (0, [.ref q0, .ref q1, .null, .null, .null, .int 0, .int 0, .int 0, .int 0])), (q0, .inl (cI, 10, .inl zI)), (q1, .inl (cI, 10, .inl zI)), (q2, .inl (cI, 10, .inl zI))] H _ := hY
  refine y_put hF hY (k := 2) (by decide) wfX0_init_25 (Or.inr ⟨rfl, hin, rfl⟩) rfl rfl (Nat.le_of_ble_eq_true rfl) dX0_init_25 (fun H locs hY => ?_)
  have hY : Yw D _ s [(a, .inr (0, [.ref q0, .ref q1, .ref q2, .null, .null, .int 0, .int 0, .int 0, .int 0])), (q0, .inl (cI, 10, .inl zI)), (q1, .inl (cI, 10, .inl zI)), (q2, .inl (cI, 10, .inl zI))] H locs := hY
  refine lv_aload_n hx hb dX0_init_28 rfl (lv_at hl 0 rfl) ?_
  refine lv_bipush (v := I (10)) hx hb dX0_init_29 (by decide) ?_
  refine y_newi (D := D) (cI := cI) hF hA hY 10 (by omega) (by omega) rfl (Nat.le_of_ble_eq_true rfl) (Nat.le_of_ble_eq_true rfl) dX0_init_31 (fun q3 H hY => ?_)
  refine W.widen (k := 4) (n := 40) (Nat.le_refl _) (Nat.le_refl _) ?_
  have hY : Yw D _ s [(a, .inr (0, [.ref q0, .ref q1, .ref q2, .null, .null, .int 0, .int 0, .int 0, .int 0])), (q0, .inl (cI, 10, .inl zI)), (q1, .inl (cI, 10, .inl zI)), (q2, .inl (cI, 10, .inl zI)), (q3, .inl (cI, 10, .inl zI))] H _ := hY
  refine y_put hF hY (k := 3) (by decide) wfX0_init_33 (Or.inr ⟨rfl, hin, rfl⟩) rfl rfl (Nat.le_of_ble_eq_true rfl) dX0_init_33 (fun H locs hY => ?_)
  have hY : Yw D _ s [(a, .inr (0, [.ref q0, .ref q1, .ref q2, .ref q3, .null, .int 0, .int 0, .int 0, .int 0])), (q0, .inl (cI, 10, .inl zI)), (q1, .inl (cI, 10, .inl zI)), (q2, .inl (cI, 10, .inl zI)), (q3, .inl (cI, 10, .inl zI))] H locs := hY
  refine lv_aload_n hx hb dX0_init_36 rfl (lv_at hl 0 rfl) ?_
  refine lv_bipush (v := I (36)) hx hb dX0_init_37 (by decide) ?_
  refine y_newi (D := D) (cI := cI) hF hA hY 36 (by omega) (by omega) rfl (Nat.le_of_ble_eq_true rfl) (Nat.le_of_ble_eq_true rfl) dX0_init_39 (fun q4 H hY => ?_)
  refine W.widen (k := 5) (n := 76) (Nat.le_refl _) (Nat.le_refl _) ?_
  have hY : Yw D _ s [(a, .inr (0, [.ref q0, .ref q1, .ref q2, .ref q3, .null, .int 0, .int 0, .int 0, .int 0])), (q0, .inl (cI, 10, .inl zI)), (q1, .inl (cI, 10, .inl zI)), (q2, .inl (cI, 10, .inl zI)), (q3, .inl (cI, 10, .inl zI)), (q4, .inl (cI, 36, .inl zI))] H _ := hY
  refine y_put hF hY (k := 4) (by decide) wfX0_init_41 (Or.inr ⟨rfl, hin, rfl⟩) rfl rfl (Nat.le_of_ble_eq_true rfl) dX0_init_41 (fun H locs hY => ?_)
  have hY : Yw D _ s [(a, .inr (0, [.ref q0, .ref q1, .ref q2, .ref q3, .ref q4, .int 0, .int 0, .int 0, .int 0])), (q0, .inl (cI, 10, .inl zI)), (q1, .inl (cI, 10, .inl zI)), (q2, .inl (cI, 10, .inl zI)), (q3, .inl (cI, 10, .inl zI)), (q4, .inl (cI, 36, .inl zI))] H locs := hY
  refine lv_aload_n hx hb dX0_init_44 rfl (lv_at hl 0 rfl) ?_
  refine lv_iconst (v := I (0)) hx hb dX0_init_45 (by decide) ?_
  refine y_put hF hY (k := 5) (by decide) wfX0_init_46 (Or.inl rfl) rfl rfl (Nat.le_of_ble_eq_true rfl) dX0_init_46 (fun H locs hY => ?_)
  have hY : Yw D _ s [(a, .inr (0, [.ref q0, .ref q1, .ref q2, .ref q3, .ref q4, .int (I 0), .int 0, .int 0, .int 0])), (q0, .inl (cI, 10, .inl zI)), (q1, .inl (cI, 10, .inl zI)), (q2, .inl (cI, 10, .inl zI)), (q3, .inl (cI, 10, .inl zI)), (q4, .inl (cI, 36, .inl zI))] H locs := hY
  refine lv_aload_n hx hb dX0_init_49 rfl (lv_at hl 0 rfl) ?_
  refine lv_iconst (v := I (0)) hx hb dX0_init_50 (by decide) ?_
  refine y_put hF hY (k := 6) (by decide) wfX0_init_51 (Or.inl rfl) rfl rfl (Nat.le_of_ble_eq_true rfl) dX0_init_51 (fun H locs hY => ?_)
  have hY : Yw D _ s [(a, .inr (0, [.ref q0, .ref q1, .ref q2, .ref q3, .ref q4, .int (I 0), .int (I 0), .int 0, .int 0])), (q0, .inl (cI, 10, .inl zI)), (q1, .inl (cI, 10, .inl zI)), (q2, .inl (cI, 10, .inl zI)), (q3, .inl (cI, 10, .inl zI)), (q4, .inl (cI, 36, .inl zI))] H locs := hY
  refine lv_aload_n hx hb dX0_init_54 rfl (lv_at hl 0 rfl) ?_
  refine lv_iconst (v := I (0)) hx hb dX0_init_55 (by decide) ?_
  refine y_put hF hY (k := 7) (by decide) wfX0_init_56 (Or.inl rfl) rfl rfl (Nat.le_of_ble_eq_true rfl) dX0_init_56 (fun H locs hY => ?_)
  have hY : Yw D _ s [(a, .inr (0, [.ref q0, .ref q1, .ref q2, .ref q3, .ref q4, .int (I 0), .int (I 0), .int (I 0), .int 0])), (q0, .inl (cI, 10, .inl zI)), (q1, .inl (cI, 10, .inl zI)), (q2, .inl (cI, 10, .inl zI)), (q3, .inl (cI, 10, .inl zI)), (q4, .inl (cI, 36, .inl zI))] H locs := hY
  refine lv_aload_n hx hb dX0_init_59 rfl (lv_at hl 0 rfl) ?_
  refine lv_iconst (v := I (0)) hx hb dX0_init_60 (by decide) ?_
  refine y_put hF hY (k := 8) (by decide) wfX0_init_61 (Or.inl rfl) rfl rfl (Nat.le_of_ble_eq_true rfl) dX0_init_61 (fun H locs hY => ?_)
  have hY : Yw D _ s [(a, .inr (0, [.ref q0, .ref q1, .ref q2, .ref q3, .ref q4, .int (I 0), .int (I 0), .int (I 0), .int (I 0)])), (q0, .inl (cI, 10, .inl zI)), (q1, .inl (cI, 10, .inl zI)), (q2, .inl (cI, 10, .inl zI)), (q3, .inl (cI, 10, .inl zI)), (q4, .inl (cI, 36, .inl zI))] H locs := hY
  refine lv_aload_n hx hb dX0_init_64 rfl (lv_at hl 0 rfl) ?_
  refine sn_getY hF hY (k := 4) (by decide) wgX0_init_65 rfl dX0_init_65 ?_
  refine lv_bipush (v := I (-4)) hx hb dX0_init_68 (by decide) ?_
  refine y_fill (wr := [(a, .inr (0, [.ref q0, .ref q1, .ref q2, .ref q3, .ref q4, .int (I 0), .int (I 0), .int (I 0), .int (I 0)])), (q0, .inl (cI, 10, .inl zI)), (q1, .inl (cI, 10, .inl zI)), (q2, .inl (cI, 10, .inl zI)), (q3, .inl (cI, 10, .inl zI))]) hF hA (by omega) hY w_lX0_init ⟨Nat.le_of_ble_eq_true rfl, Nat.le_of_ble_eq_true rfl⟩ ⟨Nat.le_of_ble_eq_true rfl, Nat.le_of_ble_eq_true rfl⟩ hl.1 (Nat.le_of_ble_eq_true rfl) dX0_init_70 (fun H locs hY => ?_)
  have hY : Yw D _ s [(a, .inr (0, [.ref q0, .ref q1, .ref q2, .ref q3, .ref q4, .int (I 0), .int (I 0), .int (I 0), .int (I 0)])), (q0, .inl (cI, 10, .inl zI)), (q1, .inl (cI, 10, .inl zI)), (q2, .inl (cI, 10, .inl zI)), (q3, .inl (cI, 10, .inl zI)), (q4, .inl (cI, 36, .inl (fll 36 (I (-4)) zI)))] H locs := hY
  exact W.vret hx hb hret (fun t ht hWm => ⟨rfl, ⟨_, ⟨fun k => [q0, q1, q2, q3, q4].getD k 0, rfl⟩, by rw [ht]; exact hY.1, hY.2.1⟩, hY.2.2.F ht⟩) hY.2.2.2.2 dX0_init_73
def rmX2_init : Room := { frames := 4, cells := 1, slots := 100, locals := 100 }
def wcX2_init : List Jvm.Cond := .code yX2_init cX2_init 1 none :: WSg
set_option maxHeartbeats 4000000 in
set_option maxRecDepth 10000 in
theorem m_X2_init (l : Launch) (D : va_G) (cI cS cB : ClassId) : aCt l yX2_init wcX2_init rmX2_init D cI cS cB 1 dfl1 (fun a w1 => ∃ u, w1 = uS cI a u) 1 100 := by
  intro a sz
  refine Met.ofW (cc := cX2_init) (maxL := 1) (ret := none) (by decide +kernel) rfl ?_
  intro p e s m args below meth c s₁ B hml hv
  obtain ⟨rfl, hsz, hP, hK, hAO⟩ := hv
  subst hsz
  have hts := atoms_spec (ws := wcX2_init) B.pre
  have hown : s.vm.findClass yX2_init.cls = some m.cls := findClass_of_methodNamed B.named
  have hF : Fk p s m ([.ref a] : List Value).toArray c cX2_init 1 1 D cI cS cB := ⟨B.exec, B.bytes, hml, hown, fun w hw => hts w (List.mem_cons_of_mem _ hw), hK, hAO⟩
  have hx := B.exec
  have hb := B.bytes
  have hlocks := B.notSynchronized
  have hret := B.returns
  have hin : meth.name = "<init>" := (name_of_methodNamed B.named B.method).1
  have hA : ∀ q, s.heap.size ≤ q → va_A [(a, .inr (1, dfl1))] s.heap.size q := fun q hq => Or.inr hq
  have hY : Yw D (va_A [(a, .inr (1, dfl1))] s.heap.size) s [(a, .inr (1, dfl1))] s.heap [] := ⟨hP, va_D1 (va_A.in (k := 0) rfl), va_S.rf⟩
  have hl := lv_entry ([.ref a]) (n := 1) (Nat.le_of_ble_eq_true rfl)
  rw [lg_entry_eq]
  generalize (lg_sl ([.ref a]) ++ List.replicate (1 - (lg_sl ([.ref a])).length) Slot.unset).toArray = ls at hl ⊢
  have hl : lv_has ls 1 [(0, .ref a)] := hl
  refine lv_aload_n hx hb dX2_init_0 rfl (lv_at hl 0 rfl) ?_
  refine W.objInit hx hb hown (hts _ (List.mem_cons_of_mem _ (WSg_in woX2_init))) (hts _ (List.mem_cons_of_mem _ (WSg_in wo_i))) (hts _ (List.mem_cons_of_mem _ (WSg_in wo_c))) rfl (by rw [hml]; exact hl.1) rfl dX2_init_1 (Nat.le_of_ble_eq_true rfl) (Nat.le_of_ble_eq_true rfl) ?_
  refine W.eq (g2 := F0 m 4 ls []) rfl ?_
  refine lv_aload_n hx hb dX2_init_4 rfl (lv_at hl 0 rfl) ?_
  refine lv_iconst (v := I (0)) hx hb dX2_init_5 (by decide) ?_
  refine y_put hF hY (k := 0) (by decide) wfX2_init_6 (Or.inl rfl) rfl rfl (Nat.le_of_ble_eq_true rfl) dX2_init_6 (fun H locs hY => ?_)
  have hY : Yw D _ s [(a, .inr (1, [.int (I 0), .int 0, .int 0, .int 0, .int 0, .null]))] H locs := hY
  refine lv_aload_n hx hb dX2_init_9 rfl (lv_at hl 0 rfl) ?_
  refine lv_iconst (v := I (0)) hx hb dX2_init_10 (by decide) ?_
  refine y_put hF hY (k := 1) (by decide) wfX2_init_11 (Or.inl rfl) rfl rfl (Nat.le_of_ble_eq_true rfl) dX2_init_11 (fun H locs hY => ?_)
  have hY : Yw D _ s [(a, .inr (1, [.int (I 0), .int (I 0), .int 0, .int 0, .int 0, .null]))] H locs := hY
  refine lv_aload_n hx hb dX2_init_14 rfl (lv_at hl 0 rfl) ?_
  refine lv_iconst (v := I (0)) hx hb dX2_init_15 (by decide) ?_
  refine y_put hF hY (k := 2) (by decide) wfX2_init_16 (Or.inl rfl) rfl rfl (Nat.le_of_ble_eq_true rfl) dX2_init_16 (fun H locs hY => ?_)
  have hY : Yw D _ s [(a, .inr (1, [.int (I 0), .int (I 0), .int (I 0), .int 0, .int 0, .null]))] H locs := hY
  refine lv_aload_n hx hb dX2_init_19 rfl (lv_at hl 0 rfl) ?_
  refine lv_iconst (v := I (0)) hx hb dX2_init_20 (by decide) ?_
  refine y_put hF hY (k := 3) (by decide) wfX2_init_21 (Or.inl rfl) rfl rfl (Nat.le_of_ble_eq_true rfl) dX2_init_21 (fun H locs hY => ?_)
  have hY : Yw D _ s [(a, .inr (1, [.int (I 0), .int (I 0), .int (I 0), .int (I 0), .int 0, .null]))] H locs := hY
  refine lv_aload_n hx hb dX2_init_24 rfl (lv_at hl 0 rfl) ?_
  refine lv_iconst (v := I (0)) hx hb dX2_init_25 (by decide) ?_
  refine y_put hF hY (k := 4) (by decide) wfX2_init_26 (Or.inl rfl) rfl rfl (Nat.le_of_ble_eq_true rfl) dX2_init_26 (fun H locs hY => ?_)
  have hY : Yw D _ s [(a, .inr (1, [.int (I 0), .int (I 0), .int (I 0), .int (I 0), .int (I 0), .null]))] H locs := hY
  refine lv_aload_n hx hb dX2_init_29 rfl (lv_at hl 0 rfl) ?_
  refine lv_bipush (v := I (100)) hx hb dX2_init_30 (by decide) ?_
  refine y_newi (D := D) (cI := cI) hF hA hY 100 (by omega) (by omega) rfl (Nat.le_of_ble_eq_true rfl) (Nat.le_of_ble_eq_true rfl) dX2_init_32 (fun q0 H hY => ?_)
  refine W.widen (k := 1) (n := 100) (Nat.le_refl _) (Nat.le_refl _) ?_
  have hY : Yw D _ s [(a, .inr (1, [.int (I 0), .int (I 0), .int (I 0), .int (I 0), .int (I 0), .null])), (q0, .inl (cI, 100, .inl zI))] H _ := hY
  refine y_put hF hY (k := 5) (by decide) wfX2_init_34 (Or.inr ⟨rfl, hin, rfl⟩) rfl rfl (Nat.le_of_ble_eq_true rfl) dX2_init_34 (fun H locs hY => ?_)
  have hY : Yw D _ s [(a, .inr (1, [.int (I 0), .int (I 0), .int (I 0), .int (I 0), .int (I 0), .ref q0])), (q0, .inl (cI, 100, .inl zI))] H locs := hY
  exact W.vret hx hb hret (fun t ht hWm => ⟨rfl, ⟨_, ⟨fun k => [q0].getD k 0, rfl⟩, by rw [ht]; exact hY.1, hY.2.1⟩, hY.2.2.F ht⟩) hY.2.2.2.2 dX2_init_37
