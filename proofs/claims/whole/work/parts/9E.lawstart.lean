/-! THE LAW FROM ITS ENTRY TO ITS LOOP -/
set_option maxRecDepth 100000 in
theorem ls_k8 : InT (.classLink (cnm 8) 8 (cnm 2)) := ⟨by decide +kernel, rfl⟩
set_option maxRecDepth 100000 in
theorem ls_k18 : InT (.classLink (cnm 8) 18 (cnm 3)) := ⟨by decide +kernel, rfl⟩
set_option maxRecDepth 100000 in
theorem ls_i2 : InT (.initialized (cnm 2)) := ⟨by decide +kernel, rfl⟩
set_option maxRecDepth 100000 in
theorem ls_i3 : InT (.initialized (cnm 3)) := ⟨by decide +kernel, rfl⟩
set_option maxRecDepth 100000 in
theorem ls_l17 : InT (.methodLink (cnm 8) 17 yX3_init) := ⟨by decide +kernel, rfl⟩
set_option maxRecDepth 100000 in
theorem ls_l20 : InT (.methodLink (cnm 8) 20 yX4_init) := ⟨by decide +kernel, rfl⟩
set_option maxRecDepth 100000 in
theorem ls_m3 : InT (.instanceMethod yX3_init) := ⟨by decide +kernel, rfl⟩
set_option maxRecDepth 100000 in
theorem ls_m4 : InT (.instanceMethod yX4_init) := ⟨by decide +kernel, rfl⟩
set_option maxRecDepth 100000 in
theorem ls_c3 : InT (.code yX3_init cX3_init 2 none) := ⟨by decide +kernel, rfl⟩
set_option maxRecDepth 100000 in
theorem ls_c4 : InT (.code yX4_init cX4_init 1 none) := ⟨by decide +kernel, rfl⟩
set_option maxRecDepth 100000 in
theorem ls_arrJ : InT (.arrayClass .long) := ⟨by decide +kernel, rfl⟩
theorem dL_law_0 : decode code 0 = .ok (.new 8, 3) := by decide +kernel
theorem dL_law_3 : decode code 3 = .ok (.dup, 1) := by decide +kernel
theorem dL_law_4 : decode code 4 = .ok (.invokespecial 17, 3) := by decide +kernel
theorem dL_law_7 : decode code 7 = .ok (.astore_n 1, 1) := by decide +kernel
theorem dL_law_8 : decode code 8 = .ok (.new 18, 3) := by decide +kernel
theorem dL_law_11 : decode code 11 = .ok (.dup, 1) := by decide +kernel
theorem dL_law_12 : decode code 12 = .ok (.invokespecial 20, 3) := by decide +kernel
theorem dL_law_15 : decode code 15 = .ok (.astore_n 2, 1) := by decide +kernel
theorem dL_law_16 : decode code 16 = .ok (.iconst 1, 1) := by decide +kernel
theorem dL_law_17 : decode code 17 = .ok (.newarray .long, 2) := by decide +kernel
theorem dL_law_19 : decode code 19 = .ok (.astore_n 3, 1) := by decide +kernel
theorem dL_law_20 : decode code 20 = .ok (.iconst 0, 1) := by decide +kernel
theorem dL_law_21 : decode code 21 = .ok (.istore 4, 2) := by decide +kernel
set_option maxRecDepth 10000 in
set_option maxHeartbeats 8000000 in
theorem law_from0 {p : Program} {e : Env} {s : State} {m : MethodId} {below : List Frame} {meth : Method} {c : Code} (l : Launch) (hl : l.stackTraces = false) {b L : Nat} {xs : Nat → Int32} (hL : L ≤ 3072) (C0 : lw_At9 p s m meth c b L xs) {Q : State → Prop}
    (kk : ∀ (cells slots pc : Nat) (H : Heap) (locs : List Loc) (Lm : Array Slot), cells ≤ 600000 → slots ≤ 7000000 → va_S (fun q => s.heap.size ≤ q) s.heap H locs → decode code pc = .ok (.ireturn, 1) → W p l e room_1 s m #[Value.ref b] below meth c H locs cells slots Q (F0 m pc Lm [.int 1])) : W p l e room_1 s m #[Value.ref b] below meth c s.heap [] 0 0 Q (entryFrame m ([Value.ref b] : List Value).toArray 8) := by
  obtain ⟨D, cI, cS, cB, hFk, hNW, hXQ⟩ := lw_facts C0
  obtain ⟨hx, hb, hr, hml, hown, hts, hX, hbl, hlocks, hgv⟩ := id C0
  have hA : ∀ q : Nat, s.heap.size ≤ q → (fun q : Nat => s.heap.size ≤ q) q := fun _ h => h
  have hY : Yw D (fun q : Nat => s.heap.size ≤ q) s [] s.heap [] := ⟨fun k q h => by simp at h, ⟨fun i j p q h => by simp at h, fun k q h => by simp at h⟩, va_S.rf⟩
  have hl8 := lv_entry ([.ref b]) (n := 8) (Nat.le_of_ble_eq_true rfl)
  rw [lg_entry_eq]
  generalize (lg_sl ([.ref b]) ++ List.replicate (8 - (lg_sl ([.ref b])).length) Slot.unset).toArray = ls at hl8 ⊢
  have hl8 : lv_has ls 8 [(0, .ref b)] := hl8
  refine y_new hFk hA hY 2 (by decide) dfl2_ok ls_k8 wx_n2 ls_i2 (Nat.le_of_ble_eq_true rfl) (Nat.le_of_ble_eq_true rfl) dL_law_0 (fun a H hY => ?_)
  refine lv_dup hx hb dL_law_3 rfl ?_
  refine y_init (wr := []) hFk hA hY (m_X3_init l D cI cS cB) rfl rfl ls_i2 ls_l17 ls_m3 ls_c3 rfl ⟨by decide +kernel, by decide +kernel, by decide +kernel⟩ ⟨Nat.le_of_ble_eq_true rfl, Nat.le_of_ble_eq_true rfl⟩ ⟨Nat.le_of_ble_eq_true rfl, Nat.le_of_ble_eq_true rfl⟩ hl8.1 (Nat.le_of_ble_eq_true rfl) dL_law_4 (fun w1 H locs hw1 hY => ?_)
  obtain ⟨b', ub, n, LS, LB, h8, h8b, rfl⟩ := hw1
  refine lv_astore_n (lv' := [(1, .ref a), (0, .ref b)]) hx hb dL_law_7 rfl hl8 (by decide) rfl (fun ls hl8 => ?_)
  refine y_new hFk hA hY 3 (by decide) dfl3_ok ls_k18 wx_n3 ls_i3 (Nat.le_of_ble_eq_true rfl) (Nat.le_of_ble_eq_true rfl) dL_law_8 (fun a2 H hY => ?_)
  refine lv_dup hx hb dL_law_11 rfl ?_
  refine y_init hFk hA hY (m_X4_init l D cI cS cB) rfl rfl ls_i3 ls_l20 ls_m4 ls_c4 rfl ⟨by decide +kernel, by decide +kernel, by decide +kernel⟩ ⟨Nat.le_of_ble_eq_true rfl, Nat.le_of_ble_eq_true rfl⟩ ⟨Nat.le_of_ble_eq_true rfl, Nat.le_of_ble_eq_true rfl⟩ hl8.1 (Nat.le_of_ble_eq_true rfl) dL_law_12 (fun w1 H locs hw1 hY => ?_)
  obtain ⟨um, rfl⟩ := hw1
  refine lv_astore_n (lv' := [(2, .ref a2), (1, .ref a), (0, .ref b)]) hx hb dL_law_15 rfl hl8 (by decide) rfl (fun ls hl8 => ?_)
  refine lv_iconst (v := 1) hx hb dL_law_16 (by decide) ?_
  refine va_newa (atype := .long) (ty := .long) (N' := 1) (a0 := (1, .inr (.inl (fun _ => 0)))) hx hb (hFk.2.2.2.2.1 _ (WSg_in ls_arrJ)) rfl hFk.2.2.2.2.2.1 hY.1 hY.2.1 hY.2.2 hA (fun cA => rfl) (by decide) (by decide) (by decide) (Nat.le_of_ble_eq_true rfl) (Nat.le_of_ble_eq_true rfl) dL_law_17 (fun nl cJ H hK1 hP hD hS => ?_)
  refine lv_astore_n (lv' := [(3, .ref nl), (2, .ref a2), (1, .ref a), (0, .ref b)]) hx hb dL_law_19 rfl hl8 (by decide) rfl (fun ls hl8 => ?_)
  refine lv_iconst (v := I 0) hx hb dL_law_20 (by decide) ?_
  refine lv_istore (lv' := [(4, .int (I 0)), (3, .ref nl), (2, .ref a2), (1, .ref a), (0, .ref b)]) hx hb dL_law_21 hl8 (by decide) rfl (fun ls hl8 => ?_)
  obtain ⟨ad, e2, e3, e23, e22, eJ, hP2, hD2⟩ := conv (cS := cS) (cB := cB) (n := n) (b := b') (ub := ub) (um := um) (a := a) (a2 := a2) (nl := nl) (cJ := cJ) b xs h8 h8b hP hD
  refine W.widen (k := 106) (n := 2948) (Nat.le_of_ble_eq_true rfl) (Nat.le_of_ble_eq_true rfl) ?_
  have hKL : KL D ad cI cS cB s := by
    unfold KL
    rw [eJ]
    exact hK1.sub [3, 0, 1, 2] rfl
  have hF : Fx p s m #[Value.ref b] c code 8 8 D cI cS cB := ⟨hx, hb, hml, hFk.2.2.2.1, hFk.2.2.2.2.1, hFk.2.2.2.2.2.1, hNW⟩
  have hScr : Scr ad (fun q : Nat => s.heap.size ≤ q) s (L + 1) xs := Or.inr ⟨by omega, by rw [e22]; exact hX, by rw [e22]; exact hbl, by rw [e22]; exact Nat.not_le.mpr hbl⟩
  have hW : Wd ad cI cS cB D (fun q : Nat => s.heap.size ≤ q) s xs (h0M xs) H locs := ⟨hP2, hD2, hS, rfl⟩
  have hR8 : Rls ad (lvOf 0 none none none) ls 8 := by
    refine ⟨rfl, ?_, fun i v h => ?_⟩
    · show lv_has ls 8 [(0, .ref (ad 22 0)), (1, .ref (ad 2 0)), (2, .ref (ad 3 0)), (3, .ref (ad 23 0)), (4, .int (I 0))]
      rw [e22, e2, e3, e23]
      exact lv_sub hl8 [4, 3, 2, 1, 0] rfl
    · match i, h with
      | 0, h => cases h; exact (show (0 : Nat) < ocn 22 by decide)
      | 1, h => cases h; exact (show (0 : Nat) < ocn 2 by decide)
      | 2, h => cases h; exact (show (0 : Nat) < ocn 3 by decide)
      | 3, h => cases h; exact (show (0 : Nat) < ocn 23 by decide)
      | 4, h => cases h; trivial
      | 5, h => cases h
      | 6, h => cases h
      | 7, h => cases h
      | k + 8, h => cases h
  exact law_loop hl hF hScr hL hA hXQ hKL ⟨by decide, by decide, Nat.le_of_ble_eq_true rfl, Nat.le_of_ble_eq_true rfl⟩ kk 3073 0 none none none (h0M xs) H locs ls 106 2948 (by omega) (by omega) (by omega) (by omega) (by omega) (INV0 xs) hW hR8
