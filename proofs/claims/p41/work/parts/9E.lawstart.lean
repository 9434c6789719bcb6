/-! THE LAW FROM ITS ENTRY -/
set_option maxRecDepth 100000 in
theorem ls_k : InT (.classLink (cnm 8) 62 (cnm 2)) := ⟨by decide +kernel, rfl⟩
set_option maxRecDepth 100000 in
theorem ls_i2 : InT (.initialized (cnm 2)) := ⟨by decide +kernel, rfl⟩
set_option maxRecDepth 100000 in
theorem ls_l : InT (.methodLink (cnm 8) 95 yX3_init) := ⟨by decide +kernel, rfl⟩
set_option maxRecDepth 100000 in
theorem ls_m3 : InT (.instanceMethod yX3_init) := ⟨by decide +kernel, rfl⟩
set_option maxRecDepth 100000 in
theorem ls_c3 : InT (.code yX3_init cX3_init 2 none) := ⟨by decide +kernel, rfl⟩
theorem dL_law_0 : decode code 0 = .ok (.new 62, 3) := by decide +kernel
theorem dL_law_3 : decode code 3 = .ok (.dup, 1) := by decide +kernel
theorem dL_law_4 : decode code 4 = .ok (.invokespecial 95, 3) := by decide +kernel
theorem dL_law_7 : decode code 7 = .ok (.astore_n 1, 1) := by decide +kernel
theorem dL_law_8 : decode code 8 = .ok (.bipush 64, 2) := by decide +kernel
theorem dL_law_10 : decode code 10 = .ok (.newarray .int, 2) := by decide +kernel
theorem dL_law_12 : decode code 12 = .ok (.astore_n 2, 1) := by decide +kernel
def lv0 : Lc := [some (ar 22 0), some (ar 2 0), some (ar 12 0), none, none, none, none, none, none, none, none, none, none, none, none, none, none, none, none, none, none, none, none]
set_option maxRecDepth 10000 in
set_option maxHeartbeats 8000000 in
theorem law_from0 {p : Program} {e : Env} {s : State} {m : MethodId} {below : List Frame} {meth : Method} {c : Code} (l : Launch) {b L : Nat} {xs : Nat → Int32} (hL : L ≤ 260) (C0 : lw_At9 p s m meth c b L xs) {Q : State → Prop}
    (kk : ∀ (cells slots pc : Nat) (H : Heap) (locs : List Loc) (Lm : Array Slot), cells ≤ 600000 → slots ≤ 7000000 → va_S (fun q => s.heap.size ≤ q) s.heap H locs → decode code pc = .ok (.ireturn, 1) → W p l e room_1 s m #[Value.ref b] below meth c H locs cells slots Q (F0 m pc Lm [.int 1])) : W p l e room_1 s m #[Value.ref b] below meth c s.heap [] 0 0 Q (entryFrame m ([Value.ref b] : List Value).toArray 23) := by
  obtain ⟨D, cI, cS, cB, hFk, hNW⟩ := lw_facts C0
  obtain ⟨hx, hb, hr, hml, hown, hts, hX, hbl, hlocks, hgv⟩ := id C0
  have hA : ∀ q : Nat, s.heap.size ≤ q → (fun q : Nat => s.heap.size ≤ q) q := fun _ h => h
  have hY : Yw D (fun q : Nat => s.heap.size ≤ q) s [] s.heap [] := ⟨fun k q h => by simp at h, ⟨fun i j p q h => by simp at h, fun k q h => by simp at h⟩, va_S.rf⟩
  have hl8 := lv_entry ([.ref b]) (n := 23) (Nat.le_of_ble_eq_true rfl)
  rw [lg_entry_eq]
  generalize (lg_sl ([.ref b]) ++ List.replicate (23 - (lg_sl ([.ref b])).length) Slot.unset).toArray = ls at hl8 ⊢
  have hl8 : lv_has ls 23 [(0, .ref b)] := hl8
  refine y_new hFk hA hY 2 (by decide) dfl2_ok ls_k wx_n2 ls_i2 (Nat.le_of_ble_eq_true rfl) (Nat.le_of_ble_eq_true rfl) dL_law_0 (fun a H hY => ?_)
  refine lv_dup hx hb dL_law_3 rfl ?_
  refine y_init (wr := []) hFk hA hY (m_X3_init l D cI cS cB) rfl rfl ls_i2 ls_l ls_m3 ls_c3 rfl ⟨by decide +kernel, by decide +kernel, by decide +kernel⟩ ⟨(Nat.le_of_ble_eq_true rfl), (Nat.le_of_ble_eq_true rfl)⟩ ⟨(Nat.le_of_ble_eq_true rfl), (Nat.le_of_ble_eq_true rfl)⟩ hl8.1 (Nat.le_of_ble_eq_true rfl) dL_law_4 (fun w1 H locs hw1 hY => ?_)
  obtain ⟨b', ub, n, LS, LB, h8, h8b, rfl⟩ := hw1
  refine lv_astore_n (lv' := [(1, .ref a), (0, .ref b)]) hx hb dL_law_7 rfl hl8 (by decide) rfl (fun ls hl8 => ?_)
  refine lv_bipush (v := I 64) hx hb dL_law_8 (by decide) ?_
  refine y_newi (D := D) (cI := cI) hFk hA hY 64 (by omega) (by omega) rfl (Nat.le_of_ble_eq_true rfl) (Nat.le_of_ble_eq_true rfl) dL_law_10 (fun nv H hY => ?_)
  refine lv_astore_n (lv' := [(2, .ref nv), (1, .ref a), (0, .ref b)]) hx hb dL_law_12 rfl hl8 (by decide) rfl (fun ls hl8 => ?_)
  obtain ⟨ad, e2, e12, e22, hP2, hD2⟩ := conv (cS := cS) (cB := cB) (n := n) (b := b') (ub := ub) (a := a) (nv := nv) b xs h8 h8b hY.1 hY.2.1
  refine W.widen (k := 94) (n := 1966) (Nat.le_of_ble_eq_true rfl) (Nat.le_of_ble_eq_true rfl) ?_
  have hF : Fx p s m #[Value.ref b] c code 8 23 D cI cS cB := ⟨hx, hb, hml, hFk.2.2.2.1, hFk.2.2.2.2.1, hFk.2.2.2.2.2.1, hNW⟩
  have hScr : Scr ad (fun q : Nat => s.heap.size ≤ q) s (L + 1) xs := Or.inr ⟨by omega, by rw [e22]; exact hX, by rw [e22]; exact hbl, by rw [e22]; exact Nat.not_le.mpr hbl⟩
  have hW : Wd ad cI cS cB D (fun q : Nat => s.heap.size ≤ q) s xs (h0M xs) H locs := ⟨hP2, hD2, hY.2.2, rfl⟩
  have hR8 : Rls ad lv0 ls 23 := by
    refine ⟨rfl, ?_, fun i v h => ?_⟩
    · show lv_has ls 23 [(0, .ref (ad 22 0)), (1, .ref (ad 2 0)), (2, .ref (ad 12 0))]
      rw [e22, e2, e12]
      exact lv_sub hl8 [2, 1, 0] rfl
    · match i, h with
      | 0, h => cases h; exact (show (0 : Nat) < ocn 22 by decide)
      | 1, h => cases h; exact (show (0 : Nat) < ocn 2 by decide)
      | 2, h => cases h; exact (show (0 : Nat) < ocn 12 by decide)
      | 3, h => cases h
      | 4, h => cases h
      | 5, h => cases h
      | 6, h => cases h
      | 7, h => cases h
      | 8, h => cases h
      | 9, h => cases h
      | 10, h => cases h
      | 11, h => cases h
      | 12, h => cases h
      | 13, h => cases h
      | 14, h => cases h
      | 15, h => cases h
      | 16, h => cases h
      | 17, h => cases h
      | 18, h => cases h
      | 19, h => cases h
      | 20, h => cases h
      | 21, h => cases h
      | 22, h => cases h
      | k + 23, h => cases h
  have hRch := lw_all (d := 0) (L := L + 1) (N := L) (Rt := fun v _ => v = some (ai (I 1))) rfl (by omega) (fun _ => rfl) (h0_RC xs) (h0_RV xs) G0_ok (h0_SC xs) S0_ok S0_oke rfl rfl rfl (h0_z (by omega))
  refine snR (st := []) hF hScr (met_all l ad cI cS cB D (L + 1) (0 + 8)) ⟨(Nat.le_of_ble_eq_true rfl), (Nat.le_of_ble_eq_true rfl), (Nat.le_of_ble_eq_true rfl), (Nat.le_of_ble_eq_true rfl)⟩ hA lawBs_ok (fun _ _ _ _ _ _ _ _ _ _ z => z.elim) (fun v ins pc' h' H' locs' Lm' hW' hvl hro hdc hq => ?_) hRch hW hR8 (fun _ q => by cases q)
  have hq : v = some (ai (I 1)) := hq
  subst hq
  obtain ⟨rfl, -⟩ := hro
  have e1 : I 1 = (1 : Int32) := by decide +kernel
  show W p l e room_1 s m #[Value.ref b] below meth c H' locs' 94 1966 Q (F0 m pc' Lm' [.int (I 1)])
  rw [e1]
  exact kk 94 1966 pc' H' locs' Lm' (by omega) (by omega) hW'.2.2.1 hdc
