/-! what a state of the abstract machine is on the machine -/
def conc (ad : Nat → Nat → Nat) : AV → Value
  | .inl x => .int x
  | .inr (.inl x) => .long x
  | .inr (.inr (some q)) => .ref (ad q.1 q.2)
  | .inr (.inr none) => .null
def vld : AV → Prop
  | .inr (.inr (some q)) => q.2 < ocn q.1
  | _ => True
def vlds (l : List AV) : Prop := ∀ v ∈ l, vld v
theorem vlds_c {v : AV} {r : List AV} (h1 : vld v) (h2 : vlds r) : vlds (v :: r) := fun w hw => (List.mem_cons.mp hw).elim (fun e => e ▸ h1) (h2 w)
theorem vlds_h {v : AV} {r : List AV} (h : vlds (v :: r)) : vld v := h v List.mem_cons_self
theorem vlds_t {v : AV} {r : List AV} (h : vlds (v :: r)) : vlds r := fun w hw => h w (List.mem_cons_of_mem _ hw)
/-- the cell of an object -/
def cellA (ad : Nat → Nat → Nat) (cI cS cB : ClassId) (h : Mem) (t b : Nat) : va_E :=
  if t < 3 then .inr (t, (List.range (nfl t)).map fun k => conc ad (aval h t b k))
  else if t = 20 then .inl (cS, 8, .inr (.inr (.inr (.inr fun i => some (ad 1 i)))))
  else if t = 21 then .inl (cB, 8, .inr (.inr (.inr (.inr fun i => some (ad 0 (4 + i))))))
  else .inl (cI, aln 0 t, .inl (h t b))
def objs : List (Nat × Nat) := (List.range 22).flatMap fun t => (List.range (ocn t)).map fun b => (t, b)
theorem objs_mem {t b : Nat} (ht : t < 22) (hb : b < ocn t) : (t, b) ∈ objs := List.mem_flatMap.mpr ⟨t, List.mem_range.mpr ht, List.mem_map.mpr ⟨b, List.mem_range.mpr hb, rfl⟩⟩
set_option maxRecDepth 100000 in
theorem objs_nd : objs.Nodup := by decide +kernel
theorem objs_inj {i j : Nat} {o : Nat × Nat} (hi : objs[i]? = some o) (hj : objs[j]? = some o) : i = j := by
  obtain ⟨l1, e1⟩ := List.getElem?_eq_some_iff.mp hi
  obtain ⟨l2, e2⟩ := List.getElem?_eq_some_iff.mp hj
  exact (List.getElem_inj objs_nd).mp (e1.trans e2.symm)
def wsA (ad : Nat → Nat → Nat) (cI cS cB : ClassId) (h : Mem) : va_W := objs.map fun o => (ad o.1 o.2, cellA ad cI cS cB h o.1 o.2)
section WA
variable {ad : Nat → Nat → Nat} {cI cS cB : ClassId}
theorem wsA_get {h : Mem} {t b : Nat} (ht : t < 22) (hb : b < ocn t) : ∃ q : Nat, objs[q]? = some (t, b) ∧ (wsA ad cI cS cB h)[q]? = some (ad t b, cellA ad cI cS cB h t b) := by
  obtain ⟨q, hq⟩ := List.getElem?_of_mem (objs_mem ht hb)
  exact ⟨q, hq, by simp [wsA, hq]⟩
theorem cellA_eq {h h' : Mem} {t b : Nat} (e : h' t b = h t b) : cellA ad cI cS cB h' t b = cellA ad cI cS cB h t b := by
  unfold cellA
  have e2 : ∀ k, aval h' t b k = aval h t b k := fun k => by unfold aval; rw [e]
  simp only [e2, e]
theorem wsA_set {h h' : Mem} {t b q : Nat} (hq : objs[q]? = some (t, b)) (hh : ∀ t' b', ¬ (t' = t ∧ b' = b) → h' t' b' = h t' b') : (wsA ad cI cS cB h).set q (ad t b, cellA ad cI cS cB h' t b) = wsA ad cI cS cB h' := by
  apply List.ext_getElem?
  intro i
  have hl := (List.getElem?_eq_some_iff.mp hq).1
  by_cases hi : q = i
  · subst hi
    rw [List.getElem?_set_self (by simpa [wsA] using hl)]
    simp [wsA, hq]
  · rw [List.getElem?_set_ne hi]
    simp only [wsA, List.getElem?_map]
    cases hc : objs[i]? with
    | none => rfl
    | some o =>
      have hne : ¬ (o.1 = t ∧ o.2 = b) := fun z => hi (objs_inj hq (by rw [hc, ← z.1, ← z.2]))
      simp only [Option.map_some, cellA_eq (hh o.1 o.2 hne)]
end WA
/-! locals -/
theorem lat_lset (v : Option AV) : ∀ (ls : Lc) (n i : Nat), lat (lset ls n v) i = if i = n ∧ n < ls.length then v else lat ls i
  | [], n, i => by simp [lset, lat]
  | w :: r, 0, 0 => by simp [lset, lat]
  | w :: r, 0, i + 1 => by simp [lset, lat]
  | w :: r, n + 1, 0 => by simp [lset, lat]
  | w :: r, n + 1, i + 1 => by simp [lset, lat, lat_lset v r n i]
theorem lset_len (v : Option AV) : ∀ (ls : Lc) (n : Nat), (lset ls n v).length = ls.length
  | [], n => rfl
  | w :: r, 0 => rfl
  | w :: r, n + 1 => by simp [lset, lset_len v r n]
theorem clr_len (ls : Lc) (n : Nat) : (clr ls n).length = ls.length := by
  cases n with
  | zero => rfl
  | succ m =>
    simp only [clr]
    split
    · exact lset_len _ _ _
    · rfl
theorem lat_clr {ls : Lc} {n i : Nat} {v : AV} (h : lat (clr ls n) i = some v) : lat ls i = some v ∧ ¬ (i + 1 = n ∧ cat1 v = false) := by
  cases n with
  | zero => exact ⟨h, fun z => by omega⟩
  | succ m =>
    simp only [clr] at h
    split at h
    · rename_i x hx
      rw [lat_lset] at h
      by_cases hi : i = m ∧ m < ls.length
      · rw [if_pos hi] at h; cases h
      · rw [if_neg hi] at h
        refine ⟨h, fun z => ?_⟩
        have : i = m := by omega
        subst this
        rw [hx] at h
        have hl : i < ls.length := by
          clear h hi z
          induction ls generalizing i with
          | nil => simp [lat] at hx
          | cons w r ih => cases i with
            | zero => simp
            | succ i => simp; exact ih hx
        exact hi ⟨rfl, hl⟩
    · rename_i hx
      refine ⟨h, fun z => ?_⟩
      have : i = m := by omega
      subst this
      rcases v with x | x | x
      · exact absurd z.2 (by simp [cat1])
      · exact hx x h
      · exact absurd z.2 (by simp [cat1])
theorem lat_lt {v : AV} : ∀ {ls : Lc} {i : Nat}, lat ls i = some v → i < ls.length
  | [], i, h => by simp [lat] at h
  | w :: r, 0, h => by simp
  | w :: r, i + 1, h => by simp; exact lat_lt (ls := r) h
def lvl (ad : Nat → Nat → Nat) (ls : Lc) : List (Nat × Value) := (List.range ls.length).filterMap fun i => (lat ls i).map fun v => (i, conc ad v)
theorem lvl_mem {ad : Nat → Nat → Nat} {ls : Lc} {q : Nat × Value} : q ∈ lvl ad ls ↔ ∃ v, lat ls q.1 = some v ∧ q.2 = conc ad v := by
  unfold lvl
  rw [List.mem_filterMap]
  constructor
  · rintro ⟨i, -, hi⟩
    cases hl : lat ls i with
    | none => rw [hl] at hi; cases hi
    | some v => rw [hl] at hi; cases hi; exact ⟨v, hl, rfl⟩
  · rintro ⟨v, h1, h2⟩
    refine ⟨q.1, List.mem_range.mpr (lat_lt h1), ?_⟩
    rw [h1]
    simp [← h2]
theorem conc_cat (ad : Nat → Nat → Nat) (v : AV) : (conc ad v).category = if cat1 v = true then 1 else 2 := by
  rcases v with x | x | x
  · rfl
  · rfl
  · cases x <;> rfl
def Rls (ad : Nat → Nat → Nat) (ls : Lc) (Lm : Array Slot) (nL : Nat) : Prop := ls.length = nL ∧ lv_has Lm nL (lvl ad ls) ∧ ∀ (i : Nat) (v : AV), lat ls i = some v → vld v
theorem Rls_at {ad : Nat → Nat → Nat} {ls : Lc} {Lm : Array Slot} {nL i : Nat} {v : AV} (h : Rls ad ls Lm nL) (hi : lat ls i = some v) : Lm[i]? = some (.val (conc ad v)) := h.2.1.2.2 (i, conc ad v) (lvl_mem.mpr ⟨v, hi, rfl⟩)
theorem Rls_s1 {ad : Nat → Nat → Nat} {ls : Lc} {Lm Lm' : Array Slot} {nL n : Nat} {v : AV} (h : Rls ad ls Lm nL) (hv : vld v) (h' : lv_has Lm' nL ((n, conc ad v) :: (lvl ad ls).filter (fun q => !(q.1 == n) && !(q.1 + 1 == n && q.2.category == 2)))) : Rls ad (st1 ls n v) Lm' nL := by
  refine ⟨by unfold st1; rw [lset_len, clr_len, h.1], ⟨h'.1, h'.2.1, fun q hq => ?_⟩, fun i w hw => ?_⟩
  · obtain ⟨w, h1, h2⟩ := lvl_mem.mp hq
    refine h'.2.2 q ?_
    unfold st1 at h1
    rw [lat_lset] at h1
    by_cases hi : q.1 = n ∧ n < (clr ls n).length
    · rw [if_pos hi] at h1; cases h1
      rw [← hi.1, ← h2]
      exact List.mem_cons_self
    · rw [if_neg hi] at h1
      obtain ⟨h3, h4⟩ := lat_clr h1
      refine List.mem_cons_of_mem _ (List.mem_filter.mpr ⟨lvl_mem.mpr ⟨w, h3, h2⟩, ?_⟩)
      have hne : q.1 ≠ n := fun z => hi ⟨z, by rw [clr_len, ← z]; exact lat_lt h3⟩
      simp only [Bool.and_eq_true, Bool.not_eq_true', beq_eq_false_iff_ne, ne_eq, Bool.and_eq_false_iff]
      refine ⟨hne, ?_⟩
      by_cases h5 : q.1 + 1 = n
      · right
        intro h6
        rw [h2, conc_cat] at h6
        refine h4 ⟨h5, ?_⟩
        cases hc : cat1 w with
        | false => rfl
        | true => rw [hc] at h6; simp at h6
      · exact Or.inl h5
  · unfold st1 at hw
    rw [lat_lset] at hw
    by_cases hi : i = n ∧ n < (clr ls n).length
    · rw [if_pos hi] at hw; cases hw; exact hv
    · rw [if_neg hi] at hw
      exact h.2.2 i w (lat_clr hw).1
theorem Rls_s2 {ad : Nat → Nat → Nat} {ls : Lc} {Lm Lm' : Array Slot} {nL n : Nat} {v : AV} (h : Rls ad ls Lm nL) (hv : vld v) (h' : lv_has Lm' nL ((n, conc ad v) :: (lvl ad ls).filter (fun q => !(q.1 == n) && (!(q.1 == n + 1) && !(q.1 + 1 == n && q.2.category == 2))))) : Rls ad (st2 ls n v) Lm' nL := by
  refine ⟨by unfold st2; rw [lset_len, lset_len, clr_len, h.1], ⟨h'.1, h'.2.1, fun q hq => ?_⟩, fun i w hw => ?_⟩
  · obtain ⟨w, h1, h2⟩ := lvl_mem.mp hq
    refine h'.2.2 q ?_
    unfold st2 at h1
    rw [lat_lset] at h1
    by_cases hj : q.1 = n + 1 ∧ n + 1 < (lset (clr ls n) n (some v)).length
    · rw [if_pos hj] at h1; cases h1
    rw [if_neg hj, lat_lset] at h1
    by_cases hi : q.1 = n ∧ n < (clr ls n).length
    · rw [if_pos hi] at h1; cases h1
      rw [← hi.1, ← h2]
      exact List.mem_cons_self
    · rw [if_neg hi] at h1
      obtain ⟨h3, h4⟩ := lat_clr h1
      refine List.mem_cons_of_mem _ (List.mem_filter.mpr ⟨lvl_mem.mpr ⟨w, h3, h2⟩, ?_⟩)
      have hne : q.1 ≠ n := fun z => hi ⟨z, by rw [clr_len, ← z]; exact lat_lt h3⟩
      have hne2 : q.1 ≠ n + 1 := fun z => hj ⟨z, by rw [lset_len, clr_len, ← z]; exact lat_lt h3⟩
      simp only [Bool.and_eq_true, Bool.not_eq_true', beq_eq_false_iff_ne, ne_eq, Bool.and_eq_false_iff]
      refine ⟨hne, hne2, ?_⟩
      by_cases h5 : q.1 + 1 = n
      · right
        intro h6
        rw [h2, conc_cat] at h6
        refine h4 ⟨h5, ?_⟩
        cases hc : cat1 w with
        | false => rfl
        | true => rw [hc] at h6; simp at h6
      · exact Or.inl h5
  · unfold st2 at hw
    rw [lat_lset] at hw
    by_cases hj : i = n + 1 ∧ n + 1 < (lset (clr ls n) n (some v)).length
    · rw [if_pos hj] at hw; cases hw
    rw [if_neg hj, lat_lset] at hw
    by_cases hi : i = n ∧ n < (clr ls n).length
    · rw [if_pos hi] at hw; cases hw; exact hv
    · rw [if_neg hi] at hw
      exact h.2.2 i w (lat_clr hw).1
/-! taking a stack apart -/
theorem gI_inv {ls : Lc} {n : Nat} {K : Int32 → Prop} (h : gI ls n K) : ∃ x, lat ls n = some (ai x) ∧ K x := by
  unfold gI at h; split at h
  · rename_i x hx; exact ⟨x, hx, h⟩
  · exact h.elim
theorem gL_inv {ls : Lc} {n : Nat} {K : Int64 → Prop} (h : gL ls n K) : ∃ x, lat ls n = some (al x) ∧ K x := by
  unfold gL at h; split at h
  · rename_i x hx; exact ⟨x, hx, h⟩
  · exact h.elim
theorem gR_inv {ls : Lc} {n : Nat} {K : Option (Nat × Nat) → Prop} (h : gR ls n K) : ∃ x, lat ls n = some (.inr (.inr x)) ∧ K x := by
  unfold gR at h; split at h
  · rename_i x hx; exact ⟨x, hx, h⟩
  · exact h.elim
theorem pI_inv {st : List AV} {K : Int32 → List AV → Prop} (h : pI st K) : ∃ x r, st = ai x :: r ∧ K x r := by
  unfold pI at h; split at h
  · exact ⟨_, _, rfl, h⟩
  · exact h.elim
theorem pL_inv {st : List AV} {K : Int64 → List AV → Prop} (h : pL st K) : ∃ x r, st = al x :: r ∧ K x r := by
  unfold pL at h; split at h
  · exact ⟨_, _, rfl, h⟩
  · exact h.elim
theorem pR_inv {st : List AV} {K : Option (Nat × Nat) → List AV → Prop} (h : pR st K) : ∃ x r, st = .inr (.inr x) :: r ∧ K x r := by
  unfold pR at h; split at h
  · exact ⟨_, _, rfl, h⟩
  · exact h.elim
theorem pI2_inv {st : List AV} {K : Int32 → Int32 → List AV → Prop} (h : pI2 st K) : ∃ x y r, st = ai y :: ai x :: r ∧ K x y r := by
  unfold pI2 at h; split at h
  · exact ⟨_, _, _, rfl, h⟩
  · exact h.elim
theorem pL2_inv {st : List AV} {K : Int64 → Int64 → List AV → Prop} (h : pL2 st K) : ∃ x y r, st = al y :: al x :: r ∧ K x y r := by
  unfold pL2 at h; split at h
  · exact ⟨_, _, _, rfl, h⟩
  · exact h.elim
theorem pO_inv {st : List AV} {K : Nat → Nat → List AV → Prop} (h : pO st K) : ∃ t b r, st = ar t b :: r ∧ K t b r := by
  unfold pO at h; split at h
  · exact ⟨_, _, _, rfl, h⟩
  · exact h.elim
theorem pIO_inv {st : List AV} {K : Int32 → Nat → Nat → List AV → Prop} (h : pIO st K) : ∃ i t b r, st = ai i :: ar t b :: r ∧ K i t b r := by
  unfold pIO at h; split at h
  · exact ⟨_, _, _, _, rfl, h⟩
  · exact h.elim
theorem pIIO_inv {st : List AV} {K : Int32 → Int32 → Nat → Nat → List AV → Prop} (h : pIIO st K) : ∃ x i t b r, st = ai x :: ai i :: ar t b :: r ∧ K x i t b r := by
  unfold pIIO at h; split at h
  · exact ⟨_, _, _, _, _, rfl, h⟩
  · exact h.elim
theorem catS_map (ad : Nat → Nat → Nat) : ∀ r : List AV, ((r.map (conc ad)).map fun v => v.category).sum = catS r
  | [] => rfl
  | .inl x :: r => by simp only [List.map_cons, List.sum_cons, catS, catS_map ad r, conc]; rfl
  | .inr (.inl x) :: r => by simp only [List.map_cons, List.sum_cons, catS, catS_map ad r, conc]; rfl
  | .inr (.inr none) :: r => by simp only [List.map_cons, List.sum_cons, catS, catS_map ad r, conc]; rfl
  | .inr (.inr (some q)) :: r => by simp only [List.map_cons, List.sum_cons, catS, catS_map ad r, conc]; rfl
