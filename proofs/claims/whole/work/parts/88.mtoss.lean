/-! toss's contract -/
theorem gS {own : String} {k : Nat} {y : MethodName} {hd : Jvm.Cond} (h1 : InT (.methodLink own k y)) (h2 : InT (.static y)) (h3 : InT (.initialized y.cls)) (h4 : InT hd) : GoodIn WSg (va_wsS own k y (hd :: WSg)) := by
  intro w hw
  unfold va_wsS at hw
  have key : ∀ w, InT w → w ∈ WSg ∧ ((w.onTables && w.keeps) = true ∨ ∃ ty, w = .arrayClass ty) := fun w h => ⟨WSg_in h, WSg_good (WSg_in h)⟩
  rcases List.mem_append.mp hw with hw | hw
  · rcases List.mem_cons.mp hw with rfl | hw
    · exact key _ h1
    rcases List.mem_cons.mp hw with rfl | hw
    · exact key _ h2
    rcases List.mem_cons.mp hw with rfl | hw
    · exact key _ h3
    · cases hw
  · rcases List.mem_cons.mp hw with rfl | hw
    · exact key _ h4
    · exact ⟨hw, WSg_good hw⟩
theorem gV {own : String} {k : Nat} {y : MethodName} {hd : Jvm.Cond} (h1 : InT (.methodLink own k y)) (h2 : InT (.instanceMethod y)) (h3 : InT (.initialized y.cls)) (h5 : InT (.selects y.cls y y)) (h4 : InT hd) : GoodIn WSg (wsV own k y.cls y (hd :: WSg)) := by
  intro w hw
  unfold wsV at hw
  have key : ∀ w, InT w → w ∈ WSg ∧ ((w.onTables && w.keeps) = true ∨ ∃ ty, w = .arrayClass ty) := fun w h => ⟨WSg_in h, WSg_good (WSg_in h)⟩
  rcases List.mem_append.mp hw with hw | hw
  · rcases List.mem_cons.mp hw with rfl | hw
    · exact key _ h1
    rcases List.mem_cons.mp hw with rfl | hw
    · exact key _ h2
    rcases List.mem_cons.mp hw with rfl | hw
    · exact key _ h5
    rcases List.mem_cons.mp hw with rfl | hw
    · exact key _ h3
    · cases hw
  · rcases List.mem_cons.mp hw with rfl | hw
    · exact key _ h4
    · exact ⟨hw, WSg_good hw⟩
def hhT : List (Nat × Nat × Nat × Nat) := [(22, 33, 36, 284), (22, 33, 43, 312), (22, 33, 53, 314)]
def wsTO : List Jvm.Cond := .codeWith yX3_toss cX3_toss 5 (some .int) hhT :: WSg
def rmT : Room := { frames := 20, cells := 1, slots := 6, locals := 800 }
set_option maxRecDepth 100000 in
theorem to_k284 : InT (.classLink "TakenUpByThePieces" 284 eIS) := ⟨by decide +kernel, rfl⟩
set_option maxRecDepth 100000 in
theorem to_k312 : InT (.classLink "TakenUpByThePieces" 312 eUO) := ⟨by decide +kernel, rfl⟩
set_option maxRecDepth 100000 in
theorem to_k314 : InT (.classLink "TakenUpByThePieces" 314 eNS) := ⟨by decide +kernel, rfl⟩
set_option maxRecDepth 100000 in
theorem to_l309 : InT (.methodLink "TakenUpByThePieces" 309 yX1_failWith) := ⟨by decide +kernel, rfl⟩
set_option maxRecDepth 100000 in
theorem to_sFW : InT (.static yX1_failWith) := ⟨by decide +kernel, rfl⟩
set_option maxRecDepth 100000 in
theorem to_iFW : InT (.initialized yX1_failWith.cls) := ⟨by decide +kernel, rfl⟩
set_option maxRecDepth 100000 in
theorem to_cFW : InT (.code yX1_failWith cX1_failWith 2 none) := ⟨by decide +kernel, rfl⟩
theorem dX3_toss_30 : decode cX3_toss 30 = .ok (.invokestatic 309, 3) := by decide +kernel
theorem dX3_toss_36 : decode cX3_toss 36 = .ok (.astore 4, 2) := by decide +kernel
theorem dX3_toss_43 : decode cX3_toss 43 = .ok (.astore 4, 2) := by decide +kernel
theorem dX3_toss_53 : decode cX3_toss 53 = .ok (.astore 4, 2) := by decide +kernel
