/-! failWith's contract: it returns, or throws by the kind -/
def rmF : Room := { frames := 10, cells := 1, slots := 6, locals := 400 }
def wsFW : List Jvm.Cond := .code yX1_failWith cX1_failWith 2 none :: WSg
def rtn : List String := ["java/lang/RuntimeException", "java/lang/Exception"]
def subW (l : List Jvm.Cond) : Bool := (l.filter goodWord).all (fun w => decide (w ∈ lw_tbl)) && (l.filter (fun w => !goodWord w)).all (fun w => decide (w ∈ XWB)) && l.all vx_ot
set_option maxRecDepth 100000 in
theorem sub_15 : subW ((xw_atoms "TakenUpByThePieces$Kinds" 15 eNS "java/lang/RuntimeException" ["java/lang/Exception"] 13 ⟨#[42, 43, 183, 0, 13, 177]⟩).filter vx_no) = true := by decide +kernel
set_option maxRecDepth 100000 in
theorem sub_22 : subW (vx_atS "TakenUpByThePieces$Kinds" 22 eUO rtn) = true := by decide +kernel
set_option maxRecDepth 100000 in
theorem sub_27 : subW (vx_atS "TakenUpByThePieces$Kinds" 27 eIS rtn) = true := by decide +kernel
set_option maxRecDepth 100000 in
theorem sub_281 : subW (vx_atS "TakenUpByThePieces" 281 eIA rtn) = true := by decide +kernel
set_option maxRecDepth 100000 in
theorem sub_288 : subW (vx_atS "TakenUpByThePieces" 288 eIS rtn) = true := by decide +kernel
theorem XWB_tabs : ∀ w ∈ XWB, w.onTables = true := by
  intro w hw
  simp only [XWB, List.mem_cons, List.not_mem_nil, or_false] at hw
  rcases hw with rfl | rfl | rfl | rfl | rfl | rfl | rfl <;> rfl
theorem sub_hat {args : Array Value} {s : State} {l : List Jvm.Cond} (h : subW l = true) (h1 : ∀ w ∈ WSg, w.before args s = true) (h2 : ∀ w ∈ XWB, va_Nw w s) : (∀ w ∈ l, w.before args s = true) ∧ ∀ w ∈ l, vx_ot w = true := by
  unfold subW at h
  rw [Bool.and_eq_true, Bool.and_eq_true] at h
  obtain ⟨⟨a, b⟩, c⟩ := h
  refine ⟨vx_hat (B := XWB) (fun w hw => h1 w (List.mem_filter.mpr ⟨of_decide_eq_true (List.all_eq_true.mp a w hw), (List.mem_filter.mp hw).2⟩)) (fun w hw => of_decide_eq_true (List.all_eq_true.mp b w hw)) (fun w hw => va_tabs (XWB_tabs w hw) rfl (h2 w hw)), fun w hw => List.all_eq_true.mp c w hw⟩

theorem dX1_failWith_27 : decode cX1_failWith 27 = .ok (.new 11, 3) := by decide +kernel
theorem dX1_failWith_30 : decode cX1_failWith 30 = .ok (.dup, 1) := by decide +kernel
theorem dX1_failWith_31 : decode cX1_failWith 31 = .ok (.ldc 13, 2) := by decide +kernel
theorem dX1_failWith_33 : decode cX1_failWith 33 = .ok (.invokespecial 15, 3) := by decide +kernel
theorem dX1_failWith_36 : decode cX1_failWith 36 = .ok (.athrow, 1) := by decide +kernel
theorem dX1_failWith_47 : decode cX1_failWith 47 = .ok (.new 18, 3) := by decide +kernel
theorem dX1_failWith_50 : decode cX1_failWith 50 = .ok (.dup, 1) := by decide +kernel
theorem dX1_failWith_51 : decode cX1_failWith 51 = .ok (.ldc 20, 2) := by decide +kernel
theorem dX1_failWith_53 : decode cX1_failWith 53 = .ok (.invokespecial 22, 3) := by decide +kernel
theorem dX1_failWith_56 : decode cX1_failWith 56 = .ok (.athrow, 1) := by decide +kernel
theorem dX1_failWith_57 : decode cX1_failWith 57 = .ok (.new 23, 3) := by decide +kernel
theorem dX1_failWith_60 : decode cX1_failWith 60 = .ok (.dup, 1) := by decide +kernel
theorem dX1_failWith_61 : decode cX1_failWith 61 = .ok (.ldc 25, 2) := by decide +kernel
theorem dX1_failWith_63 : decode cX1_failWith 63 = .ok (.invokespecial 27, 3) := by decide +kernel
theorem dX1_failWith_66 : decode cX1_failWith 66 = .ok (.athrow, 1) := by decide +kernel
set_option maxRecDepth 100000 in
theorem fw_k11 : InT (.classLink "TakenUpByThePieces$Kinds" 11 eNS) := ⟨by decide +kernel, rfl⟩
set_option maxRecDepth 100000 in
theorem fw_k18 : InT (.classLink "TakenUpByThePieces$Kinds" 18 eUO) := ⟨by decide +kernel, rfl⟩
set_option maxRecDepth 100000 in
theorem fw_k23 : InT (.classLink "TakenUpByThePieces$Kinds" 23 eIS) := ⟨by decide +kernel, rfl⟩
set_option maxRecDepth 100000 in
theorem fw_iNS : InT (.initialized eNS) := ⟨by decide +kernel, rfl⟩
set_option maxRecDepth 100000 in
theorem fw_iUO : InT (.initialized eUO) := ⟨by decide +kernel, rfl⟩
set_option maxRecDepth 100000 in
theorem fw_iIS : InT (.initialized eIS) := ⟨by decide +kernel, rfl⟩
set_option maxRecDepth 100000 in
theorem fw_iIA : InT (.initialized eIA) := ⟨by decide +kernel, rfl⟩
