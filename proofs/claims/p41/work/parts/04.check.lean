/-! the blocks are the code's own, and what they link stands in the tables: decided once -/
def WSg : List Jvm.Cond := lw_tbl.filter goodWord
/-- the length of an instruction that goes on -/
def slen : Instr → Nat
  | .bipush _ => 2 | .sipush _ => 3 | .ldc _ => 2 | .ldc_w _ => 3 | .ldc2_w _ => 3
  | .iload _ => 2 | .lload _ => 2 | .aload _ => 2 | .istore _ => 2 | .lstore _ => 2 | .astore _ => 2 | .iinc _ _ => 3
  | .getfield _ => 3 | .putfield _ => 3 | .invokestatic _ => 3
  | _ => 1
def okS (own maxL : Nat) (i : AI) : Bool := Nat.beq i.2.1 (slen i.1) && match i.1 with
  | .iconst n => decide (Int32.ofInt n = cst i.2.2.1 i.2.2.2.1)
  | .bipush n => decide ((Int8.ofInt n).toInt32 = cst i.2.2.1 i.2.2.2.1)
  | .sipush n => decide ((Int16.ofInt n).toInt32 = cst i.2.2.1 i.2.2.2.1)
  | .ldc k => ldT.contains (own, k, i.2.2.1, i.2.2.2.1)
  | .ldc_w k => ldT.contains (own, k, i.2.2.1, i.2.2.2.1)
  | .lconst n => decide (Int64.ofNat (n : Nat) = lcst i.2.2.1)
  | .ldc2_w k => llT.contains (own, k, i.2.2.1)
  | .istore n => Nat.blt n maxL
  | .istore_n n => Nat.blt n.val maxL
  | .lstore n => Nat.blt (n + 1) maxL
  | .lstore_n n => Nat.blt (n.val + 1) maxL
  | .astore n => Nat.blt n maxL
  | .astore_n n => Nat.blt n.val maxL
  | .iinc n c => Nat.blt n maxL && decide (Int32.ofInt c = cst i.2.2.1 i.2.2.2.1)
  | .getfield k => gfT.contains (own, k, i.2.2.1, i.2.2.2.1)
  | .putfield k => gfT.contains (own, k, i.2.2.1, i.2.2.2.1) && (fsh i.2.2.1 i.2.2.2.1).isNone
  | .invokestatic k => match i.2.2.1 with
    | 0 => acT.contains (own, k)
    | _ => mxT.contains (own, k)
  | _ => true
def nonneg (pc : Nat) (o : Int) : Bool := decide (0 ≤ (pc : Int) + o)
def okT (own : Nat) (ret : Option FieldType) (pc : Nat) (i : AI) : Bool := match i.1 with
  | .goto o => Nat.beq i.2.1 3 && nonneg pc o
  | .ifCond _ o => Nat.beq i.2.1 3 && nonneg pc o
  | .if_icmp _ o => Nat.beq i.2.1 3 && nonneg pc o
  | .ifnull o => Nat.beq i.2.1 3 && nonneg pc o
  | .ifnonnull o => Nat.beq i.2.1 3 && nonneg pc o
  | .tableswitch d lo hi offs => nonneg pc d && decide (0 ≤ lo) && decide (lo ≤ hi) && decide (hi < 1000) && decide (offs.size + lo.toNat = hi.toNat + 1) && offs.toList.all (nonneg pc)
  | .lookupswitch d ps => nonneg pc d && ps.toList.all (fun q => nonneg pc q.2 && decide (0 ≤ q.1) && decide (q.1 < 1000)) && (ps.toList.zip (ps.toList.drop 1)).all (fun (a, next) => a.1 < next.1)
  | .ireturn => Nat.beq i.2.1 1 && match ret with
    | some .int => Nat.beq i.2.2.1 0
    | some .boolean => Nat.beq i.2.2.1 1
    | _ => false
  | .lreturn => Nat.beq i.2.1 1 && match ret with
    | some .long => true
    | _ => false
  | .areturn => Nat.beq i.2.1 1 && match ret with
    | some (.object _) => true
    | _ => false
  | .return_ => Nat.beq i.2.1 1 && match ret with
    | none => true
    | _ => false
  | .invokestatic k => Nat.beq i.2.1 3 && (csT.contains (own, k, i.2.2.1, i.2.2.2.1) || cnT.contains (own, k, i.2.2.1, i.2.2.2.1))
  | .invokevirtual k => Nat.beq i.2.1 3 && cvT.contains (own, k, i.2.2.1, i.2.2.2.1) && (match nth mt i.2.2.1 with
    | some mi => Nat.beq mi.2.2.2.2.1 i.2.2.2.2
    | none => false)
  | _ => false
def okDec (cc : ByteArray) (pc : Nat) (i : AI) : Bool := decide (decode cc pc = .ok (i.1, i.2.1))
def okL (cc : ByteArray) (own maxL : Nat) (ret : Option FieldType) (t : Option AI) : List AI → Nat → Bool
  | [], pc => match t with
    | none => true
    | some i => okDec cc pc i && okT own ret pc i
  | i :: r, pc => okDec cc pc i && okS own maxL i && okL cc own maxL ret t r (pc + i.2.1)
def okBs (cc : ByteArray) (own maxL : Nat) (ret : Option FieldType) (bs : List Blk) : Bool := bs.all fun b => okL cc own maxL ret b.2.2 b.2.1 b.1
def okM (mi : MI) : Bool := okBs mi.2.1 mi.2.2.2.2.1 mi.2.2.1 mi.2.2.2.1 mi.2.2.2.2.2.2 && Nat.ble mi.2.2.1 20 && decide (mi.1.cls = cnm mi.2.2.2.2.1) && plainName mi.1.cls && decide (mi.1.cls ≠ "java/lang/invoke/MethodHandle") && decide (mi.1.cls ≠ "java/lang/invoke/VarHandle")
/-! what the links say stands in the tables -/
def InT (w : Jvm.Cond) : Prop := w ∈ lw_tbl ∧ goodWord w = true
theorem nth_mem {α : Type} {a : α} : ∀ {l : List α} {k : Nat}, nth l k = some a → a ∈ l
  | [], _, h => by cases h
  | b :: r, 0, h => by cases h; exact List.mem_cons_self
  | b :: r, k + 1, h => List.mem_cons_of_mem _ (nth_mem (l := r) (k := k) h)
def clT (ci : Nat) : u_T := match ci with
  | 0 => TX0
  | 1 => TX2
  | _ => TX3
def gfP (e : Nat × Nat × Nat × Nat) : Prop := e.2.2.2 < nfl e.2.2.1 ∧ InT (.fieldLink (cnm e.1) e.2.1 (cnm e.2.2.1) (clT e.2.2.1 e.2.2.2).2.1 (clT e.2.2.1 e.2.2.2).2.2.1)
def ldP (e : Nat × Nat × Nat × Nat) : Prop := InT (.constant (cnm e.1) e.2.1 (cst e.2.2.1 e.2.2.2))
def llP (e : Nat × Nat × Nat) : Prop := InT (.constantLong (cnm e.1) e.2.1 (lcst e.2.2))
def acP (e : Nat × Nat) : Prop := InT (.methodLink (cnm e.1) e.2 arraycopyName)
def mxP (e : Nat × Nat) : Prop := InT (.methodLink (cnm e.1) e.2 Lib.Math.max.name)
abbrev npar (y : MethodName) (n : Nat) : Prop := (parseMethodDescriptor y.desc).map (fun d => d.parameters.length) = some n
def csP (e : Nat × Nat × Nat × Nat) : Prop := ∃ mi, nth mt e.2.2.1 = some mi ∧ InT (.methodLink (cnm e.1) e.2.1 mi.1) ∧ InT (.static mi.1) ∧ InT (.initialized mi.1.cls) ∧ npar mi.1 e.2.2.2
def cnP (e : Nat × Nat × Nat × Nat) : Prop := ∃ mi, nth mt e.2.2.1 = some mi ∧ Jvm.Cond.methodLinkNest (cnm e.1) e.2.1 mi.1 (cnm 2) ∈ lw_tbl ∧ InT (.static mi.1) ∧ InT (.initialized mi.1.cls) ∧ npar mi.1 e.2.2.2
def cvP (e : Nat × Nat × Nat × Nat) : Prop := ∃ mi, nth mt e.2.2.1 = some mi ∧ InT (.methodLink (cnm e.1) e.2.1 mi.1) ∧ InT (.instanceMethod mi.1) ∧ InT (.initialized mi.1.cls) ∧ InT (.selects mi.1.cls mi.1 mi.1) ∧ 0 < e.2.2.2 ∧ npar mi.1 (e.2.2.2 - 1)
def cdP (mi : MI) : Prop := InT (.code mi.1 mi.2.1 mi.2.2.1 mi.2.2.2.1)
def inT (w : Jvm.Cond) : Bool := decide (w ∈ lw_tbl) && goodWord w
set_option maxRecDepth 100000 in
theorem lays_0 : (u_ws RX0 TX0 9).all inT = true := by decide +kernel
set_option maxRecDepth 100000 in
theorem lays_1 : (u_ws RX2 TX2 6).all inT = true := by decide +kernel
set_option maxRecDepth 100000 in
theorem lays_2 : (u_ws RX3 TX3 10).all inT = true := by decide +kernel
