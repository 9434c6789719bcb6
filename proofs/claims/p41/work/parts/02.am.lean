/-! THE ABSTRACT MACHINE: the system's objects stand still after they are made (no method but the constructors makes one that lasts), so a state of it is a memory of ints: Mem tag object place. References are pairs (tag, number of the object). What a method does is told by weakest preconditions over its blocks; part 03 ties that to the machine once for all methods. -/
abbrev AV : Type := Int32 ⊕ Int64 ⊕ Option (Nat × Nat)
abbrev ai (x : Int32) : AV := Sum.inl x
abbrev al (x : Int64) : AV := Sum.inr (Sum.inl x)
abbrev ar (t b : Nat) : AV := Sum.inr (Sum.inr (some (t, b)))
abbrev an : AV := Sum.inr (Sum.inr none)
abbrev Mem : Type := Nat → Nat → Nat → Int32
abbrev Lc : Type := List (Option AV)
abbrev AI : Type := Instr × Nat × Nat × Nat × Nat
/-- the tags: 0 a Board, 1 a Shelf, 2 the system; int arrays: 4..8 a Board's kind, figure, side, square, standing; 9 a Shelf's elements; 10, 11 gains; 12 the law's own row; 20 shelves; 21 minds; 22 the script -/
def fsh : Nat → Nat → Option (Nat × Nat)
  | 0, 0 => some (4, 0) | 0, 1 => some (5, 0) | 0, 2 => some (6, 0) | 0, 3 => some (7, 0) | 0, 4 => some (8, 0)
  | 1, 5 => some (9, 0)
  | 2, 0 => some (0, 0) | 2, 1 => some (0, 1) | 2, 3 => some (20, 0) | 2, 4 => some (21, 0) | 2, 5 => some (0, 2) | 2, 6 => some (0, 3) | 2, 7 => some (10, 0) | 2, 8 => some (11, 0)
  | _, _ => none
def nfl : Nat → Nat
  | 0 => 9 | 1 => 6 | 2 => 10 | _ => 0
/-- boolean fields -/
def fbo : Nat → Nat → Bool
  | 2, 2 => true | _, _ => false
/-- how many objects of a tag there are -/
def ocn : Nat → Nat
  | 0 => 12 | 1 => 8 | 2 => 1 | 4 => 12 | 5 => 12 | 6 => 12 | 7 => 12 | 8 => 12 | 9 => 8 | 10 => 1 | 11 => 1 | 12 => 1
  | 20 => 1 | 21 => 1 | 22 => 1 | _ => 0
/-- the int arrays' lengths (L: the script's and one more; 0: there is none) -/
def aln (L : Nat) : Nat → Nat
  | 4 => 10 | 5 => 10 | 6 => 10 | 7 => 10 | 8 => 36 | 9 => 100 | 10 => 4 | 11 => 4 | 12 => 64
  | 22 => L - 1 | _ => 0
def rel : Nat → Nat → Option (Nat × Nat)
  | 20, j => some (1, j) | 21, j => some (0, 4 + j) | _, _ => none
def alA (L : Nat) : Nat → Option Nat
  | 4 => some 10 | 5 => some 10 | 6 => some 10 | 7 => some 10 | 8 => some 36 | 9 => some 100 | 10 => some 4 | 11 => some 4 | 12 => some 64
  | 20 => some 8 | 21 => some 8 | 22 => (match L with
    | 0 => none
    | n + 1 => some n) | _ => none
def aval (h : Mem) (ci b k : Nat) : AV := match fsh ci k with
  | some q => ar q.1 (b + q.2)
  | none => ai (h ci b k)
def mset (h : Mem) (t b k : Nat) (x : Int32) : Mem := fun t' b' k' => if t' = t ∧ b' = b ∧ k' = k then x else h t' b' k'
def mcpy (h : Mem) (t0 b0 sp t1 b1 dp n : Nat) : Mem := fun t b k => if t = t1 ∧ b = b1 then va_cpy (h t0 b0) (h t1 b1) sp dp n k else h t b k
def cst (a s : Nat) : Int32 := match s with
  | 0 => Int32.ofNat a
  | _ => -(Int32.ofNat a)
def lcst (a : Nat) : Int64 := Int64.ofNat a
/-- locals -/
def lat : Lc → Nat → Option AV
  | [], _ => none
  | v :: _, 0 => v
  | _ :: r, n + 1 => lat r n
def lset : Lc → Nat → Option AV → Lc
  | [], _, _ => []
  | _ :: r, 0, v => v :: r
  | w :: r, n + 1, v => w :: lset r n v
def clr (ls : Lc) : Nat → Lc
  | 0 => ls
  | m + 1 => match lat ls m with
    | some (.inr (.inl _)) => lset ls m none
    | _ => ls
def st1 (ls : Lc) (n : Nat) (v : AV) : Lc := lset (clr ls n) n (some v)
def st2 (ls : Lc) (n : Nat) (v : AV) : Lc := lset (lset (clr ls n) n (some v)) (n + 1) none
def gI (ls : Lc) (n : Nat) (K : Int32 → Prop) : Prop := match lat ls n with
  | some (.inl x) => K x
  | _ => False
def gL (ls : Lc) (n : Nat) (K : Int64 → Prop) : Prop := match lat ls n with
  | some (.inr (.inl x)) => K x
  | _ => False
def gR (ls : Lc) (n : Nat) (K : Option (Nat × Nat) → Prop) : Prop := match lat ls n with
  | some (.inr (.inr x)) => K x
  | _ => False
/-- stacks -/
def pI (st : List AV) (K : Int32 → List AV → Prop) : Prop := match st with
  | .inl x :: r => K x r
  | _ => False
def pL (st : List AV) (K : Int64 → List AV → Prop) : Prop := match st with
  | .inr (.inl x) :: r => K x r
  | _ => False
def pR (st : List AV) (K : Option (Nat × Nat) → List AV → Prop) : Prop := match st with
  | .inr (.inr x) :: r => K x r
  | _ => False
def pI2 (st : List AV) (K : Int32 → Int32 → List AV → Prop) : Prop := match st with
  | .inl y :: .inl x :: r => K x y r
  | _ => False
def pL2 (st : List AV) (K : Int64 → Int64 → List AV → Prop) : Prop := match st with
  | .inr (.inl y) :: .inr (.inl x) :: r => K x y r
  | _ => False
/-- a reference on top, at an object -/
def pO (st : List AV) (K : Nat → Nat → List AV → Prop) : Prop := match st with
  | .inr (.inr (some (t, b))) :: r => K t b r
  | _ => False
/-- an int, then a reference -/
def pIO (st : List AV) (K : Int32 → Nat → Nat → List AV → Prop) : Prop := match st with
  | .inl i :: .inr (.inr (some (t, b))) :: r => K i t b r
  | _ => False
def pIIO (st : List AV) (K : Int32 → Int32 → Nat → Nat → List AV → Prop) : Prop := match st with
  | .inl x :: .inl i :: .inr (.inr (some (t, b))) :: r => K x i t b r
  | _ => False
def ifB (b : Bool) (P : Prop) : Prop := match b with
  | true => P
  | false => False
def cat1 : AV → Bool
  | .inr (.inl _) => false
  | _ => true
def catS : List AV → Nat
  | [] => 0
  | .inr (.inl _) :: r => 2 + catS r
  | .inl _ :: r => 1 + catS r
  | .inr (.inr _) :: r => 1 + catS r
/-- may ints be stored there -/
def isRow (t : Nat) : Bool := Nat.ble 4 t && Nat.ble t 19
/-- one instruction that goes on to the next -/
def wS (L : Nat) (i : AI) (ls : Lc) (st : List AV) (h : Mem) (K : Lc → List AV → Mem → Prop) : Prop :=
  match i.1 with
  | .iconst _ => K ls (ai (cst i.2.2.1 i.2.2.2.1) :: st) h
  | .bipush _ => K ls (ai (cst i.2.2.1 i.2.2.2.1) :: st) h
  | .sipush _ => K ls (ai (cst i.2.2.1 i.2.2.2.1) :: st) h
  | .ldc _ => K ls (ai (cst i.2.2.1 i.2.2.2.1) :: st) h
  | .ldc_w _ => K ls (ai (cst i.2.2.1 i.2.2.2.1) :: st) h
  | .lconst _ => K ls (al (lcst i.2.2.1) :: st) h
  | .ldc2_w _ => K ls (al (lcst i.2.2.1) :: st) h
  | .aconst_null => K ls (an :: st) h
  | .iload n => gI ls n fun x => K ls (ai x :: st) h
  | .iload_n n => gI ls n.val fun x => K ls (ai x :: st) h
  | .lload n => gL ls n fun x => K ls (al x :: st) h
  | .lload_n n => gL ls n.val fun x => K ls (al x :: st) h
  | .aload n => gR ls n fun x => K ls (.inr (.inr x) :: st) h
  | .aload_n n => gR ls n.val fun x => K ls (.inr (.inr x) :: st) h
  | .istore n => pI st fun x r => K (st1 ls n (ai x)) r h
  | .istore_n n => pI st fun x r => K (st1 ls n.val (ai x)) r h
  | .lstore n => pL st fun x r => K (st2 ls n (al x)) r h
  | .lstore_n n => pL st fun x r => K (st2 ls n.val (al x)) r h
  | .astore n => pR st fun x r => K (st1 ls n (.inr (.inr x))) r h
  | .astore_n n => pR st fun x r => K (st1 ls n.val (.inr (.inr x))) r h
  | .iinc n _ => gI ls n fun x => K (st1 ls n (ai (x + cst i.2.2.1 i.2.2.2.1))) st h
  | .iadd => pI2 st fun x y r => K ls (ai (x + y) :: r) h
  | .isub => pI2 st fun x y r => K ls (ai (x - y) :: r) h
  | .imul => pI2 st fun x y r => K ls (ai (x * y) :: r) h
  | .iand => pI2 st fun x y r => K ls (ai (x &&& y) :: r) h
  | .ior => pI2 st fun x y r => K ls (ai (x ||| y) :: r) h
  | .ixor => pI2 st fun x y r => K ls (ai (x ^^^ y) :: r) h
  | .ishl => pI2 st fun x y r => K ls (ai (x <<< (y &&& 31)) :: r) h
  | .ishr => pI2 st fun x y r => K ls (ai (x >>> (y &&& 31)) :: r) h
  | .iushr => pI2 st fun x y r => K ls (ai ((x.toUInt32 >>> (y.toUInt32 &&& Int32.toUInt32 31)).toInt32) :: r) h
  | .idiv => pI2 st fun x y r => ¬ y = 0 ∧ K ls (ai (x / y) :: r) h
  | .irem => pI2 st fun x y r => ¬ y = 0 ∧ K ls (ai (x % y) :: r) h
  | .ineg => pI st fun x r => K ls (ai (-x) :: r) h
  | .i2l => pI st fun x r => K ls (al x.toInt64 :: r) h
  | .i2b => pI st fun x r => K ls (ai x.toInt8.toInt32 :: r) h
  | .i2s => pI st fun x r => K ls (ai x.toInt16.toInt32 :: r) h
  | .ladd => pL2 st fun x y r => K ls (al (x + y) :: r) h
  | .lmul => pL2 st fun x y r => K ls (al (x * y) :: r) h
  | .ldiv => pL2 st fun x y r => ¬ y = 0 ∧ K ls (al (x / y) :: r) h
  | .lrem => pL2 st fun x y r => ¬ y = 0 ∧ K ls (al (x % y) :: r) h
  | .lcmp => pL2 st fun x y r => K ls (ai (lg_cmp x y) :: r) h
  | .dup => match st with
    | v :: r => ifB (cat1 v) (K ls (v :: v :: r) h)
    | _ => False
  | .dup2 => match st with
    | v :: w :: r => ifB (cat1 v && cat1 w) (K ls (v :: w :: v :: w :: r) h)
    | _ => False
  | .pop => match st with
    | v :: r => ifB (cat1 v) (K ls r h)
    | _ => False
  | .getfield _ => pO st fun t b r => ifB (Nat.beq t i.2.2.1) (K ls (aval h i.2.2.1 b i.2.2.2.1 :: r) h)
  | .putfield _ => pIO st fun x t b r => ifB (Nat.beq t i.2.2.1) (if fbo i.2.2.1 i.2.2.2.1 = true then (x = 0 ∨ x = 1) ∧ K ls r (mset h i.2.2.1 b i.2.2.2.1 x) else K ls r (mset h i.2.2.1 b i.2.2.2.1 x))
  | .iaload => pIO st fun j t b r => vp_in j (aln L t) ∧ K ls (ai (h t b j.toNatClampNeg) :: r) h
  | .iastore => pIIO st fun x j t b r => ifB (isRow t) (vp_in j (aln L t) ∧ K ls r (mset h t b j.toNatClampNeg x))
  | .aaload => pIO st fun j t _ r => vp_in j 8 ∧ match rel t j.toNatClampNeg with
    | some q => K ls (.inr (.inr (some q)) :: r) h
    | none => False
  | .arraylength => pO st fun t _ r => match alA L t with
    | some n => K ls (ai (Int32.ofNat n) :: r) h
    | none => False
  | .invokestatic _ => match i.2.2.1 with
    | 0 => match st with
      | .inl n :: .inl dp :: .inr (.inr (some (t1, b1))) :: .inl sp :: .inr (.inr (some (t0, b0))) :: r =>
        ifB (isRow t0 && isRow t1) (¬ sp < 0 ∧ ¬ dp < 0 ∧ ¬ n < 0 ∧ sp.toNatClampNeg + n.toNatClampNeg ≤ aln L t0 ∧ dp.toNatClampNeg + n.toNatClampNeg ≤ aln L t1 ∧ ifB (Nat.ble (catS r) 8) (K ls r (mcpy h t0 b0 sp.toNatClampNeg t1 b1 dp.toNatClampNeg n.toNatClampNeg)))
      | _ => False
    | _ => pI2 st fun x y r => ifB (Nat.ble (catS r) 8) (K ls (ai (if x < y then y else x) :: r) h)
  | _ => False
def tgt (pc : Nat) (o : Int) : Nat := ((pc : Int) + o).toNat
def cnd (c : Jvm.ClassFile.Cond) (x y : Int32) : Prop := match c with
  | .eq => x = y
  | .ne => ¬ x = y
  | .lt => x < y
  | .ge => y ≤ x
  | .gt => y < x
  | .le => x ≤ y
def swT (pc : Nat) (x : Int32) (K : Nat → Prop) : List Int → Nat → Prop
  | [], _ => True
  | o :: r, n => (x = Int32.ofNat n → K (tgt pc o)) ∧ swT pc x K r (n + 1)
def lkT (pc : Nat) (x : Int32) (K : Nat → Prop) : List (Int × Int) → Prop
  | [] => True
  | q :: r => (x = Int32.ofNat q.1.toNat → K (tgt pc q.2)) ∧ lkT pc x K r
def lkN (x : Int32) : List (Int × Int) → Prop
  | [] => True
  | q :: r => ¬ x = Int32.ofNat q.1.toNat ∧ lkN x r
/-- the topmost n of a stack, the lowest first; what lies below them -/
def rtk : Nat → List AV → List AV → List AV
  | 0, _, acc => acc
  | _ + 1, [], acc => acc
  | n + 1, v :: r, acc => rtk n r (v :: acc)
def drp : Nat → List AV → List AV
  | 0, st => st
  | _ + 1, [] => []
  | n + 1, _ :: r => drp n r
def isOb (t : Nat) : List AV → Bool
  | .inr (.inr (some q)) :: _ => Nat.beq q.1 t
  | _ => false
/-- the last instruction of a block: the aux of a call: the callee's number, how many arguments, the receiver's tag; of ireturn: 1 where a boolean is answered -/
def wT (CL : Nat → List AV → Mem → (Option AV → Mem → Prop) → Prop) (i : AI) (pc : Nat) (ls : Lc) (st : List AV) (h : Mem) (K : Nat → Lc → List AV → Mem → Prop) (Rt : Option AV → Mem → Prop) : Prop :=
  match i.1 with
  | .goto o => K (tgt pc o) ls st h
  | .ifCond c o => pI st fun x r => (cnd c x 0 → K (tgt pc o) ls r h) ∧ (¬ cnd c x 0 → K (pc + 3) ls r h)
  | .if_icmp c o => pI2 st fun x y r => (cnd c x y → K (tgt pc o) ls r h) ∧ (¬ cnd c x y → K (pc + 3) ls r h)
  | .ifnull o => pR st fun x r => match x with
    | none => K (tgt pc o) ls r h
    | some _ => K (pc + 3) ls r h
  | .ifnonnull o => pR st fun x r => match x with
    | none => K (pc + 3) ls r h
    | some _ => K (tgt pc o) ls r h
  | .tableswitch d lo hi offs => pI st fun x r => swT pc x (fun q => K q ls r h) offs.toList lo.toNat ∧ (x < Int32.ofNat lo.toNat ∨ Int32.ofNat hi.toNat < x → K (tgt pc d) ls r h)
  | .lookupswitch d ps => pI st fun x r => lkT pc x (fun q => K q ls r h) ps.toList ∧ (lkN x ps.toList → K (tgt pc d) ls r h)
  | .ireturn => match st with
    | [.inl x] => match i.2.2.1 with
      | 0 => Rt (some (ai x)) h
      | _ => (x = 0 ∨ x = 1) ∧ Rt (some (ai x)) h
    | _ => False
  | .lreturn => match st with
    | [.inr (.inl x)] => Rt (some (al x)) h
    | _ => False
  | .areturn => match st with
    | [.inr (.inr x)] => Rt (some (.inr (.inr x))) h
    | _ => False
  | .return_ => match st with
    | [] => Rt none h
    | _ => False
  | .invokestatic _ => ifB (Nat.ble i.2.2.2.1 st.length && Nat.ble (catS (drp i.2.2.2.1 st)) 8) (CL i.2.2.1 (rtk i.2.2.2.1 st []) h fun v h' => K (pc + 3) ls (v.toList ++ drp i.2.2.2.1 st) h')
  | .invokevirtual _ => ifB (Nat.ble i.2.2.2.1 st.length && Nat.ble (catS (drp i.2.2.2.1 st)) 8 && isOb i.2.2.2.2 (rtk i.2.2.2.1 st [])) (CL i.2.2.1 (rtk i.2.2.2.1 st []) h fun v h' => K (pc + 3) ls (v.toList ++ drp i.2.2.2.1 st) h')
  | _ => False
/-- a block: instructions that go on, and a last one (none: it falls through) -/
abbrev Blk : Type := Nat × List AI × Option AI
def wB (CL : Nat → List AV → Mem → (Option AV → Mem → Prop) → Prop) (L : Nat) (K : Nat → Lc → List AV → Mem → Prop) (Rt : Option AV → Mem → Prop) (t : Option AI) : List AI → Nat → Lc → List AV → Mem → Prop
  | [], pc, ls, st, h => match t with
    | none => K pc ls st h
    | some i => wT CL i pc ls st h K Rt
  | i :: r, pc, ls, st, h => wS L i ls st h fun ls' st' h' => wB CL L K Rt t r (pc + i.2.1) ls' st' h'
def blk : List Blk → Nat → Option (List AI × Option AI)
  | [], _ => none
  | b :: r, pc => match Nat.beq b.1 pc with
    | true => some b.2
    | false => blk r pc
/-- what is closed under the blocks' preconditions -/
def Cls (bs : List Blk) (CL : Nat → List AV → Mem → (Option AV → Mem → Prop) → Prop) (L : Nat) (Stop : Nat → Lc → List AV → Mem → Prop) (Rt : Option AV → Mem → Prop) (P : Nat → Lc → List AV → Mem → Prop) : Prop :=
  ∀ (pc : Nat) (ls : Lc) (st : List AV) (h : Mem), (Stop pc ls st h ∨ ∃ (ss : List AI) (t : Option AI), blk bs pc = some (ss, t) ∧ wB CL L P Rt t ss pc ls st h) → P pc ls st h
/-- from there the method comes to a stop or returns as Rt says -/
def Rch (bs : List Blk) (CL : Nat → List AV → Mem → (Option AV → Mem → Prop) → Prop) (L : Nat) (Stop : Nat → Lc → List AV → Mem → Prop) (Rt : Option AV → Mem → Prop) (pc : Nat) (ls : Lc) (st : List AV) (h : Mem) : Prop :=
  ∀ P, Cls bs CL L Stop Rt P → P pc ls st h
/-- a method: name, code, locals, answer, own class (0 Board, 1 Shelf, 2 the system, 3 the reference, 4 Kinds, 5 Integer, 6 Math, 7 Arrays, 8 the law), arguments (this too), blocks -/
abbrev MI : Type := MethodName × ByteArray × Nat × Option FieldType × Nat × Nat × List Blk
def lay : List AV → Lc
  | [] => []
  | .inr (.inl x) :: r => some (al x) :: none :: lay r
  | .inl x :: r => some (ai x) :: lay r
  | .inr (.inr x) :: r => some (.inr (.inr x)) :: lay r
def entL (n : Nat) (args : List AV) : Lc := lay args ++ List.replicate (n - (lay args).length) none
def nth {α : Type} : List α → Nat → Option α
  | [], _ => none
  | a :: _, 0 => some a
  | _ :: r, n + 1 => nth r n
/-- at depth d, method j of the table mt from args and h comes back as Q says -/
def Rn (mt : List MI) (L : Nat) : Nat → Nat → List AV → Mem → (Option AV → Mem → Prop) → Prop
  | 0, _, _, _, _ => False
  | d + 1, j, args, h, Q => ∃ mi, nth mt j = some mi ∧ Nat.ble (lay args).length mi.2.2.1 = true ∧ Rch mi.2.2.2.2.2.2 (Rn mt L d) L (fun _ _ _ _ => False) Q 0 (entL mi.2.2.1 args) [] h
/-! monotony -/
theorem gI_mono {ls : Lc} {n : Nat} {K K' : Int32 → Prop} (hK : ∀ x, K x → K' x) (h : gI ls n K) : gI ls n K' := by
  unfold gI at h ⊢; split at h
  · exact hK _ h
  · exact h.elim
theorem gL_mono {ls : Lc} {n : Nat} {K K' : Int64 → Prop} (hK : ∀ x, K x → K' x) (h : gL ls n K) : gL ls n K' := by
  unfold gL at h ⊢; split at h
  · exact hK _ h
  · exact h.elim
theorem gR_mono {ls : Lc} {n : Nat} {K K' : Option (Nat × Nat) → Prop} (hK : ∀ x, K x → K' x) (h : gR ls n K) : gR ls n K' := by
  unfold gR at h ⊢; split at h
  · exact hK _ h
  · exact h.elim
theorem pI_mono {st : List AV} {K K' : Int32 → List AV → Prop} (hK : ∀ x r, K x r → K' x r) (h : pI st K) : pI st K' := by
  unfold pI at h ⊢; split at h
  · exact hK _ _ h
  · exact h.elim
theorem pL_mono {st : List AV} {K K' : Int64 → List AV → Prop} (hK : ∀ x r, K x r → K' x r) (h : pL st K) : pL st K' := by
  unfold pL at h ⊢; split at h
  · exact hK _ _ h
  · exact h.elim
theorem pR_mono {st : List AV} {K K' : Option (Nat × Nat) → List AV → Prop} (hK : ∀ x r, K x r → K' x r) (h : pR st K) : pR st K' := by
  unfold pR at h ⊢; split at h
  · exact hK _ _ h
  · exact h.elim
theorem pI2_mono {st : List AV} {K K' : Int32 → Int32 → List AV → Prop} (hK : ∀ x y r, K x y r → K' x y r) (h : pI2 st K) : pI2 st K' := by
  unfold pI2 at h ⊢; split at h
  · exact hK _ _ _ h
  · exact h.elim
theorem pL2_mono {st : List AV} {K K' : Int64 → Int64 → List AV → Prop} (hK : ∀ x y r, K x y r → K' x y r) (h : pL2 st K) : pL2 st K' := by
  unfold pL2 at h ⊢; split at h
  · exact hK _ _ _ h
  · exact h.elim
theorem pO_mono {st : List AV} {K K' : Nat → Nat → List AV → Prop} (hK : ∀ x y r, K x y r → K' x y r) (h : pO st K) : pO st K' := by
  unfold pO at h ⊢; split at h
  · exact hK _ _ _ h
  · exact h.elim
theorem pIO_mono {st : List AV} {K K' : Int32 → Nat → Nat → List AV → Prop} (hK : ∀ i x y r, K i x y r → K' i x y r) (h : pIO st K) : pIO st K' := by
  unfold pIO at h ⊢; split at h
  · exact hK _ _ _ _ h
  · exact h.elim
theorem pIIO_mono {st : List AV} {K K' : Int32 → Int32 → Nat → Nat → List AV → Prop} (hK : ∀ j i x y r, K j i x y r → K' j i x y r) (h : pIIO st K) : pIIO st K' := by
  unfold pIIO at h ⊢; split at h
  · exact hK _ _ _ _ _ h
  · exact h.elim
theorem ifB_mono {b : Bool} {P P' : Prop} (hP : P → P') (h : ifB b P) : ifB b P' := by
  cases b
  · exact h
  · exact hP h
theorem ifB_t {b : Bool} {P : Prop} (h : ifB b P) : b = true ∧ P := by
  cases b
  · exact h.elim
  · exact ⟨rfl, h⟩
theorem wS_mono {L : Nat} {i : AI} {ls : Lc} {st : List AV} {h : Mem} {K K' : Lc → List AV → Mem → Prop} (hK : ∀ a b c, K a b c → K' a b c) (hw : wS L i ls st h K) : wS L i ls st h K' := by
  obtain ⟨ins, n, a, b, c⟩ := i
  cases ins <;> first
    | exact hw.elim
    | exact hK _ _ _ hw
    | exact gI_mono (fun _ q => hK _ _ _ q) hw
    | exact gL_mono (fun _ q => hK _ _ _ q) hw
    | exact gR_mono (fun _ q => hK _ _ _ q) hw
    | exact pI_mono (fun _ _ q => hK _ _ _ q) hw
    | exact pL_mono (fun _ _ q => hK _ _ _ q) hw
    | exact pR_mono (fun _ _ q => hK _ _ _ q) hw
    | exact pI2_mono (fun _ _ _ q => hK _ _ _ q) hw
    | exact pL2_mono (fun _ _ _ q => hK _ _ _ q) hw
    | exact pI2_mono (fun _ _ _ q => ⟨q.1, hK _ _ _ q.2⟩) hw
    | exact pL2_mono (fun _ _ _ q => ⟨q.1, hK _ _ _ q.2⟩) hw
    | exact pO_mono (fun _ _ _ q => ifB_mono (hK _ _ _) q) hw
    | exact pIO_mono (fun _ _ _ _ q => ⟨q.1, hK _ _ _ q.2⟩) hw
    | exact pIIO_mono (fun _ _ _ _ _ q => ifB_mono (fun q => ⟨q.1, hK _ _ _ q.2⟩) q) hw
    | skip
  case dup => cases st with
    | nil => exact hw.elim
    | cons v r => exact ifB_mono (hK _ _ _) hw
  case pop => cases st with
    | nil => exact hw.elim
    | cons v r => exact ifB_mono (hK _ _ _) hw
  case dup2 => match st, hw with
    | [], hw => exact hw.elim
    | [_], hw => exact hw.elim
    | v :: w :: r, hw => exact ifB_mono (hK _ _ _) hw
  case putfield =>
    refine pIO_mono (fun _ _ _ _ q => ifB_mono (fun q => ?_) q) hw
    split at q
    · rename_i hf; rw [if_pos hf]; exact ⟨q.1, hK _ _ _ q.2⟩
    · rename_i hf; rw [if_neg hf]; exact hK _ _ _ q
  case aaload =>
    refine pIO_mono (fun _ _ _ _ q => ⟨q.1, ?_⟩) hw
    have q2 := q.2
    split at q2
    · exact hK _ _ _ q2
    · exact q2.elim
  case arraylength =>
    refine pO_mono (fun _ _ _ q => ?_) hw
    split at q
    · exact hK _ _ _ q
    · exact q.elim
  case invokestatic =>
    dsimp only [wS] at hw ⊢
    split at hw
    · split at hw
      · exact ifB_mono (fun q => ⟨q.1, q.2.1, q.2.2.1, q.2.2.2.1, q.2.2.2.2.1, ifB_mono (hK _ _ _) q.2.2.2.2.2⟩) hw
      · exact hw.elim
    · exact pI2_mono (fun _ _ _ q => ifB_mono (hK _ _ _) q) hw
def CLmono (CL : Nat → List AV → Mem → (Option AV → Mem → Prop) → Prop) : Prop := ∀ (j : Nat) (as : List AV) (h : Mem) (Q Q' : Option AV → Mem → Prop), (∀ v h', Q v h' → Q' v h') → CL j as h Q → CL j as h Q'
theorem swT_mono {pc : Nat} {x : Int32} {K K' : Nat → Prop} (hK : ∀ q, K q → K' q) : ∀ (l : List Int) (n : Nat), swT pc x K l n → swT pc x K' l n
  | [], _, _ => trivial
  | _ :: r, n, h => ⟨fun e => hK _ (h.1 e), swT_mono hK r (n + 1) h.2⟩
theorem lkT_mono {pc : Nat} {x : Int32} {K K' : Nat → Prop} (hK : ∀ q, K q → K' q) : ∀ (l : List (Int × Int)), lkT pc x K l → lkT pc x K' l
  | [], _ => trivial
  | _ :: r, h => ⟨fun e => hK _ (h.1 e), lkT_mono hK r h.2⟩
theorem wT_mono {CL : Nat → List AV → Mem → (Option AV → Mem → Prop) → Prop} (hC : CLmono CL) {i : AI} {pc : Nat} {ls : Lc} {st : List AV} {h : Mem} {K K' : Nat → Lc → List AV → Mem → Prop} {Rt Rt' : Option AV → Mem → Prop} (hK : ∀ q a b c, K q a b c → K' q a b c) (hR : ∀ v h', Rt v h' → Rt' v h') (hw : wT CL i pc ls st h K Rt) : wT CL i pc ls st h K' Rt' := by
  obtain ⟨ins, n, a, b, c⟩ := i
  cases ins <;> first
    | exact hw.elim
    | exact hK _ _ _ _ hw
    | exact pI_mono (fun _ _ q => ⟨fun e => hK _ _ _ _ (q.1 e), fun e => hK _ _ _ _ (q.2 e)⟩) hw
    | exact pI2_mono (fun _ _ _ q => ⟨fun e => hK _ _ _ _ (q.1 e), fun e => hK _ _ _ _ (q.2 e)⟩) hw
    | exact ifB_mono (hC _ _ _ _ _ (fun _ _ q => hK _ _ _ _ q)) hw
    | skip
  case ifnull => exact pR_mono (fun x _ q => by cases x <;> exact hK _ _ _ _ q) hw
  case ifnonnull => exact pR_mono (fun x _ q => by cases x <;> exact hK _ _ _ _ q) hw
  case tableswitch => exact pI_mono (fun _ _ q => ⟨swT_mono (fun _ z => hK _ _ _ _ z) _ _ q.1, fun e => hK _ _ _ _ (q.2 e)⟩) hw
  case lookupswitch => exact pI_mono (fun _ _ q => ⟨lkT_mono (fun _ z => hK _ _ _ _ z) _ q.1, fun e => hK _ _ _ _ (q.2 e)⟩) hw
  case ireturn =>
    dsimp only [wT] at hw ⊢
    split at hw
    · split at hw
      · exact hR _ _ hw
      · exact ⟨hw.1, hR _ _ hw.2⟩
    · exact hw.elim
  case lreturn =>
    dsimp only [wT] at hw ⊢
    split at hw
    · exact hR _ _ hw
    · exact hw.elim
  case areturn =>
    dsimp only [wT] at hw ⊢
    split at hw
    · exact hR _ _ hw
    · exact hw.elim
  case return_ =>
    dsimp only [wT] at hw ⊢
    split at hw
    · exact hR _ _ hw
    · exact hw.elim
theorem wB_mono {CL : Nat → List AV → Mem → (Option AV → Mem → Prop) → Prop} (hC : CLmono CL) {L : Nat} {K K' : Nat → Lc → List AV → Mem → Prop} {Rt Rt' : Option AV → Mem → Prop} (hK : ∀ q a b c, K q a b c → K' q a b c) (hR : ∀ v h', Rt v h' → Rt' v h') (t : Option AI) : ∀ (ss : List AI) (pc : Nat) (ls : Lc) (st : List AV) (h : Mem), wB CL L K Rt t ss pc ls st h → wB CL L K' Rt' t ss pc ls st h
  | [], pc, ls, st, h, hw => by
    cases t with
    | none => exact hK _ _ _ _ hw
    | some i => exact wT_mono hC hK hR hw
  | i :: r, pc, ls, st, h, hw => wS_mono (fun a b c q => wB_mono hC hK hR t r _ a b c q) hw
theorem Rch.mono {bs : List Blk} {CL : Nat → List AV → Mem → (Option AV → Mem → Prop) → Prop} (hC : CLmono CL) {L : Nat} {Stop Stop' : Nat → Lc → List AV → Mem → Prop} {Rt Rt' : Option AV → Mem → Prop} (hS : ∀ q a b c, Stop q a b c → Stop' q a b c) (hR : ∀ v h', Rt v h' → Rt' v h') {pc : Nat} {ls : Lc} {st : List AV} {h : Mem} (H : Rch bs CL L Stop Rt pc ls st h) : Rch bs CL L Stop' Rt' pc ls st h := by
  intro P hP
  refine H P fun pc ls st h hh => hP pc ls st h ?_
  rcases hh with hh | ⟨ss, t, h1, h2⟩
  · exact Or.inl (hS _ _ _ _ hh)
  · exact Or.inr ⟨ss, t, h1, wB_mono hC (fun _ _ _ _ q => q) hR t ss pc ls st h h2⟩
theorem Rch.stop {bs : List Blk} {CL : Nat → List AV → Mem → (Option AV → Mem → Prop) → Prop} {L : Nat} {Stop : Nat → Lc → List AV → Mem → Prop} {Rt : Option AV → Mem → Prop} {pc : Nat} {ls : Lc} {st : List AV} {h : Mem} (H : Stop pc ls st h) : Rch bs CL L Stop Rt pc ls st h := fun _ hP => hP pc ls st h (Or.inl H)
/-- THE RULE: a block's precondition -/
theorem Rch.blk' {bs : List Blk} {CL : Nat → List AV → Mem → (Option AV → Mem → Prop) → Prop} (hC : CLmono CL) {L : Nat} {Stop : Nat → Lc → List AV → Mem → Prop} {Rt : Option AV → Mem → Prop} {pc : Nat} {ls : Lc} {st : List AV} {h : Mem} {ss : List AI} {t : Option AI} (hb : blk bs pc = some (ss, t)) (H : wB CL L (Rch bs CL L Stop Rt) Rt t ss pc ls st h) : Rch bs CL L Stop Rt pc ls st h :=
  fun P hP => hP pc ls st h (Or.inr ⟨ss, t, hb, wB_mono hC (fun _ _ _ _ q => q P hP) (fun _ _ q => q) t ss pc ls st h H⟩)
theorem Rn_mono (mt : List MI) (L : Nat) : ∀ d : Nat, CLmono (Rn mt L d)
  | 0 => fun _ _ _ _ _ _ h => h.elim
  | d + 1 => fun j as h Q Q' hQ ⟨mi, h1, h0, h2⟩ => ⟨mi, h1, h0, h2.mono (Rn_mono mt L d) (fun _ _ _ _ q => q) hQ⟩
/-- a method's call is its blocks from the entry -/
theorem Rn.intro {mt : List MI} {L d j : Nat} {as : List AV} {h : Mem} {Q : Option AV → Mem → Prop} (mi : MI) (hj : nth mt j = some mi) (ha : Nat.ble (lay as).length mi.2.2.1 = true) (H : Rch mi.2.2.2.2.2.2 (Rn mt L d) L (fun _ _ _ _ => False) Q 0 (entL mi.2.2.1 as) [] h) : Rn mt L (d + 1) j as h Q := ⟨mi, hj, ha, H⟩
theorem Rn.up {mt : List MI} {L : Nat} : ∀ {d : Nat} {j : Nat} {as : List AV} {h : Mem} {Q : Option AV → Mem → Prop}, Rn mt L d j as h Q → Rn mt L (d + 1) j as h Q := by
  intro d
  induction d with
  | zero => intro j as h Q H; exact H.elim
  | succ d ih =>
    intro j as h Q H
    obtain ⟨mi, h1, h0, h2⟩ := H
    refine ⟨mi, h1, h0, fun P hP => h2 P fun pc ls st h hh => hP pc ls st h ?_⟩
    rcases hh with hh | ⟨ss, t, q1, q2⟩
    · exact Or.inl hh
    · refine Or.inr ⟨ss, t, q1, ?_⟩
      clear hP h2 h1 q1
      induction ss generalizing pc ls st h with
      | nil =>
        cases t with
        | none => exact q2
        | some i =>
          obtain ⟨ins, n, a, b, c⟩ := i
          cases ins <;> first | exact q2 | exact ifB_mono (fun z => ih z) q2
      | cons i r ihr => exact wS_mono (K := fun ls' st' h' => wB (Rn mt L d) L P Q t r (pc + i.2.1) ls' st' h') (fun a b c z => ihr (pc + i.2.1) a b c z) q2
