/-! what a piece of code needs so that a run comes to an end with what is asked (a function of its instructions) -/
abbrev LT : Type := List (Option AV)
abbrev PT : Type := Nat → LT → List AV → AX → Nat → Nat → Prop
abbrev IV : Type := List AV → AX → Nat → Nat → (List AV → AX → Nat → Nat → Prop) → (String → AX → Nat → Nat → Prop) → Prop
def allL {α : Type} (f : α → Prop) : List α → Prop
  | [] => True
  | a :: t => f a ∧ allL f t
theorem allL_mem {α : Type} {f : α → Prop} : ∀ {l : List α}, allL f l → ∀ a ∈ l, f a
  | _ :: _, h, a, ha => by
    rcases List.mem_cons.mp ha with rfl | h2
    · exact h.1
    · exact allL_mem h.2 a h2
/-- a method's tables: shapes known ahead; fields; static rows; constants; what 'new' makes; calls; most cells; most slots; how it returns -/
abbrev MT : Type := (Nat → Option (Nat × Nat)) × List (Nat × Nat × Nat × Nat) × List (Nat × Nat) × List (Nat × AV) × List (Nat × (Nat ⊕ String)) × (Nat → IV) × Nat × Nat × Nat
abbrev mTb (M : MT) := M.1
abbrev mF (M : MT) := M.2.1
abbrev mSt (M : MT) := M.2.2.1
abbrev mC (M : MT) := M.2.2.2.1
abbrev mNw (M : MT) := M.2.2.2.2.1
abbrev mIv (M : MT) := M.2.2.2.2.2.1
abbrev mMc (M : MT) := M.2.2.2.2.2.2.1
abbrev mMs (M : MT) := M.2.2.2.2.2.2.2.1
abbrev mRt (M : MT) := M.2.2.2.2.2.2.2.2
def shp (tb : Nat → Option (Nat × Nat)) (X : AX) (i : Nat) : Nat × Nat := match tb i with
  | some s => s
  | none => xS X i
def onSome (r : Option Nat) (f : Nat → Prop) : Prop := match r with
  | some i => f i
  | none => False
def jt (pc : Nat) (o : Int) : Nat := ((pc : Int) + o).toNat
def is2 (v : Option AV) : Bool := match v with
  | some (.inr (.inl _)) => true
  | _ => false
def clr (L : LT) (i : Nat) : LT := match i with
  | 0 => L
  | j + 1 => if is2 (L.getD j none) = true then L.set j none else L
def stL1 (L : LT) (i : Nat) (v : AV) : LT := (clr L i).set i (some v)
def stL2 (L : LT) (i : Nat) (v : AV) : LT := ((clr L i).set i (some v)).set (i + 1) none
def u1 {β : Type} (f : Nat → β) (i : Nat) (g : β) : Nat → β := fun a => if a = i then g else f a
def alloc (X : AX) (s : Nat × Nat) : AX := (u1 (xS X) (xN X) s, u1 (xI X) (xN X) (fun _ => 0), u1 (xJ X) (xN X) (fun _ => 0), u1 (xR X) (xN X) (fun _ => none), xN X + 1)
def b2I (f : Int32 → Int32 → Int32) (st : List AV) : Option (List AV) := match st with
  | .inl y :: .inl x :: r => some (vI (f x y) :: r)
  | _ => none
def b2L (f : Int64 → Int64 → Int64) (st : List AV) : Option (List AV) := match st with
  | .inr (.inl y) :: .inr (.inl x) :: r => some (vL (f x y) :: r)
  | _ => none
def sLI (f : Int64 → Int32 → Int64) (st : List AV) : Option (List AV) := match st with
  | .inl y :: .inr (.inl x) :: r => some (vL (f x y) :: r)
  | _ => none
def o1I (f : Int32 → AV) (st : List AV) : Option (List AV) := match st with
  | .inl x :: r => some (f x :: r)
  | _ => none
def o1L (f : Int64 → AV) (st : List AV) : Option (List AV) := match st with
  | .inr (.inl x) :: r => some (f x :: r)
  | _ => none
def c1 (v : AV) : Bool := match v with
  | .inr (.inl _) => false
  | _ => true
def ilen : Instr → Nat
  | .bipush _ | .iload _ | .lload _ | .aload _ | .fload _ | .istore _ | .lstore _ | .astore _ | .fstore _ | .ldc _ | .newarray _ => 2
  | .sipush _ | .ldc_w _ | .ldc2_w _ | .ifCond _ _ | .if_icmp _ _ | .if_acmp _ _ | .goto _ | .getfield _ | .putfield _ | .getstatic _ | .new _ | .anewarray _ | .checkcast _ | .invokevirtual _ | .invokespecial _ | .invokestatic _ | .iinc _ _ => 3
  | _ => 1
/-- what only turns the stack -/
def aluF (ins : Instr) (st : List AV) : Option (List AV) := match ins with
  | .iconst n => some (vI (Int32.ofInt n) :: st)
  | .bipush n => some (vI (Int8.ofInt n).toInt32 :: st)
  | .sipush n => some (vI (Int16.ofInt n).toInt32 :: st)
  | .lconst n => some (vL (Int64.ofNat n) :: st)
  | .iadd => b2I (fun x y => x + y) st
  | .isub => b2I (fun x y => x - y) st
  | .imul => b2I (fun x y => x * y) st
  | .iand => b2I (fun x y => x &&& y) st
  | .ior => b2I (fun x y => x ||| y) st
  | .ishl => b2I (fun x y => x <<< (y &&& 31)) st
  | .ishr => b2I (fun x y => x >>> (y &&& 31)) st
  | .ladd => b2L (fun x y => x + y) st
  | .lsub => b2L (fun x y => x - y) st
  | .lmul => b2L (fun x y => x * y) st
  | .land => b2L (fun x y => x &&& y) st
  | .lor => b2L (fun x y => x ||| y) st
  | .lshl => sLI (fun x y => x <<< (y.toInt64 &&& 63)) st
  | .lshr => sLI (fun x y => x >>> (y.toInt64 &&& 63)) st
  | .lneg => o1L (fun x => vL (-x)) st
  | .i2l => o1I (fun x => vL x.toInt64) st
  | .i2f => o1I (fun x => vF (FP.i2f x)) st
  | .i2s => o1I (fun x => vI x.toInt16.toInt32) st
  | .l2i => o1L (fun x => vI x.toInt32) st
  | .lcmp => (match st with
    | .inr (.inl y) :: .inr (.inl x) :: r => some (vI (lg_cmp x y) :: r)
    | _ => none)
  | .f2i => (match st with
    | .inr (.inr (.inl x)) :: r => some (vI (FP.f2i x) :: r)
    | _ => none)
  | .dup => (match st with
    | v :: r => if c1 v = true then some (v :: v :: r) else none
    | _ => none)
  | .pop => (match st with
    | v :: r => if c1 v = true then some r else none
    | _ => none)
  | .dup2 => (match st with
    | v :: w :: r => if c1 v = true then (if c1 w = true then some (v :: w :: v :: w :: r) else none) else some (v :: v :: w :: r)
    | [v] => if c1 v = true then none else some [v, v]
    | _ => none)
  | _ => none
/-- loads -/
def ldI (L : LT) (i : Nat) (st : List AV) : Option (List AV) := match L.getD i none with
  | some (.inl x) => some (vI x :: st)
  | _ => none
def ldL (L : LT) (i : Nat) (st : List AV) : Option (List AV) := match L.getD i none with
  | some (.inr (.inl x)) => some (vL x :: st)
  | _ => none
def ldF (L : LT) (i : Nat) (st : List AV) : Option (List AV) := match L.getD i none with
  | some (.inr (.inr (.inl x))) => some (vF x :: st)
  | _ => none
def ldR (L : LT) (i : Nat) (st : List AV) : Option (List AV) := match L.getD i none with
  | some (.inr (.inr (.inr r))) => some (vR r :: st)
  | _ => none
def locF (ins : Instr) (L : LT) (st : List AV) : Option (List AV) := match ins with
  | .iload_n n => ldI L n st
  | .iload i => ldI L i st
  | .lload_n n => ldL L n st
  | .lload i => ldL L i st
  | .fload i => ldF L i st
  | .aload_n n => ldR L n st
  | .aload i => ldR L i st
  | _ => none
/-- stores -/
def s1I (L : LT) (i : Nat) (st : List AV) : Option (LT × List AV) := match st with
  | .inl x :: r => if i < L.length then some (stL1 L i (vI x), r) else none
  | _ => none
def s1F (L : LT) (i : Nat) (st : List AV) : Option (LT × List AV) := match st with
  | .inr (.inr (.inl x)) :: r => if i < L.length then some (stL1 L i (vF x), r) else none
  | _ => none
def s1R (L : LT) (i : Nat) (st : List AV) : Option (LT × List AV) := match st with
  | .inr (.inr (.inr x)) :: r => if i < L.length then some (stL1 L i (vR x), r) else none
  | _ => none
def s2L (L : LT) (i : Nat) (st : List AV) : Option (LT × List AV) := match st with
  | .inr (.inl x) :: r => if i + 1 < L.length then some (stL2 L i (vL x), r) else none
  | _ => none
def stoF (ins : Instr) (L : LT) (st : List AV) : Option (LT × List AV) := match ins with
  | .istore_n n => s1I L n st
  | .istore i => s1I L i st
  | .lstore_n n => s2L L n st
  | .lstore i => s2L L i st
  | .fstore i => s1F L i st
  | .astore_n n => s1R L n st
  | .astore i => s1R L i st
  | .iinc i n => (match L.getD i none with
    | some (.inl x) => if i < L.length then some (stL1 L i (vI (x + Int32.ofInt n)), st) else none
    | _ => none)
  | _ => none
def akind : ArrayType → Nat
  | .int => 1
  | .long => 2
  | .short => 3
  | .boolean => 4
  | _ => 0
/-- a row of a switch by numbers -/
def tsw (x : Int32) (f : Int → Prop) : Int → List Int → Prop
  | _, [] => True
  | v, o :: t => (x.toInt = v → f o) ∧ tsw x f (v + 1) t
def lsw (x : Int32) (f : Int → Prop) (d : Int) : List (Int × Int) → Prop
  | [] => f d
  | (v, o) :: t => (x.toInt = v → f o) ∧ (¬ x.toInt = v → lsw x f d t)
abbrev NT : Type := LT → List AV → AX → Nat → Nat → Prop
/-- divisions, and floats that are numbers -/
def divF (ins : Instr) (st : List AV) (f : List AV → Prop) : Prop := match ins with
  | .idiv => (match st with
    | .inl y :: .inl x :: r => ¬ y = 0 ∧ f (vI (x / y) :: r)
    | _ => False)
  | .irem => (match st with
    | .inl y :: .inl x :: r => ¬ y = 0 ∧ f (vI (x - x / y * y) :: r)
    | _ => False)
  | .ldiv => (match st with
    | .inr (.inl y) :: .inr (.inl x) :: r => ¬ y = 0 ∧ f (vL (x / y) :: r)
    | _ => False)
  | .lrem => (match st with
    | .inr (.inl y) :: .inr (.inl x) :: r => ¬ y = 0 ∧ f (vL (x - x / y * y) :: r)
    | _ => False)
  | .fdiv => (match st with
    | .inr (.inr (.inl y)) :: .inr (.inr (.inl x)) :: r => vf_n32 (FP.fdiv x y) ∧ f (vF (FP.fdiv x y) :: r)
    | _ => False)
  | .fmul => (match st with
    | .inr (.inr (.inl y)) :: .inr (.inr (.inl x)) :: r => vf_n32 (FP.fmul x y) ∧ f (vF (FP.fmul x y) :: r)
    | _ => False)
  | _ => False
def kdOf (X : AX) (i ci k kd : Nat) (f : AV → Prop) : Prop := match kd with
  | 0 => f (vI (xI X i k))
  | 1 => f (vL (xJ X i k))
  | 2 => f (vR (xR X i k))
  | 3 => (match off ci k with
    | some o => f (vR (some (i + o)))
    | none => False)
  | _ => f (vI (xI X i k))
/-- a thing that is looked at, and vanishes where it is seen -/
def gd (c : Prop) [Decidable c] (f : Prop) : Prop := if c then f else False
/-- a class, or one below it -/
def isC (ci s : Nat) : Bool := s == ci + 10 || (ci == 1 && (s == 10 || s == 12 || s == 13 || s == 16)) || (ci == 2 && s == 13)
/-- a field is read, written -/
def getF (M : MT) (idx : Nat) (st : List AV) (X : AX) (f : List AV → Prop) : Prop := match lk (mF M) idx, st with
  | some (ci, k, 3), .inr (.inr (.inr r)) :: rest => onSome r fun i => gd (isC ci (shp (mTb M) X i).1 = true ∧ (shp (mTb M) X i).2 = 1) (kdOf X i ci k 3 fun v => f (v :: rest))
  | some (ci, k, kd), .inr (.inr (.inr r)) :: rest => onSome r fun i => gd (isC ci (shp (mTb M) X i).1 = true) (kdOf X i ci k kd fun v => f (v :: rest))
  | _, _ => False
def putF (M : MT) (idx : Nat) (st : List AV) (X : AX) (f : List AV → AX → Prop) : Prop := match lk (mF M) idx with
  | some (ci, k, kd) => (match kd, st with
    | 0, .inl v :: .inr (.inr (.inr r)) :: rest => onSome r fun i => gd (isC ci (shp (mTb M) X i).1 = true) (f rest (xS X, u2 (xI X) i k v, xJ X, xR X, xN X))
    | 4, .inl v :: .inr (.inr (.inr r)) :: rest => onSome r fun i => gd (isC ci (shp (mTb M) X i).1 = true) ((v = 0 ∨ v = 1) ∧ f rest (xS X, u2 (xI X) i k v, xJ X, xR X, xN X))
    | 1, .inr (.inl v) :: .inr (.inr (.inr r)) :: rest => onSome r fun i => gd (isC ci (shp (mTb M) X i).1 = true) (f rest (xS X, xI X, u2 (xJ X) i k v, xR X, xN X))
    | 2, .inr (.inr (.inr v)) :: .inr (.inr (.inr r)) :: rest => onSome r fun i => gd (isC ci (shp (mTb M) X i).1 = true) (gd (off ci k = none ∨ (shp (mTb M) X i).2 = 0) (f rest (xS X, xI X, xJ X, u2 (xR X) i k v, xN X)))
    | _, _ => False)
  | none => False
/-- arrays -/
def aldF (M : MT) (kk : Nat) (st : List AV) (X : AX) (f : List AV → Prop) : Prop := match st with
  | .inl j :: .inr (.inr (.inr r)) :: rest => onSome r fun i => gd ((shp (mTb M) X i).1 = kk) (vp_in j (shp (mTb M) X i).2 ∧ (match kk with
    | 2 => f (vL (xJ X i j.toNatClampNeg) :: rest)
    | 5 => f (vR (xR X i j.toNatClampNeg) :: rest)
    | _ => f (vI (xI X i j.toNatClampNeg) :: rest)))
  | _ => False
def astF (M : MT) (kk : Nat) (st : List AV) (X : AX) (f : List AV → AX → Prop) : Prop := match kk, st with
  | 1, .inl v :: .inl j :: .inr (.inr (.inr r)) :: rest => onSome r fun i => gd (4 ≤ i ∧ (shp (mTb M) X i).1 = 1) (vp_in j (shp (mTb M) X i).2 ∧ f rest (xS X, u2 (xI X) i j.toNatClampNeg v, xJ X, xR X, xN X))
  | 3, .inl v :: .inl j :: .inr (.inr (.inr r)) :: rest => onSome r fun i => gd (4 ≤ i ∧ (shp (mTb M) X i).1 = 3) (vp_in j (shp (mTb M) X i).2 ∧ f rest (xS X, u2 (xI X) i j.toNatClampNeg (vp_nar .short v), xJ X, xR X, xN X))
  | 4, .inl v :: .inl j :: .inr (.inr (.inr r)) :: rest => onSome r fun i => gd (4 ≤ i ∧ (shp (mTb M) X i).1 = 4) (vp_in j (shp (mTb M) X i).2 ∧ (v = 0 ∨ v = 1) ∧ f rest (xS X, u2 (xI X) i j.toNatClampNeg v, xJ X, xR X, xN X))
  | 2, .inr (.inl v) :: .inl j :: .inr (.inr (.inr r)) :: rest => onSome r fun i => gd (4 ≤ i ∧ (shp (mTb M) X i).1 = 2) (vp_in j (shp (mTb M) X i).2 ∧ f rest (xS X, xI X, u2 (xJ X) i j.toNatClampNeg v, xR X, xN X))
  | 5, .inr (.inr (.inr v)) :: .inl j :: .inr (.inr (.inr r)) :: rest => onSome r fun i => onSome v fun q => gd (4 ≤ i ∧ (shp (mTb M) X i).1 = 5) (vp_in j (shp (mTb M) X i).2 ∧ (∃ ci, (ci = 0 ∨ ci = 1 ∨ ci = 2 ∨ ci = 3 ∨ ci = 6) ∧ (shp (mTb M) X q).1 = ci + 10) ∧ f rest (xS X, xI X, xJ X, u2 (xR X) i j.toNatClampNeg (some q), xN X))
  | _, _ => False
def lenF (M : MT) (st : List AV) (X : AX) (f : List AV → Prop) : Prop := match st with
  | .inr (.inr (.inr r)) :: rest => onSome r fun i => gd (0 < (shp (mTb M) X i).1 ∧ (shp (mTb M) X i).1 < 6) (f (vI (Int32.ofNat (shp (mTb M) X i).2) :: rest))
  | _ => False
def newaF (M : MT) (kk : Nat) (L : LT) (st : List AV) (X : AX) (k z : Nat) (N : NT) : Prop := match st with
  | .inl n :: rest => gd (mTb M (xN X) = none) (gd (¬ n < 0 ∧ n.toNatClampNeg ≤ 60000000 ∧ k + 1 ≤ mMc M ∧ z + n.toNatClampNeg ≤ mMs M) (N L (vR (some (xN X)) :: rest) (alloc X (kk, n.toNatClampNeg)) (k + 1) (z + n.toNatClampNeg)))
  | _ => False
def newF (M : MT) (idx : Nat) (L : LT) (st : List AV) (X : AX) (k z : Nat) (N : NT) (HX : String → AX → Nat → Nat → Prop) : Prop := match lk (mNw M) idx with
  | some (.inl ci) => gd (mTb M (xN X) = none) (gd (k + 1 ≤ mMc M ∧ z + fN ci ≤ mMs M) (N L (vR (some (xN X)) :: st) (alloc X (ci + 10, 0)) (k + 1) (z + fN ci)))
  | some (.inr E) => (match st with
    | [] => gd (k + 1 ≤ mMc M ∧ z + 6 ≤ mMs M) (∀ n', xN X ≤ n' → HX E (xS X, xI X, xJ X, xR X, n') (k + 1) (z + 6))
    | _ :: _ => False)
  | none => False
def madeX (X : AX) (i ci : Nat) : AX := (u1 (xS X) i (ci + 10, 1), xI X, xJ X, xR X, xN X)
def retF (M : MT) (ins : Instr) (L : LT) (st : List AV) (X : AX) (K : Option AV → AX → Prop) : Prop := match ins, mRt M, st with
  | .return_, 0, [] => K none X
  | .return_, 5, [] => (match L.getD 0 none with
    | some (.inr (.inr (.inr (some i)))) => gd (mTb M i = none) (∃ ci, shp (mTb M) X i = (ci + 10, 0) ∧ allL (fun q => xR X i q.1 = some (i + q.2)) (offL ci) ∧ K none (madeX X i ci))
    | _ => False)
  | .ireturn, 1, [.inl v] => K (some (vI v)) X
  | .ireturn, 2, [.inl v] => (v = 0 ∨ v = 1) ∧ K (some (vI v)) X
  | .lreturn, 3, [.inr (.inl v)] => K (some (vL v)) X
  | .areturn, 4, [.inr (.inr (.inr r))] => K (some (vR r)) X
  | _, _, _ => False
def brc (cd : ClassFile.Cond) (x y : Int32) (A B : Prop) : Prop := match cd with
  | .eq => (x = y → A) ∧ (¬ x = y → B)
  | .ne => (¬ x = y → A) ∧ (x = y → B)
  | .lt => (x < y → A) ∧ (¬ x < y → B)
  | .ge => (y ≤ x → A) ∧ (¬ y ≤ x → B)
  | .gt => (y < x → A) ∧ (¬ y < x → B)
  | .le => (x ≤ y → A) ∧ (¬ x ≤ y → B)
def ge4 (r : Option Nat) : Prop := match r with
  | some i => 4 ≤ i
  | none => True
/-- jumps -/
def jmpF (ins : Instr) (pc len : Nat) (L : LT) (st : List AV) (X : AX) (k z : Nat) (N : NT) (P : PT) : Prop := match ins, st with
  | .ifCond cd o, .inl x :: r => brc cd x 0 (P (jt pc o) L r X k z) (N L r X k z)
  | .if_icmp cd o, .inl y :: .inl x :: r => brc cd x y (P (jt pc o) L r X k z) (N L r X k z)
  | .if_acmp .ne o, .inr (.inr (.inr y)) :: .inr (.inr (.inr x)) :: r => ge4 x ∧ ge4 y ∧ (¬ x = y → P (jt pc o) L r X k z) ∧ (x = y → N L r X k z)
  | .goto o, r => P (jt pc o) L r X k z
  | .tableswitch d lo hi offs, .inl x :: r => (x.toInt < lo ∨ hi < x.toInt → P (jt pc d) L r X k z) ∧ tsw x (fun o => P (jt pc o) L r X k z) lo offs.toList
  | .lookupswitch d ps, .inl x :: r => lsw x (fun o => P (jt pc o) L r X k z) d ps.toList
  | _, _ => False
def stp (M : MT) (pc : Nat) (ins : Instr) (len : Nat) (L : LT) (st : List AV) (X : AX) (k z : Nat) (N : NT) (P : PT) (K : Option AV → AX → Prop) (HX : Nat → LT → String → AX → Nat → Nat → Prop) : Prop :=
  match aluF ins st with
  | some st' => N L st' X k z
  | none => match locF ins L st with
  | some st' => N L st' X k z
  | none => match stoF ins L st with
  | some q => N q.1 q.2 X k z
  | none => match ins with
  | .ldc i => (match lk (mC M) i with | some v => N L (v :: st) X k z | none => False)
  | .ldc_w i => (match lk (mC M) i with | some v => N L (v :: st) X k z | none => False)
  | .ldc2_w i => (match lk (mC M) i with | some v => N L (v :: st) X k z | none => False)
  | .idiv | .irem | .ldiv | .lrem | .fdiv | .fmul => divF ins st fun st' => N L st' X k z
  | .getfield i => getF M i st X fun st' => N L st' X k z
  | .putfield i => putF M i st X fun st' X' => N L st' X' k z
  | .getstatic i => (match lk (mSt M) i with | some j => N L (vR (some j) :: st) X k z | none => False)
  | .iaload => aldF M 1 st X fun st' => N L st' X k z
  | .laload => aldF M 2 st X fun st' => N L st' X k z
  | .saload => aldF M 3 st X fun st' => N L st' X k z
  | .baload => aldF M 4 st X fun st' => N L st' X k z
  | .aaload => aldF M 5 st X fun st' => N L st' X k z
  | .iastore => astF M 1 st X fun st' X' => N L st' X' k z
  | .lastore => astF M 2 st X fun st' X' => N L st' X' k z
  | .sastore => astF M 3 st X fun st' X' => N L st' X' k z
  | .bastore => astF M 4 st X fun st' X' => N L st' X' k z
  | .aastore => astF M 5 st X fun st' X' => N L st' X' k z
  | .arraylength => lenF M st X fun st' => N L st' X k z
  | .newarray at_ => (match akind at_ with | 0 => False | kk => newaF M kk L st X k z N)
  | .anewarray _ => newaF M 5 L st X k z N
  | .checkcast _ => (match st with
    | .inr (.inr (.inr r)) :: rest => onSome r fun i => gd (4 ≤ i ∧ (shp (mTb M) X i).1 = 1) (N L (vR (some i) :: rest) X k z)
    | _ => False)
  | .new i => newF M i L st X k z N (HX pc L)
  | .invokevirtual i => mIv M (4 * i) st X k z (fun st' X' k' z' => N L st' X' k' z') (HX pc L)
  | .invokespecial i => mIv M (4 * i + 1) st X k z (fun st' X' k' z' => N L st' X' k' z') (HX pc L)
  | .invokestatic i => mIv M (4 * i + 2) st X k z (fun st' X' k' z' => N L st' X' k' z') (HX pc L)
  | .return_ | .ireturn | .lreturn | .areturn => retF M ins L st X K
  | .ifCond _ _ | .if_icmp _ _ | .if_acmp _ _ | .goto _ | .tableswitch _ _ _ _ | .lookupswitch _ _ => jmpF ins pc len L st X k z N P
  | _ => False
/-- a stretch of code -/
def wpb (M : MT) (P : PT) (K : Option AV → AX → Prop) (HX : Nat → LT → String → AX → Nat → Nat → Prop) : List (Nat × Instr × Nat) → NT
  | [], _, _, _, _, _ => False
  | (pc, ins, len) :: t, L, st, X, k, z => stp M pc ins len L st X k z (match t with
    | [] => P (pc + len)
    | _ :: _ => wpb M P K HX t) P K HX
/-- from a place of the code on, however it goes round -/
def lfp (F : PT → PT) : PT := fun pc L st X k z => ∀ P : PT, (∀ pc L st X k z, (∃ P0 : PT, (∀ pc L st X k z, P0 pc L st X k z → P pc L st X k z) ∧ F P0 pc L st X k z) → P pc L st X k z) → P pc L st X k z
theorem lfp_in {F : PT → PT} {pc : Nat} {L : LT} {st : List AV} {X : AX} {k z : Nat} (h : F (lfp F) pc L st X k z) : lfp F pc L st X k z :=
  fun P hP => hP pc L st X k z ⟨lfp F, fun _ _ _ _ _ _ h' => h' P hP, h⟩
/-- a method's blocks by where they begin -/
def wpm (M : MT) (B : List (Nat × List (Nat × Instr × Nat))) (K : Option AV → AX → Prop) (HX : PT → Nat → LT → String → AX → Nat → Nat → Prop) : PT → PT := fun P pc L st X k z => match lk B pc with
  | some b => wpb M P K (HX P) b L st X k z
  | none => False
