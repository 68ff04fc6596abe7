/-! A PLAIN MACHINE over whole numbers: values are an int, a long, or the number of a cell; the heap is a number for each cell and place; the shapes of the cells stand fixed -/
abbrev xV : Type := Int ⊕ (Int ⊕ Nat)
abbrev xH : Type := Nat → Int → Int
abbrev xL : Type := List (Option xV)
/-- an instruction; a number (a constant, a target's place, how many arguments); pairs (class, place of a field), (class, method), (case, target); places of words in the tables -/
abbrev xI : Type := Instr × Int × List (Nat × Nat) × List Nat
/-- a cell's shape: numbers (their type, how many); references to cells; an object (its class, of each field its type or the cell that it refers to) -/
abbrev xS : Type := (FieldType × Nat) ⊕ (List Nat ⊕ (Nat × List (FieldType ⊕ Nat)))
abbrev xSt : Type := Nat × xL × List xV × xH
def w32 (z : Int) : Int := (Int32.ofInt z).toInt
def w64 (z : Int) : Int := (Int64.ofInt z).toInt
def xand (a b : Int) : Int := (Int32.ofInt a &&& Int32.ofInt b).toInt
def xor_ (a b : Int) : Int := (Int32.ofInt a ||| Int32.ofInt b).toInt
def xxor (a b : Int) : Int := (Int32.ofInt a ^^^ Int32.ofInt b).toInt
def xshl (a b : Int) : Int := (Int32.ofInt a <<< (Int32.ofInt b &&& 31)).toInt
def xshr (a b : Int) : Int := (Int32.ofInt a >>> (Int32.ofInt b &&& 31)).toInt
def xushr (a b : Int) : Int := ((Int32.ofInt a).toUInt32 >>> ((Int32.ofInt b).toUInt32 &&& Int32.toUInt32 31)).toInt32.toInt
def xlshl (a b : Int) : Int := (Int64.ofInt a <<< ((Int32.ofInt b).toInt64 &&& 63)).toInt
def xlushr (a b : Int) : Int := ((Int64.ofInt a).toUInt64 >>> ((Int32.ofInt b).toInt64.toUInt64 &&& Int64.toUInt64 63)).toInt64.toInt
def xi2b (a : Int) : Int := (Int32.ofInt a).toInt8.toInt32.toInt
def xi2c (a : Int) : Int := ((Int32.ofInt a).toUInt32 % 65536).toInt32.toInt
def xdiv (a b : Int) : Int := (Int32.ofInt a / Int32.ofInt b).toInt
def xrem (a b : Int) : Int := (Int32.ofInt a - Int32.ofInt a / Int32.ofInt b * Int32.ofInt b).toInt
def xcmp (a b : Int) : Int := if w64 a < w64 b then -1 else if w64 a = w64 b then 0 else 1
def xup (h : xH) (a : Nat) (j z : Int) : xH := fun a' j' => if a' = a then (if j' = j then z else h a' j') else h a' j'
def xcpy (h : xH) (s : Nat) (sp : Int) (d : Nat) (dp n : Int) : xH := fun a' j' => if a' = d then (if dp ≤ j' ∧ j' < dp + n then h s (sp + (j' - dp)) else h a' j') else h a' j'
def xlong (v : Option xV) : Bool := match v with
  | some (.inr (.inl _)) => true
  | _ => false
/-- storing a value of one slot, and of two -/
def xst1 : xL → Nat → xV → xL
  | [], _, _ => []
  | _ :: t, 0, v => some v :: t
  | o :: t, i + 1, v => (if i = 0 then (if xlong o then none else o) else o) :: xst1 t i v
def xst2 : xL → Nat → xV → xL
  | [], _, _ => []
  | _ :: t, 0, v => some v :: (match t with
    | [] => []
    | _ :: u => none :: u)
  | o :: t, i + 1, v => (if i = 0 then (if xlong o then none else o) else o) :: xst2 t i v
def xlk : List (Nat × Nat) → Nat → Option Nat
  | [], _ => none
  | q :: t, c => if q.1 = c then some q.2 else xlk t c
def xsw : List (Nat × Nat) → Nat → Int → Nat
  | [], d, _ => d
  | q :: t, d, z => if (q.1 : Int) = z then q.2 else xsw t d z
def xmk (ty : FieldType) (z : Int) : xV := match ty with
  | .long => .inr (.inl z)
  | _ => .inl z
def xgi (ls : xL) (k : Nat) : Option Int := match ls[k]? with
  | some (some (.inl z)) => some z
  | _ => none
def xgl (ls : xL) (k : Nat) : Option Int := match ls[k]? with
  | some (some (.inr (.inl z))) => some z
  | _ => none
def xgr (ls : xL) (k : Nat) : Option Nat := match ls[k]? with
  | some (some (.inr (.inr a))) => some a
  | _ => none
def xfld (G : List xS) (a : Nat) (l : List (Nat × Nat)) : Option (Nat × (FieldType ⊕ Nat)) := match G[a]? with
  | some (.inr (.inr (c, fs))) => (match xlk l c with
    | some k => (match fs[k]? with
      | some f => some (k, f)
      | none => none)
    | none => none)
  | _ => none
def xlen (G : List xS) (a : Nat) : Option Nat := match G[a]? with
  | some (.inl q) => some q.2
  | some (.inr (.inl ids)) => some ids.length
  | _ => none
/-- one instruction that asks nothing -/
def sx (G : List xS) (x : xI) (i : Nat) (ls : xL) (sk : List xV) (h : xH) : Option xSt :=
  match x.1, sk with
  | .iconst n, sk => some (i + 1, ls, .inl n :: sk, h)
  | .bipush n, sk => some (i + 1, ls, .inl n :: sk, h)
  | .sipush n, sk => some (i + 1, ls, .inl n :: sk, h)
  | .lconst n, sk => some (i + 1, ls, .inr (.inl (n.val : Int)) :: sk, h)
  | .ldc _, sk => (match x.2.2.1 with
    | [] => some (i + 1, ls, .inl x.2.1 :: sk, h)
    | _ => none)
  | .ldc_w _, sk => (match x.2.2.1 with
    | [] => some (i + 1, ls, .inl x.2.1 :: sk, h)
    | _ => none)
  | .ldc2_w _, sk => some (i + 1, ls, .inr (.inl x.2.1) :: sk, h)
  | .iload k, sk => (xgi ls k).map (fun z => (i + 1, ls, .inl z :: sk, h))
  | .iload_n k, sk => (xgi ls k.val).map (fun z => (i + 1, ls, .inl z :: sk, h))
  | .lload k, sk => (xgl ls k).map (fun z => (i + 1, ls, .inr (.inl z) :: sk, h))
  | .aload k, sk => (xgr ls k).map (fun z => (i + 1, ls, .inr (.inr z) :: sk, h))
  | .aload_n k, sk => (xgr ls k.val).map (fun z => (i + 1, ls, .inr (.inr z) :: sk, h))
  | .istore k, .inl z :: sk => some (i + 1, xst1 ls k (.inl z), sk, h)
  | .istore_n k, .inl z :: sk => some (i + 1, xst1 ls k.val (.inl z), sk, h)
  | .lstore k, .inr (.inl z) :: sk => some (i + 1, xst2 ls k (.inr (.inl z)), sk, h)
  | .astore k, .inr (.inr z) :: sk => some (i + 1, xst1 ls k (.inr (.inr z)), sk, h)
  | .astore_n k, .inr (.inr z) :: sk => some (i + 1, xst1 ls k.val (.inr (.inr z)), sk, h)
  | .iinc k n, sk => (xgi ls k).map (fun z => (i + 1, xst1 ls k (.inl (z + n)), sk, h))
  | .iadd, .inl b :: .inl a :: sk => some (i + 1, ls, .inl (a + b) :: sk, h)
  | .isub, .inl b :: .inl a :: sk => some (i + 1, ls, .inl (a - b) :: sk, h)
  | .imul, .inl b :: .inl a :: sk => some (i + 1, ls, .inl (a * b) :: sk, h)
  | .ineg, .inl a :: sk => some (i + 1, ls, .inl (-a) :: sk, h)
  | .iand, .inl b :: .inl a :: sk => some (i + 1, ls, .inl (xand a b) :: sk, h)
  | .ior, .inl b :: .inl a :: sk => some (i + 1, ls, .inl (xor_ a b) :: sk, h)
  | .ixor, .inl b :: .inl a :: sk => some (i + 1, ls, .inl (xxor a b) :: sk, h)
  | .ishl, .inl b :: .inl a :: sk => some (i + 1, ls, .inl (xshl a b) :: sk, h)
  | .ishr, .inl b :: .inl a :: sk => some (i + 1, ls, .inl (xshr a b) :: sk, h)
  | .iushr, .inl b :: .inl a :: sk => some (i + 1, ls, .inl (xushr a b) :: sk, h)
  | .ladd, .inr (.inl b) :: .inr (.inl a) :: sk => some (i + 1, ls, .inr (.inl (a + b)) :: sk, h)
  | .lsub, .inr (.inl b) :: .inr (.inl a) :: sk => some (i + 1, ls, .inr (.inl (a - b)) :: sk, h)
  | .lmul, .inr (.inl b) :: .inr (.inl a) :: sk => some (i + 1, ls, .inr (.inl (a * b)) :: sk, h)
  | .lneg, .inr (.inl a) :: sk => some (i + 1, ls, .inr (.inl (-a)) :: sk, h)
  | .lshl, .inl b :: .inr (.inl a) :: sk => some (i + 1, ls, .inr (.inl (xlshl a b)) :: sk, h)
  | .lushr, .inl b :: .inr (.inl a) :: sk => some (i + 1, ls, .inr (.inl (xlushr a b)) :: sk, h)
  | .i2l, .inl a :: sk => some (i + 1, ls, .inr (.inl (w32 a)) :: sk, h)
  | .l2i, .inr (.inl a) :: sk => some (i + 1, ls, .inl a :: sk, h)
  | .i2b, .inl a :: sk => some (i + 1, ls, .inl (xi2b a) :: sk, h)
  | .i2c, .inl a :: sk => some (i + 1, ls, .inl (xi2c a) :: sk, h)
  | .lcmp, .inr (.inl b) :: .inr (.inl a) :: sk => some (i + 1, ls, .inl (xcmp a b) :: sk, h)
  | .dup, .inl a :: sk => some (i + 1, ls, .inl a :: .inl a :: sk, h)
  | .dup, .inr (.inr a) :: sk => some (i + 1, ls, .inr (.inr a) :: .inr (.inr a) :: sk, h)
  | .pop, .inl _ :: sk => some (i + 1, ls, sk, h)
  | .dup2, .inl b :: .inr (.inr a) :: sk => some (i + 1, ls, .inl b :: .inr (.inr a) :: .inl b :: .inr (.inr a) :: sk, h)
  | .goto _, sk => some (x.2.1.toNat, ls, sk, h)
  | .tableswitch _ _ _ _, .inl z :: sk => some (xsw x.2.2.1 x.2.1.toNat (w32 z), ls, sk, h)
  | .getfield _, .inr (.inr a) :: sk => (match xfld G a x.2.2.1 with
    | some (k, .inl ty) => some (i + 1, ls, xmk ty (h a k) :: sk, h)
    | some (_, .inr d) => some (i + 1, ls, .inr (.inr d) :: sk, h)
    | none => none)
  | .putfield _, .inl z :: .inr (.inr a) :: sk => (match xfld G a x.2.2.1 with
    | some (k, .inl .int) => some (i + 1, ls, sk, xup h a k z)
    | _ => none)
  | .arraylength, .inr (.inr a) :: sk => (xlen G a).map (fun n => (i + 1, ls, .inl (n : Int) :: sk, h))
  | _, _ => none
def xcc (c : Jvm.ClassFile.Cond) (a b : Int) : Bool := match c with
  | .eq => decide (w32 a = w32 b)
  | .ne => decide (¬ w32 a = w32 b)
  | .lt => decide (w32 a < w32 b)
  | .ge => decide (w32 b ≤ w32 a)
  | .gt => decide (w32 b < w32 a)
  | .le => decide (w32 a ≤ w32 b)
def xb (x : xI) (sk : List xV) : Option (Bool × List xV) := match x.1, sk with
  | .ifCond c _, .inl z :: sk => some (xcc c z 0, sk)
  | .if_icmp c _, .inl b :: .inl a :: sk => some (xcc c a b, sk)
  | _, _ => none
def xld (x : xI) (ty : FieldType) : Bool := match x.1, ty with
  | .iaload, .int => true
  | .laload, .long => true
  | .baload, .byte => true
  | .baload, .boolean => true
  | _, _ => false
def xsd (x : xI) (ty : FieldType) : Bool := match x.1, ty with
  | .iastore, .int => true
  | .lastore, .long => true
  | .bastore, .byte => true
  | .bastore, .boolean => true
  | _, _ => false
def xrng (ty : FieldType) (z : Int) : Prop := match ty with
  | .byte => -128 ≤ z ∧ z ≤ 127
  | .boolean => z = 0 ∨ z = 1
  | _ => True
def xcat (v : xV) : Nat := match v with
  | .inr (.inl _) => 2
  | _ => 1
/-- a call: the method, its arguments, what stays on the stack -/
def xcl (G : List xS) (x : xI) (sk : List xV) : Option (Nat × List xV × List xV) := match x.1 with
  | .invokestatic _ => (if x.2.1.toNat ≤ sk.length then (match x.2.2.1 with
    | [(_, m)] => some (m, (sk.take x.2.1.toNat).reverse, sk.drop x.2.1.toNat)
    | _ => none) else none)
  | .invokevirtual _ => (match sk.drop x.2.1.toNat with
    | .inr (.inr a) :: rest => (match G[a]? with
      | some (.inr (.inr (c, _))) => (xlk x.2.2.1 c).map (fun m => (m, .inr (.inr a) :: (sk.take x.2.1.toNat).reverse, rest))
      | _ => none)
    | _ => none)
  | _ => none
/-- a method: its name, bytes, locals, what it returns; its code and where each instruction stands -/
abbrev xMt : Type := MethodName × ByteArray × Nat × Option FieldType × List xI × List Nat
/-- what comes of a call: a value or none, or an exception of a class -/
abbrev xO : Type := Option xV ⊕ String
