/-! AN ABSTRACT MACHINE: a frame's run over numbered cells, by a function; what it says is proved of the machine in the next part -/
abbrev qM : Type := (Nat → Nat → Int32) × (Nat → Nat → Int64) × (Nat → Nat → Option Nat)
abbrev qS : Type := List (Nat × Nat)
abbrev qO : Type := Option Value ⊕ Nat
/-- an instruction: itself, its place, the number of the next one, two numbers, targets -/
abbrev qI : Type := Instr × Nat × Nat × Nat × Nat × List Nat
abbrev qLo : Type := List (Option Value)
def qat {α : Type} : List α → Nat → Option α
  | [], _ => none
  | a :: _, 0 => some a
  | _ :: l, n + 1 => qat l n
def qset {α : Type} : List α → Nat → α → List α
  | [], _, _ => []
  | _ :: l, 0, v => v :: l
  | a :: l, n + 1, v => a :: qset l n v
def qu {α : Type} (f : Nat → Nat → α) (c k : Nat) (v : α) : Nat → Nat → α := fun c' => if c' = c then (fun j => if j = k then v else f c j) else f c'
def gI (m : qM) (c k : Nat) : Int32 := m.1 c k
def gL (m : qM) (c k : Nat) : Int64 := m.2.1 c k
def gR (m : qM) (c k : Nat) : Option Nat := m.2.2 c k
def sI (m : qM) (c k : Nat) (v : Int32) : qM := (qu m.1 c k v, m.2)
def sL (m : qM) (c k : Nat) (v : Int64) : qM := (m.1, qu m.2.1 c k v, m.2.2)
def sR (m : qM) (c k : Nat) (v : Option Nat) : qM := (m.1, m.2.1, qu m.2.2 c k v)
/-- a copy of n ints from the front of one row to the front of another -/
def sC (m : qM) (s d n : Nat) : qM := ((fun c' => if c' = d then va_cpy (m.1 s) (m.1 d) 0 0 n else m.1 c'), m.2)
def ix (i : Int32) : Nat := i.toNatClampNeg
def inb (i : Int32) (n : Nat) : Bool := decide (¬ (i < 0 ∨ n ≤ i.toNatClampNeg))
def nz (x : Int32) : Int32 := vp_nar .boolean x
def nb (x : Int32) : Int32 := vp_nar .byte x
def qb (x : Int32) : Bool := decide (x = 0 ∨ x = 1)
/-- a written number: its size and its sign -/
def q32 (a b : Nat) : Int32 := match b with
  | 0 => Int32.ofNat a
  | _ => -(Int32.ofNat a)
def q64 (a b : Nat) : Int64 := match b with
  | 0 => Int64.ofNat a
  | _ => -(Int64.ofNat a)
def qsum : qS → Nat
  | [] => 0
  | d :: l => d.2 + qsum l
def qcat : List Value → Nat
  | [] => 0
  | v :: l => v.category + qcat l
/-- a row with one place set, handed on -/
def qsetK {α β : Type} : List α → Nat → α → (List α → β) → β
  | [], _, _, k => k []
  | _ :: l, 0, v, k => k (v :: l)
  | a :: l, n + 1, v, k => qsetK l n v (fun l' => k (a :: l'))
/-- a value of one word is put into a local: a long whose second half lay there is gone -/
def qput1 {ρ : Type} (lo : qLo) (n : Nat) (v : Value) (k : qLo → Option ρ) : Option ρ := match n with
  | 0 => qsetK lo 0 (some v) k
  | j + 1 => match qat lo j with
    | some (some (.long _)) => qsetK lo j none (fun l => qsetK l (j + 1) (some v) k)
    | _ => qsetK lo (j + 1) (some v) k
def qput2 {ρ : Type} (lo : qLo) (n : Nat) (v : Value) (k : qLo → Option ρ) : Option ρ := qput1 lo n v fun l => qsetK l (n + 1) none k
def qst {ρ : Type} (lo : qLo) (n : Nat) (k : Option ρ) : Option ρ := match qat lo n with
  | some _ => k
  | none => none
/-- the row c is as new -/
def qz (m : qM) (c : Nat) : qM := ((fun c' => if c' = c then (fun _ => 0) else m.1 c'), (fun c' => if c' = c then (fun _ => 0) else m.2.1 c'), (fun c' => if c' = c then (fun _ => none) else m.2.2 c'))
abbrev qK (ρ : Type) : Type := Nat → qLo → List Value → qS → qM → Option ρ
abbrev qCal (ρ : Type) : Type := Nat → List Value → qS → qM → (qO → qS → qM → Option ρ) → Option ρ
abbrev qRet (ρ : Type) : Type := qO → qS → qM → Option ρ
abbrev qOp (ρ : Type) : Type := qLo → List Value → qS → qM → qK ρ → Option ρ
/-- arrays of ints outside: length and contents -/
abbrev qXt : Type := Nat → Option (Nat × (Nat → Int32))
abbrev qFin : Type := Nat → Nat → Option Nat
/-- the kinds of a class's fields: 0 int, 1 boolean, 2 long, 3 reference -/
abbrev qFt : Type := Nat → List Nat
section
variable {ρ : Type}
def qpI (lo : qLo) (n : Nat) (k : Int32 → Option ρ) : Option ρ := match qat lo n with
  | some (some (.int x)) => k x
  | _ => none
def q1 (st : List Value) (k : Int32 → List Value → Option ρ) : Option ρ := match st with
  | .int x :: t => k x t
  | _ => none
def q2 (st : List Value) (k : Int32 → Int32 → List Value → Option ρ) : Option ρ := match st with
  | .int y :: .int x :: t => k x y t
  | _ => none
def qJ (st : List Value) (k : Int64 → List Value → Option ρ) : Option ρ := match st with
  | .long x :: t => k x t
  | _ => none
def qJJ (st : List Value) (k : Int64 → Int64 → List Value → Option ρ) : Option ρ := match st with
  | .long y :: .long x :: t => k x y t
  | _ => none
def qA (st : List Value) (k : Value → List Value → Option ρ) : Option ρ := match st with
  | .ref x :: t => k (.ref x) t
  | .null :: t => k .null t
  | _ => none
def oBad : qOp ρ := fun _ _ _ _ _ => none
def oC (v : Value) (nx : Nat) : qOp ρ := fun lo st sh m k => k nx lo (v :: st) sh m
def oLi (n nx : Nat) : qOp ρ := fun lo st sh m k => match qat lo n with
  | some (some (.int x)) => k nx lo (.int x :: st) sh m
  | _ => none
def oLl (n nx : Nat) : qOp ρ := fun lo st sh m k => match qat lo n with
  | some (some (.long x)) => k nx lo (.long x :: st) sh m
  | _ => none
def oLa (n nx : Nat) : qOp ρ := fun lo st sh m k => match qat lo n with
  | some (some (.ref x)) => k nx lo (.ref x :: st) sh m
  | some (some .null) => k nx lo (.null :: st) sh m
  | _ => none
def oSi (n nx : Nat) : qOp ρ := fun lo st sh m k => q1 st fun x t => qst lo n (qput1 lo n (.int x) fun lo' => k nx lo' t sh m)
def oSl (n nx : Nat) : qOp ρ := fun lo st sh m k => qJ st fun x t => qst lo (n + 1) (qput2 lo n (.long x) fun lo' => k nx lo' t sh m)
def oSa (n nx : Nat) : qOp ρ := fun lo st sh m k => qA st fun v t => qst lo n (qput1 lo n v fun lo' => k nx lo' t sh m)
def oInc (n : Nat) (v : Int32) (nx : Nat) : qOp ρ := fun lo st sh m k => qpI lo n fun x => qput1 lo n (.int (x + v)) fun lo' => k nx lo' st sh m
def o2 (f : Int32 → Int32 → Int32) (nx : Nat) : qOp ρ := fun lo st sh m k => q2 st fun x y t => k nx lo (.int (f x y) :: t) sh m
def o1 (f : Int32 → Int32) (nx : Nat) : qOp ρ := fun lo st sh m k => q1 st fun x t => k nx lo (.int (f x) :: t) sh m
def oJJ (f : Int64 → Int64 → Int64) (nx : Nat) : qOp ρ := fun lo st sh m k => qJJ st fun x y t => k nx lo (.long (f x y) :: t) sh m
def oDiv (nx : Nat) : qOp ρ := fun lo st sh m k => q2 st fun x y t => if y = 0 then none else k nx lo (.int (x / y) :: t) sh m
def oI2l (nx : Nat) : qOp ρ := fun lo st sh m k => q1 st fun x t => k nx lo (.long x.toInt64 :: t) sh m
def oLshl (nx : Nat) : qOp ρ := fun lo st sh m k => match st with
  | .int y :: .long x :: t => k nx lo (.long (x <<< (y.toInt64 &&& 63)) :: t) sh m
  | _ => none
def oLcmp (nx : Nat) : qOp ρ := fun lo st sh m k => qJJ st fun x y t => k nx lo (.int (lg_cmp x y) :: t) sh m
def oDup (nx : Nat) : qOp ρ := fun lo st sh m k => match st with
  | .int x :: t => k nx lo (.int x :: .int x :: t) sh m
  | .ref x :: t => k nx lo (.ref x :: .ref x :: t) sh m
  | _ => none
def oDup2 (nx : Nat) : qOp ρ := fun lo st sh m k => match st with
  | .int x :: .ref y :: t => k nx lo (.int x :: .ref y :: .int x :: .ref y :: t) sh m
  | _ => none
def oPop (nx : Nat) : qOp ρ := fun lo st sh m k => match st with
  | .int _ :: t => k nx lo t sh m
  | .ref _ :: t => k nx lo t sh m
  | _ => none
def oGo (tg : Nat) : qOp ρ := fun lo st sh m k => k tg lo st sh m
def oIf (c : ClassFile.Cond) (tg nx : Nat) : qOp ρ := fun lo st sh m k => q1 st fun x t => match c with
  | .eq => if x = 0 then k tg lo t sh m else k nx lo t sh m
  | .ne => if x = 0 then k nx lo t sh m else k tg lo t sh m
  | .lt => if x < 0 then k tg lo t sh m else k nx lo t sh m
  | .ge => if 0 ≤ x then k tg lo t sh m else k nx lo t sh m
  | .gt => if 0 < x then k tg lo t sh m else k nx lo t sh m
  | .le => if x ≤ 0 then k tg lo t sh m else k nx lo t sh m
def oCmp (c : ClassFile.Cond) (tg nx : Nat) : qOp ρ := fun lo st sh m k => q2 st fun x y t => match c with
  | .eq => if x = y then k tg lo t sh m else k nx lo t sh m
  | .ne => if x = y then k nx lo t sh m else k tg lo t sh m
  | .lt => if x < y then k tg lo t sh m else k nx lo t sh m
  | .ge => if y ≤ x then k tg lo t sh m else k nx lo t sh m
  | .gt => if y < x then k tg lo t sh m else k nx lo t sh m
  | .le => if x ≤ y then k tg lo t sh m else k nx lo t sh m
def oNull (tg nx : Nat) : qOp ρ := fun lo st sh m k => match st with
  | .null :: t => k tg lo t sh m
  | .ref _ :: t => k nx lo t sh m
  | _ => none
/-- the targets of a switch, one behind another -/
def qsw (x : Int32) (k : Nat → Option ρ) (dflt : Nat) : Int32 → List Nat → Option ρ
  | _, [] => k dflt
  | v, t :: ts => if x = v then k t else qsw x k dflt (v + 1) ts
def oSw (lo0 : Int32) (dflt : Nat) (tg : List Nat) : qOp ρ := fun lo st sh m k => q1 st fun x t => qsw x (fun p => k p lo t sh m) dflt lo0 tg
def oGet (fin : qFin) (ft : qFt) (a b nx : Nat) : qOp ρ := fun lo st sh m k => match st with
  | .ref r :: t => (match qat sh r with
    | some (0, c) => if c = a then (match qat (ft a) b with
      | some 0 => k nx lo (.int (gI m r b) :: t) sh m
      | some 1 => k nx lo (.int (gI m r b) :: t) sh m
      | some 2 => k nx lo (.long (gL m r b) :: t) sh m
      | some 3 => (match fin r b with
        | some q => k nx lo (.ref q :: t) sh m
        | none => (match gR m r b with
          | some q => k nx lo (.ref q :: t) sh m
          | none => k nx lo (.null :: t) sh m))
      | _ => none) else none
    | _ => none)
  | _ => none
def oPut (fin : qFin) (ft : qFt) (a b nx : Nat) : qOp ρ := fun lo st sh m k => match st with
  | v :: .ref r :: t => (match qat sh r with
    | some (0, c) => if c = a then (match qat (ft a) b with
      | some 0 => (match v with
        | .int x => k nx lo t sh (sI m r b x)
        | _ => none)
      | some 1 => (match v with
        | .int x => if qb x = true then k nx lo t sh (sI m r b x) else none
        | _ => none)
      | some 2 => (match v with
        | .long x => k nx lo t sh (sL m r b x)
        | _ => none)
      | some 3 => (match fin r b with
        | some _ => none
        | none => (match v with
          | .ref q => k nx lo t sh (sR m r b (some q))
          | .null => k nx lo t sh (sR m r b none)
          | _ => none))
      | _ => none) else none
    | _ => none)
  | _ => none
def oIal (xt : qXt) (nx : Nat) : qOp ρ := fun lo st sh m k => match st with
  | .int i :: .ref r :: t => if r < 10000 then (match qat sh r with
      | some (1, n) => if inb i n = true then k nx lo (.int (gI m r (ix i)) :: t) sh m else none
      | _ => none)
    else (match xt r with
      | some (n, f) => if inb i n = true then k nx lo (.int (f (ix i)) :: t) sh m else none
      | none => none)
  | _ => none
def oBal (nx : Nat) : qOp ρ := fun lo st sh m k => match st with
  | .int i :: .ref r :: t => (match qat sh r with
    | some (2, n) => if inb i n = true then k nx lo (.int (gI m r (ix i)) :: t) sh m else none
    | some (3, n) => if inb i n = true then k nx lo (.int (gI m r (ix i)) :: t) sh m else none
    | _ => none)
  | _ => none
def oLal (nx : Nat) : qOp ρ := fun lo st sh m k => match st with
  | .int i :: .ref r :: t => (match qat sh r with
    | some (4, n) => if inb i n = true then k nx lo (.long (gL m r (ix i)) :: t) sh m else none
    | _ => none)
  | _ => none
def oAal (nx : Nat) : qOp ρ := fun lo st sh m k => match st with
  | .int i :: .ref r :: t => (match qat sh r with
    | some (5, n) => if inb i n = true then (match gR m r (ix i) with
      | some q => k nx lo (.ref q :: t) sh m
      | none => k nx lo (.null :: t) sh m) else none
    | _ => none)
  | _ => none
def oIas (nx : Nat) : qOp ρ := fun lo st sh m k => match st with
  | .int x :: .int i :: .ref r :: t => (match qat sh r with
    | some (1, n) => if inb i n = true then k nx lo t sh (sI m r (ix i) x) else none
    | _ => none)
  | _ => none
def oBas (nx : Nat) : qOp ρ := fun lo st sh m k => match st with
  | .int x :: .int i :: .ref r :: t => (match qat sh r with
    | some (2, n) => if inb i n = true then k nx lo t sh (sI m r (ix i) (nz x)) else none
    | some (3, n) => if inb i n = true then k nx lo t sh (sI m r (ix i) (nb x)) else none
    | _ => none)
  | _ => none
def oLas (nx : Nat) : qOp ρ := fun lo st sh m k => match st with
  | .long x :: .int i :: .ref r :: t => (match qat sh r with
    | some (4, n) => if inb i n = true then k nx lo t sh (sL m r (ix i) x) else none
    | _ => none)
  | _ => none
def oAas (fin : qFin) (nx : Nat) : qOp ρ := fun lo st sh m k => match st with
  | .ref x :: .int i :: .ref r :: t => (match qat sh r with
    | some (5, n) => (match qat sh x with
      | some (0, 5) => if inb i n = true then (match fin r (ix i) with
        | none => k nx lo t sh (sR m r (ix i) (some x))
        | some _ => none) else none
      | _ => none)
    | _ => none)
  | _ => none
def oLen (xt : qXt) (nx : Nat) : qOp ρ := fun lo st sh m k => match st with
  | .ref r :: t => if r < 10000 then (match qat sh r with
      | some (1, n) => k nx lo (.int (Int32.ofNat n) :: t) sh m
      | _ => none)
    else (match xt r with
      | some (n, _) => k nx lo (.int (Int32.ofNat n) :: t) sh m
      | none => none)
  | _ => none
def oNew (a nx : Nat) : qOp ρ := fun lo st sh m k => k nx lo (.ref sh.length :: st) (sh ++ [(0, a)]) (qz m sh.length)
def oNewa (a b nx : Nat) : qOp ρ := fun lo st sh m k => q1 st fun x t => if x < 0 then none else (if ix x = b then k nx lo (.ref sh.length :: t) (sh ++ [(a, b)]) (qz m sh.length) else none)
/-- a call: so many arguments come off the stack -/
def qtake (n : Nat) (st : List Value) (acc : List Value) (k : List Value → List Value → Option ρ) : Option ρ := match n with
  | 0 => k acc st
  | n + 1 => match st with
    | v :: t => qtake n t (v :: acc) k
    | [] => none
def oCall (cal : qCal ρ) (ret : qRet ρ) (hd : Option (Nat × Nat)) (a b nx : Nat) : qOp ρ := fun lo st sh m k => qtake b st [] fun av t =>
  if qcat t ≤ 8 then cal a av sh m (fun o sh' m' => match o with
    | .inl none => k nx lo t sh' m'
    | .inl (some v) => k nx lo (v :: t) sh' m'
    | .inr q => match hd with
      | none => ret (.inr q) sh' m'
      | some (h, n) => qsetK lo n none fun lo' => k h lo' [] sh' m') else none
/-- System.arraycopy of the front of one row of ints to the front of another -/
def oCopy (nx : Nat) : qOp ρ := fun lo st sh m k => match st with
  | .int n :: .int y :: .ref d :: .int x :: .ref s :: t => if x = 0 then (if y = 0 then (if n < 0 then none else (match qat sh s with
    | some (1, n0) => (match qat sh d with
      | some (1, n1) => if ix n ≤ n0 then (if ix n ≤ n1 then (if s = d then none else (if qcat t ≤ 8 then k nx lo t sh (sC m s d (ix n)) else none)) else none) else none
      | _ => none)
    | _ => none)) else none) else none
  | _ => none
def oObj (nx : Nat) : qOp ρ := fun lo st sh m k => match st with
  | .ref _ :: t => if qcat t ≤ 8 then k nx lo t sh m else none
  | _ => none
def oRv (ret : qRet ρ) : qOp ρ := fun _ _ sh m _ => ret (.inl none) sh m
def oRi (ret : qRet ρ) (bl : Bool) : qOp ρ := fun _ st sh m _ => match st with
  | [.int x] => (match bl with
    | true => ret (.inl (some (.int (nz x)))) sh m
    | false => ret (.inl (some (.int x))) sh m)
  | _ => none
def oRl (ret : qRet ρ) : qOp ρ := fun _ st sh m _ => match st with
  | [.long x] => ret (.inl (some (.long x))) sh m
  | _ => none
def oRa (ret : qRet ρ) : qOp ρ := fun _ st sh m _ => match st with
  | [.ref x] => ret (.inl (some (.ref x))) sh m
  | [.null] => ret (.inl (some .null)) sh m
  | _ => none
def oThrow (ret : qRet ρ) : qOp ρ := fun _ st sh m _ => match st with
  | .ref r :: _ => (match qat sh r with
    | some (0, 12) => ret (.inr r) sh m
    | _ => none)
  | _ => none
/-- what an instruction does -/
def qex (fin : qFin) (ft : qFt) (xt : qXt) (cal : qCal ρ) (ret : qRet ρ) (hd : Nat → Option (Nat × Nat)) (bl : Bool) (i : qI) : qOp ρ :=
  match i with
  | (ins, pc, nx, a, b, tg) => match ins with
    | .aload_n n => oLa n.val nx
    | .aload n => oLa n nx
    | .iload_n n => oLi n.val nx
    | .iload n => oLi n nx
    | .lload_n n => oLl n.val nx
    | .lload n => oLl n nx
    | .astore_n n => oSa n.val nx
    | .astore n => oSa n nx
    | .istore_n n => oSi n.val nx
    | .istore n => oSi n nx
    | .lstore_n n => oSl n.val nx
    | .lstore n => oSl n nx
    | .iinc n _ => oInc n (q32 a b) nx
    | .iconst _ => oC (.int (q32 a b)) nx
    | .bipush _ => oC (.int (q32 a b)) nx
    | .sipush _ => oC (.int (q32 a b)) nx
    | .lconst _ => oC (.long (q64 a b)) nx
    | .aconst_null => oC .null nx
    | .ldc _ => match b with
      | 2 => oC (.ref a) nx
      | _ => oC (.int (q32 a b)) nx
    | .ldc_w _ => oC (.int (q32 a b)) nx
    | .ldc2_w _ => oC (.long (q64 a b)) nx
    | .iadd => o2 (· + ·) nx
    | .isub => o2 (· - ·) nx
    | .imul => o2 (· * ·) nx
    | .idiv => oDiv nx
    | .ineg => o1 (-·) nx
    | .iand => o2 (· &&& ·) nx
    | .ior => o2 (· ||| ·) nx
    | .ixor => o2 (· ^^^ ·) nx
    | .ishl => o2 (fun x y => x <<< (y &&& 31)) nx
    | .ishr => o2 (fun x y => x >>> (y &&& 31)) nx
    | .iushr => o2 (fun x y => (x.toUInt32 >>> (y.toUInt32 &&& Int32.toUInt32 31)).toInt32) nx
    | .i2l => oI2l nx
    | .i2b => o1 (fun x => x.toInt8.toInt32) nx
    | .ladd => oJJ (· + ·) nx
    | .lsub => oJJ (· - ·) nx
    | .lmul => oJJ (· * ·) nx
    | .lshl => oLshl nx
    | .lcmp => oLcmp nx
    | .dup => oDup nx
    | .dup2 => oDup2 nx
    | .pop => oPop nx
    | .goto _ => oGo a
    | .ifCond c _ => oIf c a nx
    | .if_icmp c _ => oCmp c a nx
    | .ifnull _ => oNull a nx
    | .tableswitch _ low _ _ => oSw (Int32.ofInt low) a tg
    | .getfield _ => oGet fin ft a b nx
    | .putfield _ => oPut fin ft a b nx
    | .getstatic _ => oC (.ref a) nx
    | .iaload => oIal xt nx
    | .baload => oBal nx
    | .laload => oLal nx
    | .aaload => oAal nx
    | .iastore => oIas nx
    | .bastore => oBas nx
    | .lastore => oLas nx
    | .aastore => oAas fin nx
    | .arraylength => oLen xt nx
    | .new _ => oNew a nx
    | .newarray _ => oNewa a b nx
    | .anewarray _ => oNewa 5 b nx
    | .invokevirtual _ => oCall cal ret (hd pc) a b nx
    | .invokestatic _ => match a with
      | 999 => oCopy nx
      | _ => oCall cal ret (hd pc) a b nx
    | .invokespecial _ => match a with
      | 998 => oObj nx
      | _ => oCall cal ret (hd pc) a b nx
    | .return_ => oRv ret
    | .ireturn => oRi ret bl
    | .lreturn => oRl ret
    | .areturn => oRa ret
    | .athrow => oThrow ret
    | _ => oBad
/-- a run to the stops K -/
def qrun (code : List (qOp ρ)) (K : Nat → Option (qLo → List Value → qS → qM → Option ρ)) (n : Nat) : qK ρ :=
  Nat.rec (motive := fun _ => qK ρ) (fun _ _ _ _ _ => none) (fun _ ih ip lo st sh m => match K ip with
    | some k => k lo st sh m
    | none => match qat code ip with
      | some o => o lo st sh m ih
      | none => none) n
def qgo (code : List (qOp ρ)) (K : Nat → Option (qLo → List Value → qS → qM → Option ρ)) (n : Nat) : qK ρ := fun ip lo st sh m => match qat code ip with
  | some o => o lo st sh m (qrun code K n)
  | none => none
end
