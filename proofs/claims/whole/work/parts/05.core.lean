/-! AN ABSTRACT MACHINE: operations over numbered cells, each told what goes on behind it; what they say is proved of the machine further on -/
abbrev qM : Type := (Nat → Nat → Int32) × (Nat → Nat → Int64) × (Nat → Nat → Option Nat)
abbrev qO : Type := Option Value ⊕ Nat
abbrev qLo : Type := List (Option Value)
abbrev qT (ρ : Type) : Type := qLo → List Value → qM → Option ρ
def qat {α : Type} : List α → Nat → Option α
  | [], _ => none
  | a :: _, 0 => some a
  | _ :: l, n + 1 => qat l n
def qu {α : Type} (f : Nat → Nat → α) (c k : Nat) (v : α) : Nat → Nat → α := fun c' => if c' = c then (fun j => if j = k then v else f c j) else f c'
/-! these are sealed: what they are is told by the rows _d alone, so that no comparison of terms goes into them -/
theorem gI_x : ∃ f : qM → Nat → Nat → Int32, f = fun m c k => m.1 c k := ⟨_, rfl⟩
noncomputable def gI : qM → Nat → Nat → Int32 := Classical.choose gI_x
theorem gI_d : gI = fun m c k => m.1 c k := Classical.choose_spec gI_x
theorem gL_x : ∃ f : qM → Nat → Nat → Int64, f = fun m c k => m.2.1 c k := ⟨_, rfl⟩
noncomputable def gL : qM → Nat → Nat → Int64 := Classical.choose gL_x
theorem gL_d : gL = fun m c k => m.2.1 c k := Classical.choose_spec gL_x
theorem gR_x : ∃ f : qM → Nat → Nat → Option Nat, f = fun m c k => m.2.2 c k := ⟨_, rfl⟩
noncomputable def gR : qM → Nat → Nat → Option Nat := Classical.choose gR_x
theorem gR_d : gR = fun m c k => m.2.2 c k := Classical.choose_spec gR_x
theorem sI_x : ∃ f : qM → Nat → Nat → Int32 → qM, f = fun m c k v => (qu m.1 c k v, m.2) := ⟨_, rfl⟩
noncomputable def sI : qM → Nat → Nat → Int32 → qM := Classical.choose sI_x
theorem sI_d : sI = fun m c k v => (qu m.1 c k v, m.2) := Classical.choose_spec sI_x
theorem sL_x : ∃ f : qM → Nat → Nat → Int64 → qM, f = fun m c k v => (m.1, qu m.2.1 c k v, m.2.2) := ⟨_, rfl⟩
noncomputable def sL : qM → Nat → Nat → Int64 → qM := Classical.choose sL_x
theorem sL_d : sL = fun m c k v => (m.1, qu m.2.1 c k v, m.2.2) := Classical.choose_spec sL_x
theorem sR_x : ∃ f : qM → Nat → Nat → Option Nat → qM, f = fun m c k v => (m.1, m.2.1, qu m.2.2 c k v) := ⟨_, rfl⟩
noncomputable def sR : qM → Nat → Nat → Option Nat → qM := Classical.choose sR_x
theorem sR_d : sR = fun m c k v => (m.1, m.2.1, qu m.2.2 c k v) := Classical.choose_spec sR_x
/-- a copy of n ints from the front of one row to the front of another -/
theorem sC_x : ∃ f : qM → Nat → Nat → Nat → qM, f = fun m s d n => ((fun c' => if c' = d then va_cpy (m.1 s) (m.1 d) 0 0 n else m.1 c'), m.2) := ⟨_, rfl⟩
noncomputable def sC : qM → Nat → Nat → Nat → qM := Classical.choose sC_x
theorem sC_d : sC = fun m s d n => ((fun c' => if c' = d then va_cpy (m.1 s) (m.1 d) 0 0 n else m.1 c'), m.2) := Classical.choose_spec sC_x
/-- the row c is as new -/
theorem qz_x : ∃ f : qM → Nat → qM, f = fun m c => ((fun c' => if c' = c then (fun _ => 0) else m.1 c'), (fun c' => if c' = c then (fun _ => 0) else m.2.1 c'), (fun c' => if c' = c then (fun _ => none) else m.2.2 c')) := ⟨_, rfl⟩
noncomputable def qz : qM → Nat → qM := Classical.choose qz_x
theorem qz_d : qz = fun m c => ((fun c' => if c' = c then (fun _ => 0) else m.1 c'), (fun c' => if c' = c then (fun _ => 0) else m.2.1 c'), (fun c' => if c' = c then (fun _ => none) else m.2.2 c')) := Classical.choose_spec qz_x
theorem ix_x : ∃ f : Int32 → Nat, f = fun i => i.toNatClampNeg := ⟨_, rfl⟩
noncomputable def ix : Int32 → Nat := Classical.choose ix_x
theorem ix_d : ix = fun i => i.toNatClampNeg := Classical.choose_spec ix_x
theorem inb_x : ∃ f : Int32 → Nat → Bool, f = fun i n => decide (¬ (i < 0 ∨ n ≤ i.toNatClampNeg)) := ⟨_, rfl⟩
noncomputable def inb : Int32 → Nat → Bool := Classical.choose inb_x
theorem inb_d : inb = fun i n => decide (¬ (i < 0 ∨ n ≤ i.toNatClampNeg)) := Classical.choose_spec inb_x
theorem nz_x : ∃ f : Int32 → Int32, f = fun x => vp_nar .boolean x := ⟨_, rfl⟩
noncomputable def nz : Int32 → Int32 := Classical.choose nz_x
theorem nz_d : nz = fun x => vp_nar .boolean x := Classical.choose_spec nz_x
theorem nb_x : ∃ f : Int32 → Int32, f = fun x => vp_nar .byte x := ⟨_, rfl⟩
noncomputable def nb : Int32 → Int32 := Classical.choose nb_x
theorem nb_d : nb = fun x => vp_nar .byte x := Classical.choose_spec nb_x
theorem qb_x : ∃ f : Int32 → Bool, f = fun x => decide (x = 0 ∨ x = 1) := ⟨_, rfl⟩
noncomputable def qb : Int32 → Bool := Classical.choose qb_x
theorem qb_d : qb = fun x => decide (x = 0 ∨ x = 1) := Classical.choose_spec qb_x
theorem eqb_x : ∃ f : Int32 → Int32 → Bool, f = fun x y => decide (x = y) := ⟨_, rfl⟩
noncomputable def eqb : Int32 → Int32 → Bool := Classical.choose eqb_x
theorem eqb_d : eqb = fun x y => decide (x = y) := Classical.choose_spec eqb_x
theorem ltb_x : ∃ f : Int32 → Int32 → Bool, f = fun x y => decide (x < y) := ⟨_, rfl⟩
noncomputable def ltb : Int32 → Int32 → Bool := Classical.choose ltb_x
theorem ltb_d : ltb = fun x y => decide (x < y) := Classical.choose_spec ltb_x
theorem leb_x : ∃ f : Int32 → Int32 → Bool, f = fun x y => decide (x ≤ y) := ⟨_, rfl⟩
noncomputable def leb : Int32 → Int32 → Bool := Classical.choose leb_x
theorem leb_d : leb = fun x y => decide (x ≤ y) := Classical.choose_spec leb_x
def qcat : List Value → Nat
  | [] => 0
  | v :: l => v.category + qcat l
/-- a row with one place set, handed on -/
def qsetK {α β : Type} : List α → Nat → α → (List α → β) → β
  | [], _, _, k => k []
  | _ :: l, 0, v, k => k (v :: l)
  | a :: l, n + 1, v, k => qsetK l n v (fun l' => k (a :: l'))
/-- a value is put into a local: a long whose second half lay there is gone -/
def qput1 {ρ : Type} (lo : qLo) (n : Nat) (v : Value) (k : qLo → Option ρ) : Option ρ := match n with
  | 0 => qsetK lo 0 (some v) k
  | j + 1 => match qat lo j with
    | some (some (.long _)) => qsetK lo j none (fun l => qsetK l (j + 1) (some v) k)
    | some (some (.double _)) => none
    | _ => qsetK lo (j + 1) (some v) k
def qput2 {ρ : Type} (lo : qLo) (n : Nat) (v : Value) (k : qLo → Option ρ) : Option ρ := qput1 lo n v fun l => qsetK l (n + 1) none k
def qst {ρ : Type} (lo : qLo) (n : Nat) (k : Option ρ) : Option ρ := match qat lo n with
  | some _ => k
  | none => none
section
variable {ρ : Type}
def q1 (st : List Value) (k : Int32 → List Value → Option ρ) : Option ρ := match st with
  | .int x :: t => k x t
  | _ => none
def q2 (st : List Value) (k : Int32 → Int32 → List Value → Option ρ) : Option ρ := match st with
  | .int y :: .int x :: t => k x y t
  | _ => none
def qJ (st : List Value) (k : Int64 → List Value → Option ρ) : Option ρ := match st with
  | .long x :: t => k x t
  | _ => none
def qJJ (st : List Value) (k : Int64 → Int64 → List Value → Option ρ) : Option ρ := match st with
  | .long y :: .long x :: t => k x y t
  | _ => none
def qA (st : List Value) (k : Value → List Value → Option ρ) : Option ρ := match st with
  | .ref x :: t => k (.ref x) t
  | .null :: t => k .null t
  | _ => none
/-- what goes on behind a call, a read reference -/
def qbI (c : Option (Int32 × qM)) (k : Int32 → qM → Option ρ) : Option ρ := match c with
  | some (x, m) => k x m
  | none => none
def qbL (c : Option (Int64 × qM)) (k : Int64 → qM → Option ρ) : Option ρ := match c with
  | some (x, m) => k x m
  | none => none
def qbV (c : Option (Unit × qM)) (k : qM → Option ρ) : Option ρ := match c with
  | some (_, m) => k m
  | none => none
def qbR (c : Option (Option Nat × qM)) (k : Nat → qM → Option ρ) (g : qM → Option ρ) : Option ρ := match c with
  | some (some x, m) => k x m
  | some (none, m) => g m
  | none => none
def qbIX (c : Option (Option Int32 × qM)) (k : Int32 → qM → Option ρ) (g : qM → Option ρ) : Option ρ := match c with
  | some (some x, m) => k x m
  | some (none, m) => g m
  | none => none
def qbVX (c : Option (Option Unit × qM)) (k : qM → Option ρ) (g : qM → Option ρ) : Option ρ := match c with
  | some (some _, m) => k m
  | some (none, m) => g m
  | none => none
def qbN (c : Option Nat) (k : Nat → Option ρ) (g : Option ρ) : Option ρ := match c with
  | some x => k x
  | none => g
noncomputable def oC (v : Value) (t : qT ρ) : qT ρ := fun lo st m => t lo (v :: st) m
noncomputable def oLi (n : Nat) (t : qT ρ) : qT ρ := fun lo st m => match qat lo n with
  | some (some (.int x)) => t lo (.int x :: st) m
  | _ => none
noncomputable def oLl (n : Nat) (t : qT ρ) : qT ρ := fun lo st m => match qat lo n with
  | some (some (.long x)) => t lo (.long x :: st) m
  | _ => none
noncomputable def oLa (n : Nat) (t : qT ρ) : qT ρ := fun lo st m => match qat lo n with
  | some (some (.ref x)) => t lo (.ref x :: st) m
  | some (some .null) => t lo (.null :: st) m
  | _ => none
noncomputable def oSi (n : Nat) (t : qT ρ) : qT ρ := fun lo st m => q1 st fun x r => qst lo n (qput1 lo n (.int x) fun lo' => t lo' r m)
noncomputable def oSl (n : Nat) (t : qT ρ) : qT ρ := fun lo st m => qJ st fun x r => qst lo (n + 1) (qput2 lo n (.long x) fun lo' => t lo' r m)
noncomputable def oSa (n : Nat) (t : qT ρ) : qT ρ := fun lo st m => qA st fun v r => qst lo n (qput1 lo n v fun lo' => t lo' r m)
noncomputable def oInc (n : Nat) (v : Int32) (t : qT ρ) : qT ρ := fun lo st m => match qat lo n with
  | some (some (.int x)) => qput1 lo n (.int (x + v)) fun lo' => t lo' st m
  | _ => none
noncomputable def o2 (f : Int32 → Int32 → Int32) (t : qT ρ) : qT ρ := fun lo st m => q2 st fun x y r => t lo (.int (f x y) :: r) m
noncomputable def o1 (f : Int32 → Int32) (t : qT ρ) : qT ρ := fun lo st m => q1 st fun x r => t lo (.int (f x) :: r) m
noncomputable def oJJ (f : Int64 → Int64 → Int64) (t : qT ρ) : qT ρ := fun lo st m => qJJ st fun x y r => t lo (.long (f x y) :: r) m
noncomputable def oDiv (t : qT ρ) : qT ρ := fun lo st m => q2 st fun x y r => bif eqb y 0 then none else t lo (.int (x / y) :: r) m
noncomputable def oI2l (t : qT ρ) : qT ρ := fun lo st m => q1 st fun x r => t lo (.long x.toInt64 :: r) m
noncomputable def oLshl (t : qT ρ) : qT ρ := fun lo st m => match st with
  | .int y :: .long x :: r => t lo (.long (x <<< (y.toInt64 &&& 63)) :: r) m
  | _ => none
noncomputable def oLcmp (t : qT ρ) : qT ρ := fun lo st m => qJJ st fun x y r => t lo (.int (lg_cmp x y) :: r) m
noncomputable def oDup (t : qT ρ) : qT ρ := fun lo st m => match st with
  | .int x :: r => t lo (.int x :: .int x :: r) m
  | .ref x :: r => t lo (.ref x :: .ref x :: r) m
  | _ => none
noncomputable def oDup2 (t : qT ρ) : qT ρ := fun lo st m => match st with
  | .int x :: .ref y :: r => t lo (.int x :: .ref y :: .int x :: .ref y :: r) m
  | _ => none
noncomputable def oPop (t : qT ρ) : qT ρ := fun lo st m => match st with
  | .int _ :: r => t lo r m
  | .ref _ :: r => t lo r m
  | _ => none
/-- branches: the first where the condition holds -/
noncomputable def oEq (t f : qT ρ) : qT ρ := fun lo st m => q1 st fun x r => bif eqb x 0 then t lo r m else f lo r m
noncomputable def oLt (t f : qT ρ) : qT ρ := fun lo st m => q1 st fun x r => bif ltb x 0 then t lo r m else f lo r m
noncomputable def oGe (t f : qT ρ) : qT ρ := fun lo st m => q1 st fun x r => bif leb 0 x then t lo r m else f lo r m
noncomputable def oGt (t f : qT ρ) : qT ρ := fun lo st m => q1 st fun x r => bif ltb 0 x then t lo r m else f lo r m
noncomputable def oLe (t f : qT ρ) : qT ρ := fun lo st m => q1 st fun x r => bif leb x 0 then t lo r m else f lo r m
noncomputable def oCEq (t f : qT ρ) : qT ρ := fun lo st m => q2 st fun x y r => bif eqb x y then t lo r m else f lo r m
noncomputable def oCLt (t f : qT ρ) : qT ρ := fun lo st m => q2 st fun x y r => bif ltb x y then t lo r m else f lo r m
noncomputable def oCGe (t f : qT ρ) : qT ρ := fun lo st m => q2 st fun x y r => bif leb y x then t lo r m else f lo r m
noncomputable def oCGt (t f : qT ρ) : qT ρ := fun lo st m => q2 st fun x y r => bif ltb y x then t lo r m else f lo r m
noncomputable def oCLe (t f : qT ρ) : qT ρ := fun lo st m => q2 st fun x y r => bif leb x y then t lo r m else f lo r m
noncomputable def oNull (t f : qT ρ) : qT ρ := fun lo st m => match st with
  | .null :: r => t lo r m
  | .ref q :: r => bif Nat.blt q 1000 then f lo r m else none
  | _ => none
/-- the targets of a switch, one behind another -/
noncomputable def qsw (x : Int32) (k : qT ρ → Option ρ) (dflt : qT ρ) : Int32 → List (qT ρ) → Option ρ
  | _, [] => k dflt
  | v, t :: ts => bif eqb x v then k t else qsw x k dflt (v + 1) ts
noncomputable def oSw (v : Int32) (dflt : qT ρ) (ts : List (qT ρ)) : qT ρ := fun lo st m => q1 st fun x r => qsw x (fun t => t lo r m) dflt v ts
/-- fields of the object c: a number, a long, a reference that stays, one that may change -/
noncomputable def oGi (c k : Nat) (t : qT ρ) : qT ρ := fun lo st m => match st with
  | .ref r :: s => bif Nat.beq r c then t lo (.int (gI m c k) :: s) m else none
  | _ => none
noncomputable def oGl (c k : Nat) (t : qT ρ) : qT ρ := fun lo st m => match st with
  | .ref r :: s => bif Nat.beq r c then t lo (.long (gL m c k) :: s) m else none
  | _ => none
noncomputable def oGf (c _k q : Nat) (t : qT ρ) : qT ρ := fun lo st m => match st with
  | .ref r :: s => bif Nat.beq r c then t lo (.ref q :: s) m else none
  | _ => none
noncomputable def oGr (c k : Nat) (t : qT ρ) : qT ρ := fun lo st m => match st with
  | .ref r :: s => bif Nat.beq r c then qbN (gR m c k) (fun q => t lo (.ref q :: s) m) (t lo (.null :: s) m) else none
  | _ => none
noncomputable def oPi (c k : Nat) (t : qT ρ) : qT ρ := fun lo st m => match st with
  | .int x :: .ref r :: s => bif Nat.beq r c then t lo s (sI m c k x) else none
  | _ => none
noncomputable def oPz (c k : Nat) (t : qT ρ) : qT ρ := fun lo st m => match st with
  | .int x :: .ref r :: s => bif Nat.beq r c then (bif qb x then t lo s (sI m c k x) else none) else none
  | _ => none
noncomputable def oPl (c k : Nat) (t : qT ρ) : qT ρ := fun lo st m => match st with
  | .long x :: .ref r :: s => bif Nat.beq r c then t lo s (sL m c k x) else none
  | _ => none
noncomputable def oPr (c k : Nat) (t : qT ρ) : qT ρ := fun lo st m => match st with
  | .ref q :: .ref r :: s => bif Nat.beq r c then t lo s (sR m c k (some q)) else none
  | .null :: .ref r :: s => bif Nat.beq r c then t lo s (sR m c k none) else none
  | _ => none
/-- rows: c of n places -/
noncomputable def oAi (c n : Nat) (t : qT ρ) : qT ρ := fun lo st m => match st with
  | .int i :: .ref r :: s => bif Nat.beq r c then (bif inb i n then t lo (.int (gI m c (ix i)) :: s) m else none) else none
  | _ => none
/-- a row outside, never written -/
noncomputable def oAx (c n : Nat) (f : Nat → Int32) (t : qT ρ) : qT ρ := fun lo st m => match st with
  | .int i :: .ref r :: s => bif Nat.beq r c then (bif inb i n then t lo (.int (f (ix i)) :: s) m else none) else none
  | _ => none
noncomputable def oAl (c n : Nat) (t : qT ρ) : qT ρ := fun lo st m => match st with
  | .int i :: .ref r :: s => bif Nat.beq r c then (bif inb i n then t lo (.long (gL m c (ix i)) :: s) m else none) else none
  | _ => none
noncomputable def oAr (c n : Nat) (ok : Nat → Bool) (t : qT ρ) : qT ρ := fun lo st m => match st with
  | .int i :: .ref r :: s => bif Nat.beq r c then (bif inb i n then qbN (gR m c (ix i)) (fun q => bif ok q then t lo (.ref q :: s) m else none) (t lo (.null :: s) m) else none) else none
  | _ => none
noncomputable def oWi (c n : Nat) (t : qT ρ) : qT ρ := fun lo st m => match st with
  | .int x :: .int i :: .ref r :: s => bif Nat.beq r c then (bif inb i n then t lo s (sI m c (ix i) x) else none) else none
  | _ => none
noncomputable def oWz (c n : Nat) (t : qT ρ) : qT ρ := fun lo st m => match st with
  | .int x :: .int i :: .ref r :: s => bif Nat.beq r c then (bif inb i n then t lo s (sI m c (ix i) (nz x)) else none) else none
  | _ => none
noncomputable def oWb (c n : Nat) (t : qT ρ) : qT ρ := fun lo st m => match st with
  | .int x :: .int i :: .ref r :: s => bif Nat.beq r c then (bif inb i n then t lo s (sI m c (ix i) (nb x)) else none) else none
  | _ => none
noncomputable def oWl (c n : Nat) (t : qT ρ) : qT ρ := fun lo st m => match st with
  | .long x :: .int i :: .ref r :: s => bif Nat.beq r c then (bif inb i n then t lo s (sL m c (ix i) x) else none) else none
  | _ => none
/-- a Policy put into a row of Policies -/
noncomputable def oWr (c n : Nat) (ok : Nat → Bool) (t : qT ρ) : qT ρ := fun lo st m => match st with
  | .ref x :: .int i :: .ref r :: s => bif Nat.beq r c then (bif ok x then (bif inb i n then t lo s (sR m c (ix i) (some x)) else none) else none) else none
  | _ => none
noncomputable def oLen (c n : Nat) (t : qT ρ) : qT ρ := fun lo st m => match st with
  | .ref r :: s => bif Nat.beq r c then t lo (.int (Int32.ofNat n) :: s) m else none
  | _ => none
/-- something new, as the cell c -/
noncomputable def oNew (c : Nat) (t : qT ρ) : qT ρ := fun lo st m => t lo (.ref c :: st) (qz m c)
noncomputable def oNewa (c n : Nat) (t : qT ρ) : qT ρ := fun lo st m => q1 st fun x s => bif Nat.beq x.toNatClampNeg n then (bif Nat.beq n 0 then none else t lo (.ref c :: s) (qz m c)) else none
/-- a call: so many arguments come off the stack -/
def qtake (n : Nat) (st : List Value) (acc : List Value) (k : List Value → List Value → Option ρ) : Option ρ := match n with
  | 0 => k acc st
  | n + 1 => match st with
    | v :: t => qtake n t (v :: acc) k
    | [] => none
abbrev qG (α : Type) : Type := List Value → qM → Option (α × qM)
noncomputable def oCi (G : qG Int32) (b : Nat) (t : qT ρ) : qT ρ := fun lo st m => qtake b st [] fun av s => bif Nat.ble (qcat s) 8 then qbI (G av m) (fun x m' => t lo (.int x :: s) m') else none
noncomputable def oCl (G : qG Int64) (b : Nat) (t : qT ρ) : qT ρ := fun lo st m => qtake b st [] fun av s => bif Nat.ble (qcat s) 8 then qbL (G av m) (fun x m' => t lo (.long x :: s) m') else none
noncomputable def oCv (G : qG Unit) (b : Nat) (t : qT ρ) : qT ρ := fun lo st m => qtake b st [] fun av s => bif Nat.ble (qcat s) 8 then qbV (G av m) (fun m' => t lo s m') else none
noncomputable def oCr (G : qG (Option Nat)) (b : Nat) (t : qT ρ) : qT ρ := fun lo st m => qtake b st [] fun av s => bif Nat.ble (qcat s) 8 then qbR (G av m) (fun q m' => t lo (.ref q :: s) m') (fun m' => t lo (.null :: s) m') else none
/-- a callee that may throw (then: none, and its world); x: what goes on then -/
noncomputable def oCiX (G : qG (Option Int32)) (b : Nat) (t : qT ρ) (x : qT ρ) : qT ρ := fun lo st m => qtake b st [] fun av s => bif Nat.ble (qcat s) 8 then qbIX (G av m) (fun y m' => t lo (.int y :: s) m') (fun m' => x lo [] m') else none
noncomputable def oCvX (G : qG (Option Unit)) (b : Nat) (t : qT ρ) (x : qT ρ) : qT ρ := fun lo st m => qtake b st [] fun av s => bif Nat.ble (qcat s) 8 then qbVX (G av m) (fun m' => t lo s m') (fun m' => x lo [] m') else none
/-- System.arraycopy of the front of the row a to the front of the row d -/
noncomputable def oCopy (a d n0 n1 : Nat) (t : qT ρ) : qT ρ := fun lo st m => match st with
  | .int n :: .int y :: .ref r :: .int x :: .ref q :: s => bif Nat.beq q a then (bif Nat.beq r d then (bif eqb x 0 then (bif eqb y 0 then (bif ltb n 0 then none else
    (bif Nat.ble (ix n) n0 then (bif Nat.ble (ix n) n1 then (bif Nat.ble (qcat s) 8 then t lo s (sC m a d (ix n)) else none) else none) else none)) else none) else none) else none) else none
  | _ => none
noncomputable def oObj (t : qT ρ) : qT ρ := fun lo st m => match st with
  | .ref q :: s => bif Nat.blt q 1000 then (bif Nat.ble (qcat s) 8 then t lo s m else none) else none
  | _ => none
end
/-! ends of a method, by what it answers -/
noncomputable def eV : qT (Unit × qM) := fun _ st m => match st with
  | [] => some ((), m)
  | _ => none
noncomputable def eI : qT (Int32 × qM) := fun _ st m => match st with
  | [.int x] => some (x, m)
  | _ => none
noncomputable def eZ : qT (Int32 × qM) := fun _ st m => match st with
  | [.int x] => some (nz x, m)
  | _ => none
noncomputable def eL : qT (Int64 × qM) := fun _ st m => match st with
  | [.long x] => some (x, m)
  | _ => none
noncomputable def eR : qT (Option Nat × qM) := fun _ st m => match st with
  | [.ref x] => some (some x, m)
  | [.null] => some (none, m)
  | _ => none
/-- of methods that may throw -/
noncomputable def eVX : qT (Option Unit × qM) := fun _ st m => match st with
  | [] => some (some (), m)
  | _ => none
noncomputable def eIX : qT (Option Int32 × qM) := fun _ st m => match st with
  | [.int x] => some (some x, m)
  | _ => none
noncomputable def eTv : qT (Option Unit × qM) := fun _ st m => match st with
  | .ref r :: _ => bif Nat.beq r 109 then some (none, m) else none
  | _ => none
noncomputable def eTi : qT (Option Int32 × qM) := fun _ st m => match st with
  | .ref r :: _ => bif Nat.beq r 109 then some (none, m) else none
  | _ => none
/-- thrown by a callee, not caught here -/
noncomputable def eXv : qT (Option Unit × qM) := fun _ _ m => some (none, m)
noncomputable def eXi : qT (Option Int32 × qM) := fun _ _ m => some (none, m)
