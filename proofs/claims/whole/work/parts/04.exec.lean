/-! THE ABSTRACT MACHINE: the claim's own cells by numbers, one function that runs a method's bytecode on them; the sound part (05) ties it to the machine once and for all, all else is pure. -/
/-- what a cell is: an object of the class of that number, or a row of a type and a length -/
abbrev aK : Type := Nat ⊕ (FieldType × Nat)
/-- kinds; ints, longs, references, by cell and place -/
abbrev aS : Type := List aK × (Nat → Nat → Int32) × (Nat → Nat → Int64) × (Nat → Nat → Option Nat)
def aI (σ : aS) : Nat → Nat → Int32 := σ.2.1
def aJ (σ : aS) : Nat → Nat → Int64 := σ.2.2.1
def aR (σ : aS) : Nat → Nat → Option Nat := σ.2.2.2
/-- a row put in place of a cell's -/
def pIr (σ : aS) (o : Nat) (g : Nat → Int32) : aS := (σ.1, va_up (aI σ) o g, aJ σ, aR σ)
def pJr (σ : aS) (o : Nat) (g : Nat → Int64) : aS := (σ.1, aI σ, va_up (aJ σ) o g, aR σ)
def pRr (σ : aS) (o : Nat) (g : Nat → Option Nat) : aS := (σ.1, aI σ, aJ σ, va_up (aR σ) o g)
abbrev pI (σ : aS) (o k : Nat) (x : Int32) : aS := pIr σ o (va_up (aI σ o) k x)
abbrev pJ (σ : aS) (o k : Nat) (x : Int64) : aS := pJr σ o (va_up (aJ σ o) k x)
abbrev pR (σ : aS) (o k : Nat) (x : Option Nat) : aS := pRr σ o (va_up (aR σ o) k x)
/-- a new cell, all zero -/
def zN (σ : aS) (kd : aK) : aS := (σ.1 ++ [kd], va_up (aI σ) σ.1.length (fun _ => 0), va_up (aJ σ) σ.1.length (fun _ => 0), va_up (aR σ) σ.1.length (fun _ => none))
/-- a new grid of ints: the outer row, then the inner ones -/
def zM (σ : aS) (n k : Nat) : aS := (σ.1 ++ .inr (.array .int, n) :: List.replicate n (.inr (.int, k)), (fun a => if σ.1.length ≤ a then fun _ => 0 else aI σ a), (fun a => if σ.1.length ≤ a then fun _ => 0 else aJ σ a), (fun a => if a = σ.1.length then fun i => if i < n then some (σ.1.length + 1 + i) else none else if σ.1.length < a then fun _ => none else aR σ a))
abbrev aCf : Type := Nat × List Value × List Value × aS
/-- a step's end: on; a call (method, arguments, what stands behind it); an answer -/
abbrev aOut : Type := aCf ⊕ ((Nat × List Value × aCf) ⊕ Option Value)
def nx (pc : Nat) (L st : List Value) (σ : aS) : Option aOut := some (.inl (pc, L, st, σ))
/-- no value: a place of the locals that holds nothing that is read -/
abbrev mk0 : Value := .float 0
def jt (pc : Nat) (off : Int) : Option Nat := match (pc : Int) + off with
  | .ofNat t => some t
  | .negSucc _ => none
def gt0 (pc : Nat) (off : Int) (L st : List Value) (σ : aS) : Option aOut := match jt pc off with
  | some t => nx t L st σ
  | none => none
/-- a branch -/
def cj (pc : Nat) (off : Int) (c : Bool) (L st : List Value) (σ : aS) : Option aOut := match jt pc off with
  | some t => if c = true then nx t L st σ else nx (pc + 3) L st σ
  | none => none
def isRf (ty : FieldType) : Bool := match ty with
  | .object _ | .array _ => true
  | _ => false
/-- a field's value, by its type -/
def fvl (σ : aS) (o k : Nat) (ty : FieldType) : Value := match ty with
  | .long => .long (aJ σ o k)
  | .object _ | .array _ => va_rf (aR σ o k)
  | _ => .int (aI σ o k)
/-- the place below isn't the first half of a long -/
def okst (L : List Value) (k : Nat) : Bool := match k with
  | 0 => true
  | j + 1 => match L[j]? with
    | some v => v.category != 2
    | none => true
def inb (i : Int32) (n : Nat) : Bool := !(decide (i < 0) || decide (n ≤ i.toNatClampNeg))
def cats (st : List Value) : Nat := (st.map fun v => v.category).sum
/-- the locals that arguments give -/
def argL : List Value → List Value
  | [] => []
  | v :: vs => if v.category = 2 then v :: mk0 :: argL vs else v :: argL vs
def entL (m : Nat) (as : List Value) : List Value := argL as ++ List.replicate (mL m - (argL as).length) mk0
def isInt32 (ty : FieldType) : Bool := match ty with
  | .int => true
  | _ => false
/-- a call's step, by the callee's row -/
def doCall (own idx pc : Nat) (L st : List Value) (σ : aS) (kd : Nat) : Option aOut :=
  match lk3 (if kd = 3 then mnT else mlT) own idx with
  | none => none
  | some j =>
    if mK j = (if kd = 3 then 2 else kd) ∧ j < 212 then
      if kd = 1 then
        if cats (st.drop (mN j)) ≤ 8 ∧ (st.take (mN j)).length = mN j then some (.inr (.inl (j, (st.take (mN j)).reverse, (pc + 3, L, st.drop (mN j), σ)))) else none
      else
        match st.drop (mN j) with
        | .ref b :: rest => if cats rest ≤ 8 ∧ σ.1[b]? = some (.inl (mO j)) then some (.inr (.inl (j, .ref b :: (st.take (mN j)).reverse, (pc + 3, L, rest, σ)))) else none
        | _ => none
    else none
def swt (pc : Nat) (dflt lo hi : Int) (offs : Array Int) (x : Int32) : Option Nat :=
  if x.toInt < lo ∨ hi < x.toInt then jt pc dflt else match offs[(x.toInt - lo).toNat]? with
    | some off => jt pc off
    | none => none
def lwt (pc : Nat) (dflt : Int) (ps : Array (Int × Int)) (x : Int32) : Option Nat :=
  if (ps.toList.zip (ps.toList.drop 1)).all (fun (a, next) => a.1 < next.1) = true then jt pc (Op.lookupswitch.offset ps.toList dflt x.toInt) else none
def sVal : Nat → Value
  | 0 => .ref 1
  | 1 => .ref 2
  | 2 => .ref 3
  | 3 => .ref 4
  | 4 => .int 1
  | _ => .retAddr 0
/-- an array's view: the script's is given beside -/
def arI (sc : Option (Nat × (Nat → Int32))) (σ : aS) (a : Nat) : Option (Nat × (Nat → Int32)) := if a = 0 then sc else match σ.1[a]? with
  | some (.inr (.int, n)) => some (n, aI σ a)
  | _ => none
def putv (σ : aS) (o k : Nat) (ty : FieldType) (v : Value) : Option aS := match v with
  | .int x => if narrow ty v = v ∧ fits ty v = true ∧ ty ≠ .long ∧ isRf ty = false then some (pI σ o k x) else none
  | .ref q => if isRf ty = true then some (pR σ o k (some q)) else none
  | _ => none
def stpI (sc : Option (Nat × (Nat → Int32))) (m : Nat) (i : Instr) (len pc : Nat) (L st : List Value) (σ : aS) : Option aOut :=
  match i with
  | .iconst n => if len = 1 then nx (pc + 1) L (.int (Int32.ofInt n) :: st) σ else none
  | .bipush n => if len = 2 then nx (pc + 2) L (.int (Int8.ofInt n).toInt32 :: st) σ else none
  | .sipush n => if len = 3 then nx (pc + 3) L (.int (Int16.ofInt n).toInt32 :: st) σ else none
  | .lconst n => if len = 1 then nx (pc + 1) L (.long (Int64.ofNat (n : Nat)) :: st) σ else none
  | .ldc x => if len = 2 then match lk3 ldT (mO m) x with
      | some i => nx (pc + 2) L (.ref (5 + i) :: st) σ
      | none => none
    else none
  | .ldc_w x => if len = 3 then match lk3 lciT (mO m) x with
      | some v => nx (pc + 3) L (.int v :: st) σ
      | none => none
    else none
  | .ldc2_w x => if len = 3 then match lk3 lclT (mO m) x with
      | some v => nx (pc + 3) L (.long v :: st) σ
      | none => none
    else none
  | .iload k => if len = 2 then match L[k]? with
      | some (.int x) => nx (pc + 2) L (.int x :: st) σ
      | _ => none
    else none
  | .iload_n k => if len = 1 then match L[(k : Nat)]? with
      | some (.int x) => nx (pc + 1) L (.int x :: st) σ
      | _ => none
    else none
  | .lload k => if len = 2 then match L[k]? with
      | some (.long x) => nx (pc + 2) L (.long x :: st) σ
      | _ => none
    else none
  | .lload_n k => if len = 1 then match L[(k : Nat)]? with
      | some (.long x) => nx (pc + 1) L (.long x :: st) σ
      | _ => none
    else none
  | .aload k => if len = 2 then match L[k]? with
      | some (.ref x) => nx (pc + 2) L (.ref x :: st) σ
      | _ => none
    else none
  | .aload_n k => if len = 1 then match L[(k : Nat)]? with
      | some (.ref x) => nx (pc + 1) L (.ref x :: st) σ
      | _ => none
    else none
  | .istore k => if len = 2 ∧ k < L.length ∧ okst L k = true then match st with
      | .int x :: r => nx (pc + 2) (L.set k (.int x)) r σ
      | _ => none
    else none
  | .istore_n k => if len = 1 ∧ (k : Nat) < L.length ∧ okst L k = true then match st with
      | .int x :: r => nx (pc + 1) (L.set (k : Nat) (.int x)) r σ
      | _ => none
    else none
  | .astore k => if len = 2 ∧ k < L.length ∧ okst L k = true then match st with
      | .ref x :: r => nx (pc + 2) (L.set k (.ref x)) r σ
      | _ => none
    else none
  | .astore_n k => if len = 1 ∧ (k : Nat) < L.length ∧ okst L k = true then match st with
      | .ref x :: r => nx (pc + 1) (L.set (k : Nat) (.ref x)) r σ
      | _ => none
    else none
  | .lstore k => if len = 2 ∧ k + 1 < L.length ∧ okst L k = true then match st with
      | .long x :: r => nx (pc + 2) ((L.set k (.long x)).set (k + 1) mk0) r σ
      | _ => none
    else none
  | .lstore_n k => if len = 1 ∧ (k : Nat) + 1 < L.length ∧ okst L k = true then match st with
      | .long x :: r => nx (pc + 1) ((L.set (k : Nat) (.long x)).set ((k : Nat) + 1) mk0) r σ
      | _ => none
    else none
  | .iinc k n => if len = 3 ∧ k < L.length ∧ okst L k = true then match L[k]? with
      | some (.int x) => nx (pc + 3) (L.set k (.int (x + Int32.ofInt n))) st σ
      | _ => none
    else none
  | .dup => if len = 1 then match st with
      | v :: r => if v.category = 1 then nx (pc + 1) L (v :: v :: r) σ else none
      | _ => none
    else none
  | .pop => if len = 1 then match st with
      | v :: r => if v.category = 1 then nx (pc + 1) L r σ else none
      | _ => none
    else none
  | .iadd => if len = 1 then match st with
      | .int y :: .int x :: r => nx (pc + 1) L (.int (x + y) :: r) σ
      | _ => none
    else none
  | .isub => if len = 1 then match st with
      | .int y :: .int x :: r => nx (pc + 1) L (.int (x - y) :: r) σ
      | _ => none
    else none
  | .imul => if len = 1 then match st with
      | .int y :: .int x :: r => nx (pc + 1) L (.int (x * y) :: r) σ
      | _ => none
    else none
  | .iand => if len = 1 then match st with
      | .int y :: .int x :: r => nx (pc + 1) L (.int (x &&& y) :: r) σ
      | _ => none
    else none
  | .ior => if len = 1 then match st with
      | .int y :: .int x :: r => nx (pc + 1) L (.int (x ||| y) :: r) σ
      | _ => none
    else none
  | .ixor => if len = 1 then match st with
      | .int y :: .int x :: r => nx (pc + 1) L (.int (x ^^^ y) :: r) σ
      | _ => none
    else none
  | .ishl => if len = 1 then match st with
      | .int y :: .int x :: r => nx (pc + 1) L (.int (x <<< (y &&& 31)) :: r) σ
      | _ => none
    else none
  | .ishr => if len = 1 then match st with
      | .int y :: .int x :: r => nx (pc + 1) L (.int (x >>> (y &&& 31)) :: r) σ
      | _ => none
    else none
  | .iushr => if len = 1 then match st with
      | .int y :: .int x :: r => nx (pc + 1) L (.int (x.toUInt32 >>> (y.toUInt32 &&& Int32.toUInt32 31)).toInt32 :: r) σ
      | _ => none
    else none
  | .idiv => if len = 1 then match st with
      | .int y :: .int x :: r => if y = 0 then none else nx (pc + 1) L (.int (x / y) :: r) σ
      | _ => none
    else none
  | .irem => if len = 1 then match st with
      | .int y :: .int x :: r => if y = 0 then none else nx (pc + 1) L (.int (x % y) :: r) σ
      | _ => none
    else none
  | .ineg => if len = 1 then match st with
      | .int x :: r => nx (pc + 1) L (.int (-x) :: r) σ
      | _ => none
    else none
  | .i2l => if len = 1 then match st with
      | .int x :: r => nx (pc + 1) L (.long x.toInt64 :: r) σ
      | _ => none
    else none
  | .l2i => if len = 1 then match st with
      | .long x :: r => nx (pc + 1) L (.int x.toInt32 :: r) σ
      | _ => none
    else none
  | .i2b => if len = 1 then match st with
      | .int x :: r => nx (pc + 1) L (.int x.toInt8.toInt32 :: r) σ
      | _ => none
    else none
  | .i2s => if len = 1 then match st with
      | .int x :: r => nx (pc + 1) L (.int x.toInt16.toInt32 :: r) σ
      | _ => none
    else none
  | .i2c => if len = 1 then match st with
      | .int x :: r => nx (pc + 1) L (.int (x.toUInt32 % 65536).toInt32 :: r) σ
      | _ => none
    else none
  | .land => if len = 1 then match st with
      | .long y :: .long x :: r => nx (pc + 1) L (.long (x &&& y) :: r) σ
      | _ => none
    else none
  | .lor => if len = 1 then match st with
      | .long y :: .long x :: r => nx (pc + 1) L (.long (x ||| y) :: r) σ
      | _ => none
    else none
  | .lxor => if len = 1 then match st with
      | .long y :: .long x :: r => nx (pc + 1) L (.long (x ^^^ y) :: r) σ
      | _ => none
    else none
  | .lshl => if len = 1 then match st with
      | .int y :: .long x :: r => nx (pc + 1) L (.long (x <<< (y.toInt64 &&& 63)) :: r) σ
      | _ => none
    else none
  | .lushr => if len = 1 then match st with
      | .int y :: .long x :: r => nx (pc + 1) L (.long (x.toUInt64 >>> (y.toInt64.toUInt64 &&& Int64.toUInt64 63)).toInt64 :: r) σ
      | _ => none
    else none
  | .lcmp => if len = 1 then match st with
      | .long y :: .long x :: r => nx (pc + 1) L (.int (lg_cmp x y) :: r) σ
      | _ => none
    else none
  | .ifCond c off => if len = 3 then match st with
      | .int x :: r => match c with
        | .eq => cj pc off (decide (x = 0)) L r σ
        | .ne => cj pc off (decide (¬ x = 0)) L r σ
        | .lt => cj pc off (decide (x < 0)) L r σ
        | .ge => cj pc off (decide (0 ≤ x)) L r σ
        | .gt => cj pc off (decide (0 < x)) L r σ
        | .le => cj pc off (decide (x ≤ 0)) L r σ
      | _ => none
    else none
  | .if_icmp c off => if len = 3 then match st with
      | .int y :: .int x :: r => match c with
        | .eq => cj pc off (decide (x = y)) L r σ
        | .ne => cj pc off (decide (¬ x = y)) L r σ
        | .lt => cj pc off (decide (x < y)) L r σ
        | .ge => cj pc off (decide (y ≤ x)) L r σ
        | .gt => cj pc off (decide (y < x)) L r σ
        | .le => cj pc off (decide (x ≤ y)) L r σ
      | _ => none
    else none
  | .goto off => if len = 3 then gt0 pc off L st σ else none
  | .tableswitch dflt lo hi offs => match st with
      | .int x :: r => match swt pc dflt lo hi offs x with
        | some t => nx t L r σ
        | none => none
      | _ => none
  | .lookupswitch dflt ps => match st with
      | .int x :: r => match lwt pc dflt ps x with
        | some t => nx t L r σ
        | none => none
      | _ => none
  | .getstatic x => if len = 3 then match lk3 stT (mO m) x with
      | some k => nx (pc + 3) L (sVal k :: st) σ
      | none => match lk3 snT (mO m) x with
        | some k => nx (pc + 3) L (sVal k :: st) σ
        | none => none
    else none
  | .getfield x => if len = 3 then match lk3 flT (mO m) x with
      | some (ci, k) => match st with
        | .ref o :: r => if σ.1[o]? = some (.inl ci) ∧ k < nfl ci then nx (pc + 3) L (fvl σ o k (cty ci k) :: r) σ else none
        | _ => none
      | none => none
    else none
  | .putfield x => if len = 3 then match lk3 flT (mO m) x with
      | some (ci, k) => match st with
        | v :: .ref o :: r => if 17 ≤ o ∧ ci < 8 ∧ σ.1[o]? = some (.inl ci) ∧ k < nfl ci ∧ ((fT ci k).2.2.2 = true → mK m = 2 ∧ mO m = ci) then match putv σ o k (cty ci k) v with
            | some σ2 => nx (pc + 3) L r σ2
            | none => none
          else none
        | _ => none
      | none => none
    else none
  | .arraylength => if len = 1 then match st with
      | .ref a :: r => if a = 0 then match sc with
          | some (n, _) => nx (pc + 1) L (.int (Int32.ofNat n) :: r) σ
          | none => none
        else match σ.1[a]? with
          | some (.inr (_, n)) => nx (pc + 1) L (.int (Int32.ofNat n) :: r) σ
          | _ => none
      | _ => none
    else none
  | .iaload => if len = 1 then match st with
      | .int i :: .ref a :: r => match arI sc σ a with
        | some (n, f) => if inb i n = true then nx (pc + 1) L (.int (f i.toNatClampNeg) :: r) σ else none
        | none => none
      | _ => none
    else none
  | .laload => if len = 1 then match st with
      | .int i :: .ref a :: r => match σ.1[a]? with
        | some (.inr (.long, n)) => if inb i n = true ∧ 17 ≤ a then nx (pc + 1) L (.long (aJ σ a i.toNatClampNeg) :: r) σ else none
        | _ => none
      | _ => none
    else none
  | .baload => if len = 1 then match st with
      | .int i :: .ref a :: r => match σ.1[a]? with
        | some (.inr (.byte, n)) => if inb i n = true ∧ a ≠ 0 then nx (pc + 1) L (.int (aI σ a i.toNatClampNeg) :: r) σ else none
        | some (.inr (.boolean, n)) => if inb i n = true ∧ 17 ≤ a then nx (pc + 1) L (.int (aI σ a i.toNatClampNeg) :: r) σ else none
        | _ => none
      | _ => none
    else none
  | .aaload => if len = 1 then match st with
      | .int i :: .ref a :: r => match σ.1[a]? with
        | some (.inr (ty, n)) => if inb i n = true ∧ 17 ≤ a ∧ isRf ty = true then nx (pc + 1) L (va_rf (aR σ a i.toNatClampNeg) :: r) σ else none
        | _ => none
      | _ => none
    else none
  | .iastore => if len = 1 then match st with
      | .int x :: .int i :: .ref a :: r => match σ.1[a]? with
        | some (.inr (.int, n)) => if inb i n = true ∧ 17 ≤ a then nx (pc + 1) L r (pI σ a i.toNatClampNeg x) else none
        | _ => none
      | _ => none
    else none
  | .lastore => if len = 1 then match st with
      | .long x :: .int i :: .ref a :: r => match σ.1[a]? with
        | some (.inr (.long, n)) => if inb i n = true ∧ 17 ≤ a then nx (pc + 1) L r (pJ σ a i.toNatClampNeg x) else none
        | _ => none
      | _ => none
    else none
  | .bastore => if len = 1 then match st with
      | .int x :: .int i :: .ref a :: r => match σ.1[a]? with
        | some (.inr (.byte, n)) => if inb i n = true ∧ 17 ≤ a then nx (pc + 1) L r (pI σ a i.toNatClampNeg (vp_nar .byte x)) else none
        | some (.inr (.boolean, n)) => if inb i n = true ∧ 17 ≤ a then nx (pc + 1) L r (pI σ a i.toNatClampNeg (vp_nar .boolean x)) else none
        | _ => none
      | _ => none
    else none
  | .aastore => if len = 1 then match st with
      | .ref v :: .int i :: .ref a :: r => match σ.1[a]? with
        | some (.inr (.object C, n)) => match σ.1[v]? with
          | some (.inl ci) => if inb i n = true ∧ 17 ≤ a ∧ 17 ≤ v ∧ ci < 8 ∧ C = cN ci then nx (pc + 1) L r (pR σ a i.toNatClampNeg (some v)) else none
          | _ => none
        | _ => none
      | _ => none
    else none
  | .new x => if len = 3 then match lk3 klT (mO m) x with
      | some ci => if ci < 8 then nx (pc + 3) L (.ref σ.1.length :: st) (zN σ (.inl ci)) else none
      | none => none
    else none
  | .newarray ty => if len = 2 then match st with
      | .int n :: r => if n < 0 ∨ 100000 < n.toNatClampNeg then none else match ty with
        | .int => nx (pc + 2) L (.ref σ.1.length :: r) (zN σ (.inr (.int, n.toNatClampNeg)))
        | .long => nx (pc + 2) L (.ref σ.1.length :: r) (zN σ (.inr (.long, n.toNatClampNeg)))
        | .byte => nx (pc + 2) L (.ref σ.1.length :: r) (zN σ (.inr (.byte, n.toNatClampNeg)))
        | .boolean => nx (pc + 2) L (.ref σ.1.length :: r) (zN σ (.inr (.boolean, n.toNatClampNeg)))
        | _ => none
      | _ => none
    else none
  | .anewarray x => if len = 3 then match lk3 klT (mO m) x with
      | some ci => match st with
        | .int n :: r => if n < 0 ∨ 100000 < n.toNatClampNeg ∨ ¬ (ci = 2 ∨ ci = 4) then none else nx (pc + 3) L (.ref σ.1.length :: r) (zN σ (.inr (.object (cN ci), n.toNatClampNeg)))
        | _ => none
      | none => none
    else none
  | .multianewarray x d => if len = 4 ∧ mO m = 3 ∧ x = 11 ∧ d = 2 then match st with
      | .int k :: .int n :: r => if n < 0 ∨ k < 0 ∨ 1000 < n.toNatClampNeg ∨ 1000 < k.toNatClampNeg then none else nx (pc + 4) L (.ref σ.1.length :: r) (zM σ n.toNatClampNeg k.toNatClampNeg)
      | _ => none
    else none
  | .invokevirtual x => if len = 3 then doCall (mO m) x pc L st σ 0 else none
  | .invokestatic x => if len = 3 then if lk2 acT (mO m) x = true then match st with
        | .int n :: .int dp :: .ref b :: .int sp :: .ref a :: r => if n < 0 ∨ dp < 0 ∨ sp < 0 ∨ a < 17 ∨ b < 17 ∨ 8 < cats r then none else match σ.1[a]?, σ.1[b]? with
          | some (.inr (.int, n0)), some (.inr (.int, n1)) => if sp.toNatClampNeg + n.toNatClampNeg ≤ n0 ∧ dp.toNatClampNeg + n.toNatClampNeg ≤ n1 then nx (pc + 3) L r (pIr σ b (va_cpy (aI σ a) (aI σ b) sp.toNatClampNeg dp.toNatClampNeg n.toNatClampNeg)) else none
          | some (.inr (.long, n0)), some (.inr (.long, n1)) => if sp.toNatClampNeg + n.toNatClampNeg ≤ n0 ∧ dp.toNatClampNeg + n.toNatClampNeg ≤ n1 then nx (pc + 3) L r (pJr σ b (va_cpy (aJ σ a) (aJ σ b) sp.toNatClampNeg dp.toNatClampNeg n.toNatClampNeg)) else none
          | _, _ => none
        | _ => none
      else doCall (mO m) x pc L st σ 1
    else none
  | .invokespecial x => if len = 3 then if lk2 oiT (mO m) x = true then match st with
        | .ref _ :: r => if cats r ≤ 8 then nx (pc + 3) L r σ else none
        | _ => none
      else match lk3 mlT (mO m) x with
        | some _ => doCall (mO m) x pc L st σ 2
        | none => doCall (mO m) x pc L st σ 3
    else none
  | .ireturn => if len = 1 then match st with
      | [.int x] => match mR m with
        | some ty => if narrow ty (.int x) = .int x then some (.inr (.inr (some (.int x)))) else none
        | none => none
      | _ => none
    else none
  | .lreturn => if len = 1 ∧ mR m = some .long then match st with
      | [.long x] => some (.inr (.inr (some (.long x))))
      | _ => none
    else none
  | .return_ => if len = 1 ∧ mR m = none then match st with
      | [] => some (.inr (.inr none))
      | _ => none
    else none
  | _ => none
def stp (sc : Option (Nat × (Nat → Int32))) (m pc : Nat) (L st : List Value) (σ : aS) : Option aOut := match decode (mC m) pc with
  | .ok (i, len) => stpI sc m i len pc L st σ
  | .error _ => none
abbrev aRes : Type := aS × Option Value
/-- a method's body, n steps at most -/
def ex (cb : Nat → List Value → aS → Option aRes) (sc : Option (Nat × (Nat → Int32))) (m : Nat) : Nat → Nat → List Value → List Value → aS → Option aRes
  | 0, _, _, _, _ => none
  | n + 1, pc, L, st, σ => match stp sc m pc L st σ with
    | some (.inl (pc', L', st', σ')) => ex cb sc m n pc' L' st' σ'
    | some (.inr (.inl (j, as, (pc', L', st', σ')))) => match cb j as σ' with
      | some (σ2, v) => ex cb sc m n pc' L' (v.toList ++ st') σ2
      | none => none
    | some (.inr (.inr v)) => some (σ, v)
    | none => none
/-- a call, d deep at most, N steps a body at most -/
def cl (sc : Option (Nat × (Nat → Int32))) (N : Nat) : Nat → Nat → List Value → aS → Option aRes
  | 0, _, _, _ => none
  | d + 1, j, as, σ => if (argL as).length ≤ mL j then ex (cl sc N d) sc j N 0 (entL j as) [] σ else none
