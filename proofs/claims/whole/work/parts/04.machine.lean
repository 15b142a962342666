/-! THE INTERPRETER: a small machine over heaps whose shape is data and whose contents are functions; a big step a method -/
abbrev XH : Type := List (Nat × Nat) × (Nat → Nat → Int32) × (Nat → Nat → Int64) × (Nat → Nat → Option Nat)
abbrev XE : Type := Nat × (Nat → Int32)
abbrev XC : Type := Nat × List Value × List Value × XH
/-- a local that nothing is known of -/
def xdm : Value := .retAddr 1
def xkl (v : Value) : Value := if v.category = 2 then xdm else v
def xs1 : List Value → Nat → Value → List Value
  | [], _, _ => []
  | _ :: r, 0, v => v :: r
  | a :: r, n + 1, v => (if n = 0 then xkl a else a) :: xs1 r n v
def xs2 : List Value → Nat → Value → List Value
  | [], _, _ => []
  | [a], 0, _ => [a]
  | _ :: _ :: r, 0, v => v :: xdm :: r
  | a :: r, n + 1, v => (if n = 0 then xkl a else a) :: xs2 r n v
def xuI (I : Nat → Nat → Int32) (a k : Nat) (x : Int32) : Nat → Nat → Int32 := fun b j => if b = a ∧ j = k then x else I b j
def xuJ (J : Nat → Nat → Int64) (a k : Nat) (x : Int64) : Nat → Nat → Int64 := fun b j => if b = a ∧ j = k then x else J b j
def xuP (P : Nat → Nat → Option Nat) (a k : Nat) (x : Option Nat) : Nat → Nat → Option Nat := fun b j => if b = a ∧ j = k then x else P b j
def xcI (I : Nat → Nat → Int32) (a0 sp a dp n : Nat) : Nat → Nat → Int32 := fun b j => if b = a ∧ dp ≤ j ∧ j < dp + n then I a0 (sp + (j - dp)) else I b j
def xz {α : Type} (z : α) (f : Nat → Nat → α) (n : Nat) : Nat → Nat → α := fun b j => if n ≤ b then z else f b j
def xin (i : Int32) (n : Nat) : Bool := decide (¬ (i < 0 ∨ n ≤ i.toNatClampNeg))
def xgo (pc : Nat) (off : Int) : Option Nat := if 0 ≤ (pc : Int) + off then some ((pc : Int) + off).toNat else none
def xcm (c : Jvm.ClassFile.Cond) (x y : Int32) : Bool := match c with
  | .eq => decide (x = y)
  | .ne => decide (¬ x = y)
  | .lt => decide (x < y)
  | .ge => decide (y ≤ x)
  | .gt => decide (y < x)
  | .le => decide (x ≤ y)
/-- where the heap's cells end; where Strings' and their bytes' addresses begin, and the script's -/
def xTop : Nat := 100000
def xStr : Nat := 200000
def xByt : Nat := 300000
def xScr : Nat := 400000
def xByts : List (List Int32) := [[117, 112], [100, 111, 119, 110], [119, 97, 105, 116], [100, 111], [59]]
def xLens : List Nat := [2, 4, 4, 2, 1]
def xfv (c k : Nat) (h : XH) (a : Nat) : Value := match tyC c k with
  | .int => .int (h.2.1 a k)
  | .long => .long (h.2.2.1 a k)
  | _ => va_rf (h.2.2.2 a k)
def xkd (h : XH) (a : Nat) : Nat × Nat := (h.1[a]?).getD (99, 0)
def xli (ls st : List Value) (h : XH) (pc l i : Nat) : Option XC := match ls[i]? with
  | some (.int x) => some (pc + l, ls, .int x :: st, h)
  | _ => none
def xll (ls st : List Value) (h : XH) (pc l i : Nat) : Option XC := match ls[i]? with
  | some (.long x) => some (pc + l, ls, .long x :: st, h)
  | _ => none
def xla (ls st : List Value) (h : XH) (pc l i : Nat) : Option XC := match ls[i]? with
  | some (.ref x) => some (pc + l, ls, .ref x :: st, h)
  | _ => none
def xsi (ls st : List Value) (h : XH) (pc l i : Nat) : Option XC := match st with
  | .int x :: r => if i < ls.length then some (pc + l, xs1 ls i (.int x), r, h) else none
  | _ => none
def xsl (ls st : List Value) (h : XH) (pc l i : Nat) : Option XC := match st with
  | .long x :: r => if i + 1 < ls.length then some (pc + l, xs2 ls i (.long x), r, h) else none
  | _ => none
def xsa (ls st : List Value) (h : XH) (pc l i : Nat) : Option XC := match st with
  | .ref x :: r => if i < ls.length then some (pc + l, xs1 ls i (.ref x), r, h) else none
  | _ => none
def xi2 (f : Int32 → Int32 → Int32) (ls st : List Value) (h : XH) (pc : Nat) : Option XC := match st with
  | .int y :: .int x :: r => some (pc + 1, ls, .int (f x y) :: r, h)
  | _ => none
def xd2 (f : Int32 → Int32 → Int32) (ls st : List Value) (h : XH) (pc : Nat) : Option XC := match st with
  | .int y :: .int x :: r => if y = 0 then none else some (pc + 1, ls, .int (f x y) :: r, h)
  | _ => none
def xl2 (f : Int64 → Int64 → Int64) (ls st : List Value) (h : XH) (pc : Nat) : Option XC := match st with
  | .long y :: .long x :: r => some (pc + 1, ls, .long (f x y) :: r, h)
  | _ => none
def xe2 (f : Int64 → Int64 → Int64) (ls st : List Value) (h : XH) (pc : Nat) : Option XC := match st with
  | .long y :: .long x :: r => if y = 0 then none else some (pc + 1, ls, .long (f x y) :: r, h)
  | _ => none
def xlsh (f : Int64 → Int32 → Int64) (ls st : List Value) (h : XH) (pc : Nat) : Option XC := match st with
  | .int y :: .long x :: r => some (pc + 1, ls, .long (f x y) :: r, h)
  | _ => none
def xif (b : Bool) (pc : Nat) (off : Int) (ls st : List Value) (h : XH) : Option XC := match xgo pc off with
  | some t => if b = true then some (t, ls, st, h) else some (pc + 3, ls, st, h)
  | none => none
def xts (lo hi dflt : Int) (offs : Array Int) (pc : Nat) (ls st : List Value) (h : XH) : Option XC := match st with
  | .int x :: r => if x.toInt < lo ∨ hi < x.toInt then (match xgo pc dflt with
    | some t => some (t, ls, r, h)
    | none => none) else (match offs[(x.toInt - lo).toNat]? with
    | some off => (match xgo pc off with
      | some t => some (t, ls, r, h)
      | none => none)
    | none => none)
  | _ => none
def xlk (dflt : Int) (ps : Array (Int × Int)) (pc : Nat) (ls st : List Value) (h : XH) : Option XC := match st with
  | .int x :: r => if (ps.toList.zip (ps.toList.drop 1)).all (fun (a, next) => a.1 < next.1) = true then (match xgo pc (Op.lookupswitch.offset ps.toList dflt x.toInt) with
    | some t => some (t, ls, r, h)
    | none => none) else none
  | _ => none
def xgf (own idx pc : Nat) (ls st : List Value) (h : XH) : Option XC := match st with
  | .ref a :: r => (match rs own idx with
    | (0, ci, k) => if a < xTop ∧ (xkd h a).1 = ci ∧ ci < 10 ∧ k < NC ci then some (pc + 3, ls, xfv ci k h a :: r, h) else none
    | (1, w, _) => if xStr ≤ a ∧ a < xStr + 5 then some (pc + 3, ls, (if w = 0 then .int 0 else .ref (xByt + (a - xStr))) :: r, h) else none
    | _ => none)
  | _ => none
def xpf (own : Nat) (ctor : Bool) (idx pc : Nat) (ls st : List Value) (h : XH) : Option XC := match st with
  | v :: .ref a :: r => (match rs own idx with
    | (0, ci, k) => if a < xTop ∧ (xkd h a).1 = ci ∧ ci < 10 ∧ k < NC ci ∧ ((TC ci k).2.2.2 = true → ctor = true ∧ ci = own) then (match v, tyC ci k with
      | .int x, .int => some (pc + 3, ls, r, (h.1, xuI h.2.1 a k x, h.2.2.1, h.2.2.2))
      | .long x, .long => some (pc + 3, ls, r, (h.1, h.2.1, xuJ h.2.2.1 a k x, h.2.2.2))
      | .ref b, .object _ => some (pc + 3, ls, r, (h.1, h.2.1, h.2.2.1, xuP h.2.2.2 a k (some b)))
      | .ref b, .array _ => some (pc + 3, ls, r, (h.1, h.2.1, h.2.2.1, xuP h.2.2.2 a k (some b)))
      | _, _ => none) else none
    | _ => none)
  | _ => none
def xgs (own idx pc : Nat) (ls st : List Value) (h : XH) : Option XC := match rs own idx with
  | (2, w, _) => some (pc + 3, ls, (if w = 0 then .int 1 else .retAddr 0) :: st, h)
  | _ => none
def xial (E : XE) (pc : Nat) (ls st : List Value) (h : XH) : Option XC := match st with
  | .int i :: .ref a :: r => if a = xScr then (if xin i E.1 = true then some (pc + 1, ls, .int (E.2 i.toNatClampNeg) :: r, h) else none)
    else if a < xTop ∧ (xkd h a).1 = 10 ∧ xin i (xkd h a).2 = true then some (pc + 1, ls, .int (h.2.1 a i.toNatClampNeg) :: r, h) else none
  | _ => none
def xbal (pc : Nat) (ls st : List Value) (h : XH) : Option XC := match st with
  | .int i :: .ref a :: r => if xByt ≤ a ∧ a < xByt + 5 then (if xin i (xLens.getD (a - xByt) 0) = true then some (pc + 1, ls, .int ((xByts.getD (a - xByt) []).getD i.toNatClampNeg 0) :: r, h) else none)
    else if a < xTop ∧ (xkd h a).1 = 12 ∧ xin i (xkd h a).2 = true then some (pc + 1, ls, .int (h.2.1 a i.toNatClampNeg) :: r, h) else none
  | _ => none
def xlal (pc : Nat) (ls st : List Value) (h : XH) : Option XC := match st with
  | .int i :: .ref a :: r => if a < xTop ∧ (xkd h a).1 = 11 ∧ xin i (xkd h a).2 = true then some (pc + 1, ls, .long (h.2.2.1 a i.toNatClampNeg) :: r, h) else none
  | _ => none
def xaal (pc : Nat) (ls st : List Value) (h : XH) : Option XC := match st with
  | .int i :: .ref a :: r => if a < xTop ∧ 13 ≤ (xkd h a).1 ∧ (xkd h a).1 < 18 ∧ xin i (xkd h a).2 = true then some (pc + 1, ls, va_rf (h.2.2.2 a i.toNatClampNeg) :: r, h) else none
  | _ => none
def xias (pc : Nat) (ls st : List Value) (h : XH) : Option XC := match st with
  | .int x :: .int i :: .ref a :: r => if a < xTop ∧ (xkd h a).1 = 10 ∧ xin i (xkd h a).2 = true then some (pc + 1, ls, r, (h.1, xuI h.2.1 a i.toNatClampNeg x, h.2.2.1, h.2.2.2)) else none
  | _ => none
def xbas (pc : Nat) (ls st : List Value) (h : XH) : Option XC := match st with
  | .int x :: .int i :: .ref a :: r => if a < xTop ∧ (xkd h a).1 = 12 ∧ xin i (xkd h a).2 = true then some (pc + 1, ls, r, (h.1, xuI h.2.1 a i.toNatClampNeg (vp_nar .boolean x), h.2.2.1, h.2.2.2)) else none
  | _ => none
def xlas (pc : Nat) (ls st : List Value) (h : XH) : Option XC := match st with
  | .long x :: .int i :: .ref a :: r => if a < xTop ∧ (xkd h a).1 = 11 ∧ xin i (xkd h a).2 = true then some (pc + 1, ls, r, (h.1, h.2.1, xuJ h.2.2.1 a i.toNatClampNeg x, h.2.2.2)) else none
  | _ => none
/-- the kinds of arrays of objects, by the class of what they hold -/
def xak : Nat → Nat := fun c => match c with
  | 2 => 13
  | 4 => 14
  | 6 => 15
  | 7 => 16
  | _ => 99
def xaas (pc : Nat) (ls st : List Value) (h : XH) : Option XC := match st with
  | .ref v :: .int i :: .ref a :: r => if a < xTop ∧ v < xTop ∧ (xkd h v).1 < 10 ∧ xak (xkd h v).1 = (xkd h a).1 ∧ (xkd h a).1 < 18 ∧ xin i (xkd h a).2 = true then some (pc + 1, ls, r, (h.1, h.2.1, h.2.2.1, xuP h.2.2.2 a i.toNatClampNeg (some v))) else none
  | _ => none
def xlen (E : XE) (pc : Nat) (ls st : List Value) (h : XH) : Option XC := match st with
  | .ref a :: r => if a = xScr then some (pc + 1, ls, .int (Int32.ofNat E.1) :: r, h)
    else if xByt ≤ a ∧ a < xByt + 5 then some (pc + 1, ls, .int (Int32.ofNat (xLens.getD (a - xByt) 0)) :: r, h)
    else if a < xTop ∧ 10 ≤ (xkd h a).1 ∧ (xkd h a).1 < 18 then some (pc + 1, ls, .int (Int32.ofNat (xkd h a).2) :: r, h) else none
  | _ => none
/-- a heap with more cells, all empty -/
def xmk (h : XH) (l : List (Nat × Nat)) : XH := (h.1 ++ l, xz 0 h.2.1 h.1.length, xz 0 h.2.2.1 h.1.length, xz none h.2.2.2 h.1.length)
def xnew (own idx pc : Nat) (ls st : List Value) (h : XH) : Option XC := match rs own idx with
  | (5, ci, _) => if ci < 10 ∧ h.1.length + 1002 < xTop then some (pc + 3, ls, .ref h.1.length :: st, xmk h [(ci, NC ci)]) else none
  | _ => none
def xna (t : ArrayType) (pc : Nat) (ls st : List Value) (h : XH) : Option XC := match st with
  | .int n :: r => if (n < 0 ∨ 1000 < n.toNatClampNeg) ∨ xTop ≤ h.1.length + 1002 then none else (match t with
    | .int => some (pc + 2, ls, .ref h.1.length :: r, xmk h [(10, n.toNatClampNeg)])
    | .long => some (pc + 2, ls, .ref h.1.length :: r, xmk h [(11, n.toNatClampNeg)])
    | .boolean => some (pc + 2, ls, .ref h.1.length :: r, xmk h [(12, n.toNatClampNeg)])
    | _ => none)
  | _ => none
def xan (own idx pc : Nat) (ls st : List Value) (h : XH) : Option XC := match st with
  | .int n :: r => if (n < 0 ∨ 1000 < n.toNatClampNeg) ∨ xTop ≤ h.1.length + 1002 then none else (match rs own idx with
    | (5, ci, _) => if xak ci < 18 then some (pc + 3, ls, .ref h.1.length :: r, xmk h [(xak ci, n.toNatClampNeg)]) else none
    | _ => none)
  | _ => none
def xmn (own idx pc : Nat) (ls st : List Value) (h : XH) : Option XC := match st with
  | .int k :: .int n :: r => if ((n < 0 ∨ 1000 < n.toNatClampNeg) ∨ k < 0 ∨ 1000 < k.toNatClampNeg) ∨ xTop ≤ h.1.length + 1002 then none else (match rs own idx with
    | (10, _, _) => some (pc + 4, ls, .ref h.1.length :: r, ((xmk h ((17, n.toNatClampNeg) :: List.replicate n.toNatClampNeg (10, k.toNatClampNeg))).1, xz 0 h.2.1 h.1.length, xz 0 h.2.2.1 h.1.length, fun b j => if h.1.length ≤ b then (if b = h.1.length ∧ j < n.toNatClampNeg then some (h.1.length + 1 + j) else none) else h.2.2.2 b j))
    | _ => none)
  | _ => none
/-- Object's constructor, and System.arraycopy of ints: calls that are one step -/
def xoi (pc : Nat) (ls st : List Value) (h : XH) : Option XC := match st with
  | .ref _ :: r => if (r.map fun v => v.category).sum ≤ 8 then some (pc + 3, ls, r, h) else none
  | _ => none
def xac (pc : Nat) (ls st : List Value) (h : XH) : Option XC := match st with
  | .int n :: .int dp :: .ref a :: .int sp :: .ref a0 :: r => if (n < 0 ∨ dp < 0 ∨ sp < 0) ∨ xTop ≤ a ∨ xTop ≤ a0 ∨ ¬ (xkd h a).1 = 10 ∨ ¬ (xkd h a0).1 = 10 ∨ (xkd h a0).2 < sp.toNatClampNeg + n.toNatClampNeg ∨ (xkd h a).2 < dp.toNatClampNeg + n.toNatClampNeg ∨ 8 < (r.map fun v => v.category).sum then none
    else some (pc + 3, ls, r, (h.1, xcI h.2.1 a0 sp.toNatClampNeg a dp.toNatClampNeg n.toNatClampNeg, h.2.2.1, h.2.2.2))
  | _ => none
def stp (own : Nat) (ctor : Bool) (d : Nat) (E : XE) (pc : Nat) (ins : Instr) (ls st : List Value) (h : XH) : Option XC := match ins with
  | .iconst n => some (pc + 1, ls, .int (Int32.ofInt n) :: st, h)
  | .bipush n => some (pc + 2, ls, .int (Int8.ofInt n).toInt32 :: st, h)
  | .sipush n => some (pc + 3, ls, .int (Int16.ofInt n).toInt32 :: st, h)
  | .lconst n => some (pc + 1, ls, .long (Int64.ofNat (n : Nat)) :: st, h)
  | .ldc idx => (match rs own idx with
    | (9, i, _) => if i < 5 then some (pc + 2, ls, .ref (xStr + i) :: st, h) else none
    | _ => none)
  | .ldc2_w idx => (match rs own idx with
    | (6, i, _) => some (pc + 3, ls, .long (LV.getD i 0) :: st, h)
    | _ => none)
  | .iload i => xli ls st h pc 2 i
  | .iload_n k => xli ls st h pc 1 k
  | .lload i => xll ls st h pc 2 i
  | .lload_n k => xll ls st h pc 1 k
  | .aload i => xla ls st h pc 2 i
  | .aload_n k => xla ls st h pc 1 k
  | .istore i => xsi ls st h pc 2 i
  | .istore_n k => xsi ls st h pc 1 k
  | .lstore i => xsl ls st h pc 2 i
  | .lstore_n k => xsl ls st h pc 1 k
  | .astore i => xsa ls st h pc 2 i
  | .astore_n k => xsa ls st h pc 1 k
  | .iinc i n => (match ls[i]? with
    | some (.int x) => some (pc + 3, xs1 ls i (.int (x + Int32.ofInt n)), st, h)
    | _ => none)
  | .iadd => xi2 (fun x y => x + y) ls st h pc
  | .isub => xi2 (fun x y => x - y) ls st h pc
  | .imul => xi2 (fun x y => x * y) ls st h pc
  | .iand => xi2 (fun x y => x &&& y) ls st h pc
  | .ishr => xi2 (fun x y => x >>> (y &&& 31)) ls st h pc
  | .idiv => xd2 (fun x y => x / y) ls st h pc
  | .irem => xd2 (fun x y => x - x / y * y) ls st h pc
  | .ladd => xl2 (fun x y => x + y) ls st h pc
  | .lsub => xl2 (fun x y => x - y) ls st h pc
  | .lmul => xl2 (fun x y => x * y) ls st h pc
  | .land => xl2 (fun x y => x &&& y) ls st h pc
  | .lor => xl2 (fun x y => x ||| y) ls st h pc
  | .ldiv => xe2 (fun x y => x / y) ls st h pc
  | .lrem => xe2 (fun x y => x - x / y * y) ls st h pc
  | .lshl => xlsh (fun x y => x <<< (y.toInt64 &&& 63)) ls st h pc
  | .lushr => xlsh (fun x y => (x.toUInt64 >>> (y.toInt64.toUInt64 &&& Int64.toUInt64 63)).toInt64) ls st h pc
  | .lcmp => (match st with
    | .long y :: .long x :: r => some (pc + 1, ls, .int (lg_cmp x y) :: r, h)
    | _ => none)
  | .i2l => (match st with
    | .int x :: r => some (pc + 1, ls, .long x.toInt64 :: r, h)
    | _ => none)
  | .l2i => (match st with
    | .long x :: r => some (pc + 1, ls, .int x.toInt32 :: r, h)
    | _ => none)
  | .i2c => (match st with
    | .int x :: r => some (pc + 1, ls, .int (x.toUInt32 % 65536).toInt32 :: r, h)
    | _ => none)
  | .dup => (match st with
    | v :: r => if v.category = 1 then some (pc + 1, ls, v :: v :: r, h) else none
    | _ => none)
  | .dup2 => (match st with
    | v :: w :: r => if v.category = 1 ∧ w.category = 1 then some (pc + 1, ls, v :: w :: v :: w :: r, h) else none
    | _ => none)
  | .pop => (match st with
    | v :: r => if v.category = 1 then some (pc + 1, ls, r, h) else none
    | _ => none)
  | .if_icmp c off => (match st with
    | .int y :: .int x :: r => xif (xcm c x y) pc off ls r h
    | _ => none)
  | .ifCond c off => (match st with
    | .int x :: r => xif (xcm c x 0) pc off ls r h
    | _ => none)
  | .goto off => (match xgo pc off with
    | some t => some (t, ls, st, h)
    | none => none)
  | .tableswitch dflt lo hi offs => xts lo hi dflt offs pc ls st h
  | .lookupswitch dflt ps => xlk dflt ps pc ls st h
  | .getfield idx => xgf own idx pc ls st h
  | .putfield idx => xpf own ctor idx pc ls st h
  | .getstatic idx => xgs own idx pc ls st h
  | .iaload => xial E pc ls st h
  | .baload => xbal pc ls st h
  | .laload => xlal pc ls st h
  | .aaload => xaal pc ls st h
  | .iastore => xias pc ls st h
  | .bastore => xbas pc ls st h
  | .lastore => xlas pc ls st h
  | .aastore => xaas pc ls st h
  | .arraylength => xlen E pc ls st h
  | .new idx => xnew own idx pc ls st h
  | .newarray t => xna t pc ls st h
  | .anewarray idx => xan own idx pc ls st h
  | .multianewarray idx dims => if dims = 2 then xmn own idx pc ls st h else none
  | .invokespecial idx => (match rs own idx with
    | (7, _, _) => if d = 0 then none else xoi pc ls st h
    | _ => none)
  | .invokestatic idx => (match rs own idx with
    | (8, _, _) => if d = 0 then none else xac pc ls st h
    | _ => none)
  | _ => none
/-- lengths, where the walk's rows want them -/
def xlenOK (ins : Instr) (len : Nat) : Bool := match ins with
  | .tableswitch .. | .lookupswitch .. => true
  | .bipush _ | .ldc _ | .iload _ | .lload _ | .aload _ | .istore _ | .lstore _ | .astore _ | .newarray _ => len == 2
  | .sipush _ | .ldc2_w _ | .iinc .. | .if_icmp .. | .ifCond .. | .goto _ | .getfield _ | .putfield _ | .getstatic _ | .new _ | .anewarray _ | .invokespecial _ | .invokestatic _ | .invokevirtual _ => len == 3
  | .multianewarray .. => len == 4
  | _ => len == 1
/-- how many words a method's arguments take -/
def xsz : List Value → Nat
  | [] => 0
  | v :: r => (if v.category = 2 then 2 else 1) + xsz r
/-- the locals at a method's entry -/
def xen : List Value → List Value
  | [] => []
  | v :: r => if v.category = 2 then v :: xdm :: xen r else v :: xen r
def xent (as : List Value) (n : Nat) : List Value := xen as ++ List.replicate (n - (xen as).length) xdm
/-- which method a call names, how many values it takes off the stack, and whether it is an object's -/
def mA : Nat → Nat := fun y => match parseMethodDescriptor (mN y).desc with
  | some d => d.parameters.length
  | none => 0
def xcl (own : Nat) (ins : Instr) : Option (Nat × Nat) := match ins with
  | .invokevirtual idx => (match rs own idx with
    | (3, y, _) => if mSt y = false ∧ mIni y = false then some (y, 1) else none
    | _ => none)
  | .invokespecial idx => (match rs own idx with
    | (3, y, _) => if mSt y = false ∧ mIni y = true then some (y, 1) else none
    | (4, y, _) => if mSt y = false ∧ mIni y = true then some (y, 1) else none
    | _ => none)
  | .invokestatic idx => (match rs own idx with
    | (3, y, _) => if mSt y = true then some (y, 0) else none
    | (4, y, _) => if mSt y = true then some (y, 0) else none
    | _ => none)
  | _ => none
/-- the value that a method gives back, off its stack -/
def xrt (y : Nat) (ins : Instr) (st : List Value) : Option (Option Value) := match ins, st, mR y with
  | .ireturn, [.int v], some ty => if narrow ty (.int v) = .int v ∧ (ty = .int ∨ ty = .boolean ∨ ty = .char ∨ ty = .byte) then some (some (.int v)) else none
  | .lreturn, [.long v], some .long => some (some (.long v))
  | .return_, [], none => some none
  | _, _, _ => none
/-- whether an object's method can be called on this: its class is the method's -/
def xrc (y : Nat) (as : List Value) (h : XH) : Bool := match as with
  | .ref a :: _ => (decide (a < xTop) && (decide ((xkd h a).1 = mC y) && decide (mC y < 10))) || (decide (xStr ≤ a) && (decide (a < xStr + 5) && decide (mC y = 20)))
  | _ => false
def ev (E : XE) : Nat → Nat → Nat → Nat → List Value → List Value → XH → Option (Option Value × XH)
  | 0, _, _, _, _, _, _ => none
  | n + 1, d, y, pc, ls, st, h => match dec y pc with
    | none => none
    | some (ins, len) => if xlenOK ins len = true then (match xrt y ins st with
      | some r => some (r, h)
      | none => (match xcl (mC y) ins with
        | some (y', o) => (match d with
          | 0 => none
          | d' + 1 => if (mA y' + o ≤ st.length ∧ ((st.drop (mA y' + o)).map fun v => v.category).sum ≤ 8 ∧ (xen (st.take (mA y' + o)).reverse).length ≤ mL y') ∧ (o = 1 → xrc y' (st.take (mA y' + o)).reverse h = true) then (match ev E n d' y' 0 (xent (st.take (mA y' + o)).reverse (mL y')) [] h with
            | some (r, h') => ev E n (d' + 1) y (pc + 3) ls (r.toList ++ st.drop (mA y' + o)) h'
            | none => none) else none)
        | none => (match stp (mC y) (mIni y) d E pc ins ls st h with
          | some (pc', ls', st', h') => ev E n d y pc' ls' st' h'
          | none => none))) else none
