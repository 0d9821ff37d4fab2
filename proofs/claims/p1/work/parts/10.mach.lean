/-! THE ABSTRACT MACHINE: cells by their numbers, one instruction a step -/
abbrev zE : Type := (Nat × vp_A) ⊕ (Nat × List Value)
abbrev zH : Type := List zE
abbrev zO : Type := Option Value ⊕ Nat
abbrev zL : Type := List (Nat × Value)
/-- an instruction: its place, itself, its length, two numbers that it is resolved to, the place of its link among the words -/
abbrev zN : Type := Nat × Instr × Nat × Nat × Nat × Nat
/-- arrays of ints outside the world, that are only read -/
abbrev zX : Type := Nat → Nat × (Nat → Int32)
abbrev zS : Type := Nat × zL × List Value × zH
/-- a method: its name, code, how many locals, its answer's type; room (frames, locals, cells, slots); kind (0 of an object, 1 static, 2 a constructor), its class's number, places of its words (code, kind's, selects, initialized); instructions; table -/
abbrev zM : Type := MethodName × ByteArray × Nat × Option FieldType × (Nat × Nat × Nat × Nat) × (Nat × Nat × Nat × Nat × Nat × Nat) × List zN × List (Nat × Nat × Nat × Nat)
def zName (M : zM) : MethodName := M.1
def zCode (M : zM) : ByteArray := M.2.1
def zMaxL (M : zM) : Nat := M.2.2.1
def zRet (M : zM) : Option FieldType := M.2.2.2.1
def zRoom (M : zM) : Nat × Nat × Nat × Nat := M.2.2.2.2.1
def zKind (M : zM) : Nat × Nat × Nat × Nat × Nat × Nat := M.2.2.2.2.2.1
def zIns (M : zM) : List zN := M.2.2.2.2.2.2.1
def zTab (M : zM) : List (Nat × Nat × Nat × Nat) := M.2.2.2.2.2.2.2
def zget : zL → Nat → Option Value
  | [], _ => none
  | q :: l, i => bif Nat.beq q.1 i then some q.2 else zget l i
def zput (lo : zL) (i : Nat) (v : Value) : zL := (i, v) :: lo.filter (fun q => !(Nat.beq q.1 i))
def zfind : List zN → Nat → Option zN
  | [], _ => none
  | en :: l, pc => bif Nat.beq en.1 pc then some en else zfind l pc
def zin (i : Int32) (n : Nat) : Bool := decide (¬ (i < 0 ∨ n ≤ i.toNatClampNeg))
def zc1 (c : ClassFile.Cond) (x : Int32) : Bool := match c with
  | .eq => decide (x = 0)
  | .ne => decide (¬ x = 0)
  | .lt => decide (x < 0)
  | .ge => decide (0 ≤ x)
  | .gt => decide (0 < x)
  | .le => decide (x ≤ 0)
def zc2 (c : ClassFile.Cond) (x y : Int32) : Bool := match c with
  | .eq => decide (x = y)
  | .ne => decide (¬ x = y)
  | .lt => decide (x < y)
  | .ge => decide (y ≤ x)
  | .gt => decide (y < x)
  | .le => decide (x ≤ y)
def ztgt (pc : Nat) (off : Int) : Option Nat := bif decide (0 ≤ (pc : Int) + off) then some ((pc : Int) + off).toNat else none
def z1 : List Value → Option (Int32 × List Value)
  | .int x :: r => some (x, r)
  | _ => none
def z2 : List Value → Option (Int32 × Int32 × List Value)
  | .int y :: .int x :: r => some (x, y, r)
  | _ => none
def zr1 : List Value → Option (Nat × List Value)
  | .ref a :: r => some (a, r)
  | _ => none
def zir : List Value → Option (Int32 × Nat × List Value)
  | .int i :: .ref a :: r => some (i, a, r)
  | _ => none
def zix : List Value → Option (Int32 × Nat × List Value)
  | .int i :: .retAddr a :: r => some (i, a, r)
  | _ => none
def zvr : List Value → Option (Value × Nat × List Value)
  | v :: .ref a :: r => some (v, a, r)
  | _ => none
def zvir : List Value → Option (Value × Int32 × Nat × List Value)
  | v :: .int i :: .ref a :: r => some (v, i, a, r)
  | _ => none
/-- the pure instructions on two ints -/
def zop2 (i : Instr) (x y : Int32) : Option Int32 := match i with
  | .iadd => some (x + y)
  | .isub => some (x - y)
  | .imul => some (x * y)
  | .iand => some (x &&& y)
  | .ior => some (x ||| y)
  | .ishl => some (x <<< (y &&& 31))
  | .ishr => some (x >>> (y &&& 31))
  | .idiv => bif decide (y = 0) then none else some (x / y)
  | .irem => bif decide (y = 0) then none else some (x - x / y * y)
  | _ => none
def zpush (i : Instr) (a : Nat) : Option (Int32 × Nat) := match i with
  | .iconst k => some (Int32.ofInt k, 1)
  | .bipush k => some ((Int8.ofInt k).toInt32, 2)
  | .sipush k => some ((Int16.ofInt k).toInt32, 3)
  | .ldc _ => some (Int32.ofNat a, 2)
  | .ldc_w _ => some (Int32.ofNat a, 3)
  | _ => none
/-- loads and stores of locals: place, length, whether of a reference -/
def zlod (i : Instr) : Option (Nat × Nat × Bool) := match i with
  | .iload k => some (k, 2, false)
  | .iload_n k => some (k.val, 1, false)
  | .aload k => some (k, 2, true)
  | .aload_n k => some (k.val, 1, true)
  | _ => none
def zsto (i : Instr) : Option (Nat × Nat × Bool) := match i with
  | .istore k => some (k, 2, false)
  | .istore_n k => some (k.val, 1, false)
  | .astore k => some (k, 2, true)
  | .astore_n k => some (k.val, 1, true)
  | _ => none
def zisr : Value → Bool
  | .ref _ => true
  | .retAddr _ => true
  | _ => false
def zisi : Value → Bool
  | .int _ => true
  | _ => false
/-- what a field of a type takes -/
def zfits : FieldType → Value → Bool
  | .int, .int _ => true
  | .boolean, .int x => decide (x = 0) || decide (x = 1)
  | .object _, .ref _ => true
  | .array _, .ref _ => true
  | _, _ => false
def zty : Nat → FieldType
  | 0 => .int
  | 1 => .boolean
  | 2 => .long
  | 3 => .object "NestedPager$Guest"
  | _ => .object "NestedPager$Vcpu"
