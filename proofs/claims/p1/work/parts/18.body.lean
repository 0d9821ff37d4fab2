/-! BODIES of methods: calls, makings, ends; a call by its depth -/
def zWt (st : List Value) : Nat := (st.map fun v => v.category).sum
def zpk (n : Nat) (st : List Value) : Option (List Value × List Value) := bif Nat.ble n st.length then some ((st.take n).reverse, st.drop n) else none
def zfitr (M M' : zM) (nc ns : Nat) : Bool := Nat.ble ((zRoom M').1 + 1) (zRoom M).1 && (Nat.ble (8 + (zMaxL M' + 11) + (zRoom M').2.1) (zRoom M).2.1 && (Nat.ble (nc + (zRoom M').2.2.1) (zRoom M).2.2.1 && Nat.ble (ns + (zRoom M').2.2.2) (zRoom M).2.2.2))
def zcl : Instr → Option Nat
  | .invokevirtual _ => some 0
  | .invokestatic _ => some 1
  | .invokespecial _ => some 2
  | _ => none
def zrec (kd : Nat) (M' : zM) (a : List Value) (h : zH) : Bool := match a with
  | .ref b :: _ => (match h[b]? with
    | some (.inr (ci, _)) => Nat.beq kd 1 || Nat.beq ci (zKind M').2.1
    | _ => Nat.beq kd 1)
  | _ => Nat.beq kd 1
def zinv (Pg : List zM) (M : zM) (en : zN) (kd : Nat) (st : List Value) (h : zH) (nc ns : Nat) : Option (zM × List Value × List Value) :=
  match Pg[en.2.2.2.1]? with
  | some M' => (match zpk (en.2.2.2.2.2 + (bif Nat.beq kd 1 then 0 else 1)) st with
    | some (a, r) => bif a.all zpl && Nat.ble en.2.2.2.2.1 1 && (Nat.beq (zKind M').1 kd && (Nat.ble (zWt r) 8 && (zfitr M M' nc ns && zrec kd M' a h))) then some (M', a, r) else none
    | none => none)
  | none => none
def zdv : FieldType → Value
  | .int => .int 0
  | .boolean => .int 0
  | _ => .null
def zdef (FT : zFT) (FN : Nat → Nat) (a : Nat) : List Value := (List.range (FN a)).map fun k => zdv (FT a k).1
def zkd : ArrayType → Option Nat
  | .int => some 0
  | .boolean => some 1
  | .long => some 2
  | _ => none
def zini (kd : Nat) : (Nat → Int32) ⊕ (Nat → Int64) ⊕ (Nat → UInt32) ⊕ (Nat → UInt64) ⊕ (Nat → Option Nat) := match kd with
  | 0 => .inl fun _ => 0
  | 1 => .inl fun _ => 0
  | 2 => .inr (.inl fun _ => 0)
  | _ => .inr (.inr (.inr (.inr fun _ => none)))
def zhand (tab : List (Nat × Nat × Nat × Nat)) (pc k : Nat) : Option Nat := match tab with
  | [(a, b, t, _)] => bif Nat.beq k 0 && (Nat.ble a pc && Nat.blt pc b) then some t else none
  | [(a, b, t, _), (a2, b2, t2, _)] => bif Nat.ble a pc && (Nat.blt pc b && (Nat.ble a2 pc && Nat.blt pc b2)) then (bif Nat.beq k 0 then some t else (bif Nat.beq k 1 then some t2 else none)) else none
  | _ => none
/-- an answer: by the type of the method -/
def zend (i : Instr) (ret : Option FieldType) (st : List Value) : Option (Option Value) := match i, ret, st with
  | .ireturn, some .int, [.int x] => some (some (.int x))
  | .ireturn, some .boolean, [.int x] => bif decide (x = 0) || decide (x = 1) then some (some (.int x)) else none
  | .areturn, some (.object _), [.ref k] => some (some (.ref k))
  | .return_, none, [] => some none
  | _, _, _ => none
/-- a making: its length, the stack behind it, the new cell, its slots -/
def zmak (FT : zFT) (FN : Nat → Nat) (en : zN) (st : List Value) : Option (Nat × List Value × zE × Nat) := match en.2.1 with
  | .new _ => bif Nat.beq en.2.2.2.2.1 1 then none else some (3, st, .inr (en.2.2.2.1, zdef FT FN en.2.2.2.1), FN en.2.2.2.1)
  | .newarray t => (match z1 st, zkd t with
    | some (n, r), some kd => bif decide (¬ n < 0) && Nat.ble n.toNatClampNeg 65536 then some (2, r, .inl (kd, n.toNatClampNeg, zini kd), n.toNatClampNeg) else none
    | _, _ => none)
  | .anewarray _ => (match z1 st with
    | some (n, r) => bif decide (¬ n < 0) && (Nat.ble n.toNatClampNeg 65536 && (Nat.beq en.2.2.2.1 3 || Nat.beq en.2.2.2.1 4)) then some (3, r, .inl (en.2.2.2.1, n.toNatClampNeg, .inr (.inr (.inr (.inr fun _ => none)))), n.toNatClampNeg) else none
    | none => none)
  | _ => none
/-- Object's constructor, Math.min: the stack behind it -/
def zown (M : zM) (en : zN) (st : List Value) : Option (List Value) := match en.2.1, en.2.2.2.2.1 with
  | .invokespecial _, 2 => (match zr1 st with
    | some (_, r) => bif Nat.ble 1 (zRoom M).1 && Nat.ble (zWt r + 12) (zRoom M).2.1 then some r else none
    | none => none)
  | .invokestatic _, 3 => (match z2 st with
    | some (x, y, r) => bif Nat.ble 1 (zRoom M).1 && Nat.ble (zWt r + 13) (zRoom M).2.1 then some (.int (if y < x then y else x) :: r) else none
    | none => none)
  | _, _ => none
def zbody (Pg : List zM) (FT : zFT) (FN : Nat → Nat) (X : zX) (call : Nat → List Value → zH → Option (zO × zH)) (M : zM) : Nat → Nat → zL → List Value → zH → Nat → Nat → Option (zO × zH)
  | 0, _, _, _, _, _, _ => none
  | f + 1, pc, lo, st, h, nc, ns => match zfind (zIns M) pc with
    | none => none
    | some en => match zend en.2.1 (zRet M) st with
      | some r => some (.inl r, h)
      | none => match zmak FT FN en st with
        | some (n, r, c, k) => bif Nat.blt nc (zRoom M).2.2.1 && Nat.ble (ns + k) (zRoom M).2.2.2 then zbody Pg FT FN X call M f (pc + n) lo (.ref h.length :: r) (h ++ [c]) (nc + 1) (ns + k) else none
        | none => match zown M en st with
          | some st' => zbody Pg FT FN X call M f (pc + 3) lo st' h nc ns
          | none => match zcl en.2.1 with
            | some kd => (match zinv Pg M en kd st h nc ns with
              | some (M', a, r) => (match call en.2.2.2.1 a h with
                | some (.inl v, h') => zbody Pg FT FN X call M f (pc + 3) lo (v.toList ++ r) h' (nc + (zRoom M').2.2.1) (ns + (zRoom M').2.2.2)
                | some (.inr k, h') => bif Nat.beq kd 2 || (Nat.beq en.2.2.2.2.1 1 || !(zTab M').isEmpty) then none else (match zTab M with
                  | [] => some (.inr k, h')
                  | _ => (match zhand (zTab M) pc k with
                    | some t => (match zfind (zIns M) t with
                      | some en2 => (match zsto en2.2.1 with
                        | some (j, n, true) => bif Nat.blt j (zMaxL M) then zbody Pg FT FN X call M f (t + n) (lo.filter (fun q => !(Nat.beq q.1 j))) [] h' (nc + (zRoom M').2.2.1) (ns + (zRoom M').2.2.2) else none
                        | _ => none)
                      | none => none)
                    | none => none))
                | none => none)
              | none => none)
            | none => (match en.2.1 with
              | .new _ => bif Nat.ble (nc + 1) (zRoom M).2.2.1 && (Nat.ble (ns + 6) (zRoom M).2.2.2 && Nat.ble (zWt st) 8) then some (.inr en.2.2.2.1, h) else none
              | _ => (match zstep M FT X en lo st h with
                | some (pc', lo', st', h') => zbody Pg FT FN X call M f pc' lo' st' h' nc ns
                | none => none))
def zargs : Nat → List Value → zL
  | _, [] => []
  | i, v :: vs => (i, v) :: zargs (i + 1) vs
def zfuel : Nat := 1000000
def zcall (Pg : List zM) (FT : zFT) (FN : Nat → Nat) (X : zX) : Nat → Nat → List Value → zH → Option (zO × zH)
  | 0, _, _, _ => none
  | d + 1, z, a, h => match Pg[z]? with
    | some M => bif Nat.ble a.length (zMaxL M) && a.all (fun v => Nat.beq v.category 1) then zbody Pg FT FN X (zcall Pg FT FN X d) M zfuel 0 (zargs 0 a) [] h 0 0 else none
    | none => none
