/-! the reference's world: one object and its 17 rows; κ is the mathematical state, the rest its scratch -/
abbrev kI (κ : CS) : Nat → Nat → Int32 := κ.1
abbrev kB (κ : CS) : Nat → Nat → Bool := κ.2.1
abbrev kN (κ : CS) : Nat → Nat := κ.2.2.1
abbrev kW (κ : CS) : Nat → Nat := κ.2.2.2.1
abbrev kD (κ : CS) : Int32 := κ.2.2.2.2
def mW (ad : Nat → Nat) (g : Nat → ClassId) (κ : CS) (th : Int32) (ch : Nat → Nat) (cm rm : Nat) (row : Nat → Int64) : va_W :=
  [(ad 0, .inr (9, [.ref (ad 1), .ref (ad 2), .ref (ad 3), .ref (ad 4), .ref (ad 5), .ref (ad 6), .ref (ad 7), .ref (ad 8), .ref (ad 9), .ref (ad 10), .ref (ad 11), .ref (ad 12), .ref (ad 13), .ref (ad 14), .ref (ad 15), .ref (ad 16), .ref (ad 17), .int (nI (kN κ 0)), .int (nI (kN κ 1)), .int (nI (kN κ 2)), .int (nI (kN κ 3)), .int (kD κ), .int (nI cm), .int (nI rm), .int th])),
   (ad 1, .inl (g 0, 40, .inl (kI κ 0))), (ad 2, .inl (g 0, 40, .inl (kI κ 1))), (ad 3, .inl (g 0, 40, .inl (kI κ 2))), (ad 4, .inl (g 0, 40, .inl (kI κ 3))), (ad 5, .inl (g 0, 40, .inl (kI κ 4))), (ad 6, .inl (g 0, 40, .inl (kI κ 5))), (ad 7, .inl (g 0, 40, .inl (kI κ 6))), (ad 8, .inl (g 0, 40, .inl (kI κ 7))), (ad 9, .inl (g 0, 40, .inl (kI κ 8))), (ad 10, .inl (g 0, 40, .inl (kI κ 9))),
   (ad 11, .inl (g 2, 40, .inl (fun i => zb (kB κ 0 i)))), (ad 12, .inl (g 2, 40, .inl (fun i => zb (kB κ 1 i)))), (ad 13, .inl (g 2, 40, .inl (fun i => zb (kB κ 2 i)))), (ad 14, .inl (g 2, 40, .inl (fun i => zb (kB κ 3 i)))),
   (ad 15, .inl (g 0, 8, .inl (fun i => nI (ch i)))), (ad 16, .inl (g 0, 40, .inl (fun i => nI (kW κ i)))), (ad 17, .inl (g 1, 40, .inr (.inl row)))]
/-- contracts of methods that make nothing and throw nothing: the answer and the world behind -/
abbrev CtI (l : Launch) (D : va_G) (g : Nat → ClassId) (A : Nat → Prop) (y : MethodName) (cc : ByteArray) (nL : Nat) (rt : FieldType) (rm : Room) (av : List Value) (ws : va_W) (f : Int32) (ws' : va_W) : Prop := Met l y (wsA y cc nL (some rt)) rm (va_Pc av (PRE D g A ws)) (va_Qi (fun (r : Int32) (_ : Unit) => r = f) (fun _ => PO D A ws') A) 0 0 A
abbrev CtL (l : Launch) (D : va_G) (g : Nat → ClassId) (A : Nat → Prop) (y : MethodName) (cc : ByteArray) (nL : Nat) (rt : FieldType) (rm : Room) (av : List Value) (ws : va_W) (f : Int64) (ws' : va_W) : Prop := Met l y (wsA y cc nL (some rt)) rm (va_Pc av (PRE D g A ws)) (va_Ql (fun (r : Int64) (_ : Unit) => r = f) (fun _ => PO D A ws') A) 0 0 A
abbrev CtF (l : Launch) (D : va_G) (g : Nat → ClassId) (A : Nat → Prop) (y : MethodName) (cc : ByteArray) (nL : Nat) (rt : FieldType) (rm : Room) (av : List Value) (ws : va_W) (f : UInt32) (ws' : va_W) : Prop := Met l y (wsA y cc nL (some rt)) rm (va_Pc av (PRE D g A ws)) (va_Qf (fun (r : UInt32) (_ : Unit) => r = f) (fun _ => PO D A ws') A) 0 0 A
abbrev CtD (l : Launch) (D : va_G) (g : Nat → ClassId) (A : Nat → Prop) (y : MethodName) (cc : ByteArray) (nL : Nat) (rt : FieldType) (rm : Room) (av : List Value) (ws : va_W) (f : UInt64) (ws' : va_W) : Prop := Met l y (wsA y cc nL (some rt)) rm (va_Pc av (PRE D g A ws)) (va_Qd (fun (r : UInt64) (_ : Unit) => r = f) (fun _ => PO D A ws') A) 0 0 A
abbrev CtV (l : Launch) (D : va_G) (g : Nat → ClassId) (A : Nat → Prop) (y : MethodName) (cc : ByteArray) (nL : Nat) (rm : Room) (av : List Value) (ws ws' : va_W) : Prop := Met l y (wsA y cc nL none) rm (va_Pc av (PRE D g A ws)) (va_Qv (fun (_ : Unit) => True) (fun _ => PO D A ws') A) 0 0 A
