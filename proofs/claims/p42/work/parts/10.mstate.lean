/-! the reference's world: one object and its 17 rows; κ is the mathematical state, the rest its scratch -/
abbrev kI (κ : CS) : Nat → Nat → Int32 := κ.1
abbrev kB (κ : CS) : Nat → Nat → Bool := κ.2.1
abbrev kN (κ : CS) : Nat → Nat := κ.2.2.1
abbrev kW (κ : CS) : Nat → Nat := κ.2.2.2.1
abbrev kD (κ : CS) : Int32 := κ.2.2.2.2
/-- contracts of methods that make nothing and throw nothing: the answer and the world behind -/
abbrev CtI (l : Launch) (D : va_G) (g : Nat → ClassId) (A : Nat → Prop) (y : MethodName) (cc : ByteArray) (nL : Nat) (rt : FieldType) (rm : Room) (av : List Value) (ws : va_W) (f : Int32) (ws' : va_W) : Prop := Met l y (wsA y cc nL (some rt)) rm (va_Pc av (PRE D g A ws)) (va_Qi (fun (r : Int32) (_ : Unit) => r = f) (fun _ => PO D A ws') A) 0 0 A
abbrev CtL (l : Launch) (D : va_G) (g : Nat → ClassId) (A : Nat → Prop) (y : MethodName) (cc : ByteArray) (nL : Nat) (rt : FieldType) (rm : Room) (av : List Value) (ws : va_W) (f : Int64) (ws' : va_W) : Prop := Met l y (wsA y cc nL (some rt)) rm (va_Pc av (PRE D g A ws)) (va_Ql (fun (r : Int64) (_ : Unit) => r = f) (fun _ => PO D A ws') A) 0 0 A
abbrev CtF (l : Launch) (D : va_G) (g : Nat → ClassId) (A : Nat → Prop) (y : MethodName) (cc : ByteArray) (nL : Nat) (rt : FieldType) (rm : Room) (av : List Value) (ws : va_W) (f : UInt32) (ws' : va_W) : Prop := Met l y (wsA y cc nL (some rt)) rm (va_Pc av (PRE D g A ws)) (va_Qf (fun (r : UInt32) (_ : Unit) => r = f) (fun _ => PO D A ws') A) 0 0 A
abbrev CtD (l : Launch) (D : va_G) (g : Nat → ClassId) (A : Nat → Prop) (y : MethodName) (cc : ByteArray) (nL : Nat) (rt : FieldType) (rm : Room) (av : List Value) (ws : va_W) (f : UInt64) (ws' : va_W) : Prop := Met l y (wsA y cc nL (some rt)) rm (va_Pc av (PRE D g A ws)) (va_Qd (fun (r : UInt64) (_ : Unit) => r = f) (fun _ => PO D A ws') A) 0 0 A
abbrev CtV (l : Launch) (D : va_G) (g : Nat → ClassId) (A : Nat → Prop) (y : MethodName) (cc : ByteArray) (nL : Nat) (rm : Room) (av : List Value) (ws ws' : va_W) : Prop := Met l y (wsA y cc nL none) rm (va_Pc av (PRE D g A ws)) (va_Qv (fun (_ : Unit) => True) (fun _ => PO D A ws') A) 0 0 A
