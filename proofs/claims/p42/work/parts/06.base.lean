/-! my layer: a walk at an explicit world, explicit locals, explicit stack -/
def tysA (g : Nat → ClassId) : List (ClassId × FieldType) := [(g 0, .int), (g 1, .long), (g 2, .boolean), (g 3, .object "Certhold$Certificate")]
theorem auxW_moved {w : Cond} {s U : State} (hW : s.WarmedH U.vm) (ha : auxW w = true) (h : va_Nw w s) : va_Nw w U := by
  cases w <;> first | (simp [auxW] at ha; done) | exact va_Nw.warmM hW h | exact va_tabs (u := s.setVm U.vm) rfl rfl (by rw [Cond.declares_setVm hW.alike]; exact h) | exact va_tabs (u := s.setVm U.vm) rfl rfl (by rw [Cond.castable_setVm hW.alike]; exact h)
/-- what every method of the class and of the reference may take as given of its start, beside its world -/
def exN : List String := ["java/lang/IllegalArgumentException", "java/lang/IllegalStateException", "java/util/NoSuchElementException", "java/lang/IndexOutOfBoundsException", "java/lang/ArithmeticException"]
/-- none of the exceptions is another one -/
def NC (U : State) : Prop := ∀ a ∈ exN, ∀ b ∈ exN, a ≠ b → va_Nc a b U
/-- the law's script: its cell, its length and its words are told by numbers behind the array classes' -/
def scX (g : Nat → ClassId) : Nat → Int32 := fun j => Int32.ofNat (g (12 + j))
def SX (g : Nat → ClassId) (A : Nat → Prop) (U : State) : Prop := va_X (g 10) (g 11) (scX g) U U.heap ∧ g 10 < U.heap.size ∧ ¬ A (g 10) ∧ g 11 ≤ 260
def SP (g : Nat → ClassId) (A : Nat → Prop) (U : State) : Prop := vx_Zq Bundle.tN "UNASSIGNED_STACK" Bundle.steD A U U.heap ∧ vx_Zq Bundle.tN "SUPPRESSED_SENTINEL" Bundle.listD A U U.heap ∧ (∀ q ∈ strL, ∃ a, vk_R RX6 q.1 q.2 a U) ∧ va_AO "Certhold$Certificate" U ∧ (∀ w ∈ lw_tbl, auxW w = true → va_Nw w U) ∧ NC U ∧ SX g A U
def PRE (D : va_G) (g : Nat → ClassId) (A : Nat → Prop) (ws : va_W) (U : State) : Prop := va_P D vwCl ws U.heap ∧ va_K D vwCl (tysA g) U ∧ va_D A ws ∧ (∀ q, U.heap.size ≤ q → A q) ∧ SP g A U
def PO (D : va_G) (A : Nat → Prop) (ws : va_W) (t : State) : Prop := va_P D vwCl ws t.heap ∧ va_D A ws
theorem SP.moved {g : Nat → ClassId} {A : Nat → Prop} {s U : State} {H : Heap} {locs : List Loc} (h : SP g A s) (hS : va_S A s.heap H locs) (hU : U.heap = H) (hW : s.WarmedH U.vm) : SP g A U := by
  obtain ⟨h1, h2, h3, h4, h5, h6, h7, h8, h9, h10⟩ := h
  refine ⟨?_, ?_, fun q hq => ?_, va_AO.moved hW.alike h4, fun w hw ha => auxW_moved hW ha (h5 w hw ha), fun a ha b hb hab => va_Nc.moved hW.alike (h6 a ha b hb hab), ?_, ?_, h9, h10⟩
  · rw [hU]; exact vx_Zq.moved hW.alike (h1.kept hS.2.1)
  · rw [hU]; exact vx_Zq.moved hW.alike (h2.kept hS.2.1)
  · obtain ⟨a, ha⟩ := h3 q hq
    exact ⟨a, vk_R.warm hW ha⟩
  · rw [hU]; exact va_X.moved hW.alike (h7.kept (hS.2.1 _ h8 h9))
  · rw [hU]; exact Nat.lt_of_lt_of_le h8 hS.1
theorem PRE.blind {D : va_G} {g : Nat → ClassId} {A : Nat → Prop} {ws : va_W} {U : State} {gf : JFrame} {mk : MethodId} {a : Array Value} (h : PRE D g A ws U) : PRE D g A ws (U.calling gf mk a) := by
  obtain ⟨h1, h2, h3, h4, h5⟩ := h
  exact ⟨h1, va_K.moved (u := U) (U := U.calling gf mk a) (Vm.Alike.refl U.vm) h2, h3, h4, SP.moved (U := U.calling gf mk a) h5 (va_S.rf (A := A)) rfl (State.WarmedH.refl U)⟩
theorem PRE.fblind {D : va_G} {g : Nat → ClassId} {A : Nat → Prop} {ws : va_W} {av : List Value} : FrameBlind (va_Pc av (PRE D g A ws)) := fun _ _ _ _ h => ⟨h.1, h.2.blind⟩
/-- the fixed part of a method's walk -/
def CX (p : Program) (l : Launch) (s : State) (m : MethodId) (args : Array Value) (meth : Method) (c : Code) (own : String) (cc : ByteArray) (ret : Option FieldType) (nL : Nat) (D : va_G) (g : Nat → ClassId) (A : Nat → Prop) : Prop :=
  p.tables.exec = Jvm.exec ∧ c.code = cc ∧ meth.sig.returnType = ret ∧ c.maxLocals = nL ∧ s.vm.findClass own = some m.cls ∧ (∀ w ∈ wAll, w.before args s = true) ∧ meth.locks = false ∧ va_K D vwCl (tysA g) s ∧ (∀ q, s.heap.size ≤ q → A q) ∧ SP g A s
def J (p : Program) (l : Launch) (e : Env) (R : Room) (s : State) (m : MethodId) (args : Array Value) (below : List Frame) (meth : Method) (c : Code) (D : va_G) (A : Nat → Prop) (nL : Nat) (Q : State → Prop) (cells slots : Nat) (ws : va_W) (L : List (Nat × Value)) (pc : Nat) (st : List Value) : Prop :=
  ∀ (H : Heap) (locs : List Loc) (ls : Array Slot), va_P D vwCl ws H → va_D A ws → va_S A s.heap H locs → lv_has ls nL L → W p l e R s m args below meth c H locs cells slots Q (F0 m pc ls st)
def wsA (y : MethodName) (bytes : ByteArray) (maxL : Nat) (ret : Option FieldType) : List Cond := .code y bytes maxL ret :: wAll
theorem wAll_good : ∀ w ∈ wAll, (w.onTables && w.keeps) = true ∨ ∃ ty, w = .arrayClass ty := fun w h => good_of_word (List.all_eq_true.mp wAll_ok w h)
theorem gA {y : MethodName} {bytes : ByteArray} {maxL : Nat} {ret : Option FieldType} (h : Cond.code y bytes maxL ret ∈ wAll) : GoodIn wAll (wsA y bytes maxL ret) := fun w hw => (List.mem_cons.mp hw).elim (fun q => by rw [q]; exact ⟨h, wAll_good _ h⟩) (fun q => ⟨q, wAll_good _ q⟩)
/-- a method's contract from its walk -/
theorem metJ {l : Launch} {D : va_G} {g : Nat → ClassId} {A : Nat → Prop} {ws : va_W} {av : List Value} {y : MethodName} {cc : ByteArray} {nL : Nat} {ret : Option FieldType} {rm : Room} {Qc : Array Value → State → Outcome → State → Prop} {mc ms : Nat}
    (hy : plainName y.cls = true) (hn : (lg_sl av).length ≤ nL)
    (body : ∀ p e s m args below meth c, args = av.toArray → meth.name = y.name → CX p l s m args meth c y.cls cc ret nL D g A → J p l e rm s m args below meth c D A nL (MQ below Qc args s mc ms A) 0 0 ws (lv_args 0 av) 0 []) :
    Met l y (wsA y cc nL ret) rm (va_Pc av (PRE D g A ws)) Qc mc ms A := by
  refine Met.ofW (cc := cc) (maxL := nL) (ret := ret) hy rfl ?_
  intro p e s m args below meth c s₁ B hml hv
  obtain ⟨ha, hP, hK, hD, hA, hSP⟩ := hv
  have hts := atoms_spec (ws := wsA y cc nL ret) B.pre
  have hl := lv_entry av (n := nL) hn
  have hname : meth.name = y.name := (name_of_methodNamed B.named B.method).1
  have k := body p e s m args below meth c ha hname ⟨B.exec, B.bytes, B.returns, hml, findClass_of_methodNamed B.named, fun w h => hts w (List.mem_cons_of_mem _ h), B.notSynchronized, hK, hA, hSP⟩
  subst ha
  rw [lg_entry_eq]
  exact k s.heap [] _ hP hD va_S.rf hl
/-- .. of a method that may throw -/
theorem metX {l : Launch} {D : va_G} {g : Nat → ClassId} {A : Nat → Prop} {ws : va_W} {av : List Value} {y : MethodName} {cc : ByteArray} {nL : Nat} {ret : Option FieldType} {rm : Room} {Qc : Array Value → State → Outcome → State → Prop} {XC : String → State → State → Prop} {mc ms : Nat}
    (hy : plainName y.cls = true) (hn : (lg_sl av).length ≤ nL)
    (body : ∀ p e s m args below meth c, args = av.toArray → (∀ x ∈ c.exceptionTable.toList, False) → CX p l s m args meth c y.cls cc ret nL D g A → J p l e rm s m args below meth c D A nL (vx_MQ below Qc XC args s mc ms A) 0 0 ws (lv_args 0 av) 0 []) :
    vx_Met l y (wsA y cc nL ret) rm (va_Pc av (PRE D g A ws)) Qc XC mc ms A := by
  refine vx_ofW (cc := cc) (maxL := nL) (ret := ret) hy rfl ?_
  intro p e s m args below meth c s₁ B hml ht hv
  obtain ⟨ha, hP, hK, hD, hA, hSP⟩ := hv
  have hts := atoms_spec (ws := wsA y cc nL ret) B.pre
  have hl := lv_entry av (n := nL) hn
  have k := body p e s m args below meth c ha ht ⟨B.exec, B.bytes, B.returns, hml, findClass_of_methodNamed B.named, fun w h => hts w (List.mem_cons_of_mem _ h), B.notSynchronized, hK, hA, hSP⟩
  subst ha
  rw [lg_entry_eq]
  exact k s.heap [] _ hP hD va_S.rf hl
def zb (b : Bool) : Int32 := if b then nI 1 else nI 0
theorem bn_t {a : Bool} (h : (!a) = true) : a = false := by cases a <;> simp_all
theorem bn_f {a : Bool} (h : (!a) = false) : a = true := by cases a <;> simp_all
theorem zb_t : zb true = nI 1 := rfl
theorem zb_f : zb false = nI 0 := rfl
theorem zb_and (a b : Bool) : zb a &&& zb b = zb (a && b) := by cases a <;> cases b <;> rfl
theorem zb_or (a b : Bool) : zb a ||| zb b = zb (a || b) := by cases a <;> cases b <;> rfl
theorem zb_nar (b : Bool) : narrow .boolean (.int (zb b)) = .int (zb b) := by cases b <;> rfl
theorem zb_fit (b : Bool) : fits .boolean (.int (zb b)) = true := by cases b <;> rfl
theorem zb_vnar (b : Bool) : vp_nar .boolean (zb b) = zb b := by cases b <;> rfl
theorem zb_eq0 (b : Bool) : zb b = 0 ↔ b = false := by cases b <;> decide
theorem zb_inj {a b : Bool} : zb a = zb b ↔ a = b := by cases a <;> cases b <;> decide
theorem nat_if_eq {a : Nat} (h : a < 2147483648) : nI a = 0 ↔ a = 0 := by rw [← nI_0]; exact nI_eq h (by omega)
theorem nat_if_eq_f {a : Nat} (h : a < 2147483648) : ¬ nI a = 0 ↔ a ≠ 0 := not_congr (nat_if_eq h)
theorem nat_if_ne {a : Nat} (h : a < 2147483648) : ¬ nI a = 0 ↔ a ≠ 0 := not_congr (nat_if_eq h)
theorem nat_if_ne_f {a : Nat} (h : a < 2147483648) : nI a = 0 ↔ a = 0 := nat_if_eq h
theorem nat_if_lt {a : Nat} (h : a < 2147483648) : nI a < 0 ↔ False := ⟨fun q => nI_pos h q, False.elim⟩
theorem nat_if_lt_f {a : Nat} (h : a < 2147483648) : ¬ nI a < 0 ↔ True := ⟨fun _ => trivial, fun _ => nI_pos h⟩
theorem nat_if_ge {a : Nat} (h : a < 2147483648) : 0 ≤ nI a ↔ True := ⟨fun _ => trivial, fun _ => nI_pos' h⟩
theorem nat_if_ge_f {a : Nat} (h : a < 2147483648) : ¬ 0 ≤ nI a ↔ False := ⟨fun q => q (nI_pos' h), False.elim⟩
theorem nat_if_le {a : Nat} (h : a < 2147483648) : nI a ≤ 0 ↔ a = 0 := by rw [← nI_0, nI_leI h (by omega)]; omega
theorem nat_if_le_f {a : Nat} (h : a < 2147483648) : ¬ nI a ≤ 0 ↔ 0 < a := by rw [nat_if_le h]; omega
theorem nat_if_gt {a : Nat} (h : a < 2147483648) : 0 < nI a ↔ 0 < a := by rw [← nI_0, nI_ltI (by omega) h]
theorem nat_if_gt_f {a : Nat} (h : a < 2147483648) : ¬ 0 < nI a ↔ a = 0 := by rw [nat_if_gt h]; omega
theorem nat_ic_eq {a b : Nat} (ha : a < 2147483648) (hb : b < 2147483648) : nI a = nI b ↔ a = b := nI_eq ha hb
theorem nat_ic_eq_f {a b : Nat} (ha : a < 2147483648) (hb : b < 2147483648) : ¬ nI a = nI b ↔ a ≠ b := not_congr (nI_eq ha hb)
theorem nat_ic_ne {a b : Nat} (ha : a < 2147483648) (hb : b < 2147483648) : ¬ nI a = nI b ↔ a ≠ b := not_congr (nI_eq ha hb)
theorem nat_ic_ne_f {a b : Nat} (ha : a < 2147483648) (hb : b < 2147483648) : nI a = nI b ↔ a = b := nI_eq ha hb
theorem nat_ic_lt {a b : Nat} (ha : a < 2147483648) (hb : b < 2147483648) : nI a < nI b ↔ a < b := nI_ltI ha hb
theorem nat_ic_lt_f {a b : Nat} (ha : a < 2147483648) (hb : b < 2147483648) : ¬ nI a < nI b ↔ b ≤ a := by rw [nI_ltI ha hb]; omega
theorem nat_ic_ge {a b : Nat} (ha : a < 2147483648) (hb : b < 2147483648) : nI b ≤ nI a ↔ b ≤ a := nI_leI hb ha
theorem nat_ic_ge_f {a b : Nat} (ha : a < 2147483648) (hb : b < 2147483648) : ¬ nI b ≤ nI a ↔ a < b := by rw [nI_leI hb ha]; omega
theorem nat_ic_gt {a b : Nat} (ha : a < 2147483648) (hb : b < 2147483648) : nI b < nI a ↔ b < a := nI_ltI hb ha
theorem nat_ic_gt_f {a b : Nat} (ha : a < 2147483648) (hb : b < 2147483648) : ¬ nI b < nI a ↔ a ≤ b := by rw [nI_ltI hb ha]; omega
theorem nat_ic_le {a b : Nat} (ha : a < 2147483648) (hb : b < 2147483648) : nI a ≤ nI b ↔ a ≤ b := nI_leI ha hb
theorem nat_ic_le_f {a b : Nat} (ha : a < 2147483648) (hb : b < 2147483648) : ¬ nI a ≤ nI b ↔ b < a := by rw [nI_leI ha hb]; omega
theorem i32_cases (x : Int32) : (∃ j : Nat, j < 2147483648 ∧ x = nI j) ∨ x < 0 := by
  by_cases h : x < 0
  · exact Or.inr h
  · exact Or.inl (nI_of h)
theorem i32_lt {a b : Int32} : a < b ↔ a.toInt < b.toInt := Int32.lt_iff_toInt_lt
theorem i32_le {a b : Int32} : a ≤ b ↔ a.toInt ≤ b.toInt := Int32.le_iff_toInt_le
section JJ
variable {p : Program} {l : Launch} {e : Env} {R : Room} {s : State} {m : MethodId} {args : Array Value} {below : List Frame} {meth : Method} {c : Code} {own : String} {cc : ByteArray} {ret : Option FieldType} {nL : Nat} {D : va_G} {g : Nat → ClassId} {A : Nat → Prop} {Q : State → Prop} {cells slots : Nat} {ws : va_W} {L : List (Nat × Value)} {pc : Nat} {st : List Value}

theorem J_iconst (cx : CX p l s m args meth c own cc ret nL D g A) {n : Int} {v : Int32} (d : decode cc pc = .ok (.iconst n, 1)) (hv : Int32.ofInt n = v) (kk : J p l e R s m args below meth c D A nL Q cells slots ws L (pc + 1) (.int v :: st)) : J p l e R s m args below meth c D A nL Q cells slots ws L pc st :=
  fun H locs ls hP hD hS hl => lv_iconst cx.1 cx.2.1  d hv (kk H locs ls hP hD hS hl)

theorem J_bipush (cx : CX p l s m args meth c own cc ret nL D g A) {n : Int} {v : Int32} (d : decode cc pc = .ok (.bipush n, 2)) (hv : (Int8.ofInt n).toInt32 = v) (kk : J p l e R s m args below meth c D A nL Q cells slots ws L (pc + 2) (.int v :: st)) : J p l e R s m args below meth c D A nL Q cells slots ws L pc st :=
  fun H locs ls hP hD hS hl => lv_bipush cx.1 cx.2.1  d hv (kk H locs ls hP hD hS hl)

theorem J_sipush (cx : CX p l s m args meth c own cc ret nL D g A) {n : Int} {v : Int32} (d : decode cc pc = .ok (.sipush n, 3)) (hv : (Int16.ofInt n).toInt32 = v) (kk : J p l e R s m args below meth c D A nL Q cells slots ws L (pc + 3) (.int v :: st)) : J p l e R s m args below meth c D A nL Q cells slots ws L pc st :=
  fun H locs ls hP hD hS hl => lv_sipush cx.1 cx.2.1  d hv (kk H locs ls hP hD hS hl)

theorem J_lconst (cx : CX p l s m args meth c own cc ret nL D g A) {n : Fin 2} {v : Int64} (d : decode cc pc = .ok (.lconst n, 1)) (hv : Int64.ofNat (n : Nat) = v) (kk : J p l e R s m args below meth c D A nL Q cells slots ws L (pc + 1) (.long v :: st)) : J p l e R s m args below meth c D A nL Q cells slots ws L pc st :=
  fun H locs ls hP hD hS hl => lv_lconst cx.1 cx.2.1  d hv (kk H locs ls hP hD hS hl)

theorem J_fconst0 (cx : CX p l s m args meth c own cc ret nL D g A)  (d : decode cc pc = .ok (.fconst 0, 1))  (kk : J p l e R s m args below meth c D A nL Q cells slots ws L (pc + 1) (.float 0 :: st)) : J p l e R s m args below meth c D A nL Q cells slots ws L pc st :=
  fun H locs ls hP hD hS hl => lv_fconst0 cx.1 cx.2.1  d  (kk H locs ls hP hD hS hl)

theorem J_dconst0 (cx : CX p l s m args meth c own cc ret nL D g A)  (d : decode cc pc = .ok (.dconst 0, 1))  (kk : J p l e R s m args below meth c D A nL Q cells slots ws L (pc + 1) (.double 0 :: st)) : J p l e R s m args below meth c D A nL Q cells slots ws L pc st :=
  fun H locs ls hP hD hS hl => lv_dconst0 cx.1 cx.2.1  d  (kk H locs ls hP hD hS hl)

theorem J_null (cx : CX p l s m args meth c own cc ret nL D g A)  (d : decode cc pc = .ok (.aconst_null, 1))  (kk : J p l e R s m args below meth c D A nL Q cells slots ws L (pc + 1) (.null :: st)) : J p l e R s m args below meth c D A nL Q cells slots ws L pc st :=
  fun H locs ls hP hD hS hl => lv_null cx.1 cx.2.1  d  (kk H locs ls hP hD hS hl)

theorem J_ldc2 (cx : CX p l s m args meth c own cc ret nL D g A) {index : Nat} {v : Int64} (d : decode cc pc = .ok (.ldc2_w index, 3)) (hw : Cond.constantLong own index v ∈ wAll) (kk : J p l e R s m args below meth c D A nL Q cells slots ws L (pc + 3) (.long v :: st)) : J p l e R s m args below meth c D A nL Q cells slots ws L pc st :=
  fun H locs ls hP hD hS hl => lv_ldc2 cx.1 cx.2.1 cx.2.2.2.2.1 (cx.2.2.2.2.2.1 _ hw) d (kk H locs ls hP hD hS hl)

theorem J_iadd (cx : CX p l s m args meth c own cc ret nL D g A) {x y : Int32} (d : decode cc pc = .ok (.iadd, 1))  (kk : J p l e R s m args below meth c D A nL Q cells slots ws L (pc + 1) (.int (x + y) :: st)) : J p l e R s m args below meth c D A nL Q cells slots ws L pc (.int y :: .int x :: st) :=
  fun H locs ls hP hD hS hl => lv_iadd cx.1 cx.2.1  d  (kk H locs ls hP hD hS hl)

theorem J_isub (cx : CX p l s m args meth c own cc ret nL D g A) {x y : Int32} (d : decode cc pc = .ok (.isub, 1))  (kk : J p l e R s m args below meth c D A nL Q cells slots ws L (pc + 1) (.int (x - y) :: st)) : J p l e R s m args below meth c D A nL Q cells slots ws L pc (.int y :: .int x :: st) :=
  fun H locs ls hP hD hS hl => lv_isub cx.1 cx.2.1  d  (kk H locs ls hP hD hS hl)

theorem J_imul (cx : CX p l s m args meth c own cc ret nL D g A) {x y : Int32} (d : decode cc pc = .ok (.imul, 1))  (kk : J p l e R s m args below meth c D A nL Q cells slots ws L (pc + 1) (.int (x * y) :: st)) : J p l e R s m args below meth c D A nL Q cells slots ws L pc (.int y :: .int x :: st) :=
  fun H locs ls hP hD hS hl => lv_imul cx.1 cx.2.1  d  (kk H locs ls hP hD hS hl)

theorem J_iand (cx : CX p l s m args meth c own cc ret nL D g A) {x y : Int32} (d : decode cc pc = .ok (.iand, 1))  (kk : J p l e R s m args below meth c D A nL Q cells slots ws L (pc + 1) (.int (x &&& y) :: st)) : J p l e R s m args below meth c D A nL Q cells slots ws L pc (.int y :: .int x :: st) :=
  fun H locs ls hP hD hS hl => lv_iand cx.1 cx.2.1  d  (kk H locs ls hP hD hS hl)

theorem J_ior (cx : CX p l s m args meth c own cc ret nL D g A) {x y : Int32} (d : decode cc pc = .ok (.ior, 1))  (kk : J p l e R s m args below meth c D A nL Q cells slots ws L (pc + 1) (.int (x ||| y) :: st)) : J p l e R s m args below meth c D A nL Q cells slots ws L pc (.int y :: .int x :: st) :=
  fun H locs ls hP hD hS hl => lv_ior cx.1 cx.2.1  d  (kk H locs ls hP hD hS hl)

theorem J_idiv (cx : CX p l s m args meth c own cc ret nL D g A) {x y : Int32} (d : decode cc pc = .ok (.idiv, 1)) (hne : ¬ y = 0) (kk : J p l e R s m args below meth c D A nL Q cells slots ws L (pc + 1) (.int (x / y) :: st)) : J p l e R s m args below meth c D A nL Q cells slots ws L pc (.int y :: .int x :: st) :=
  fun H locs ls hP hD hS hl => lv_idiv cx.1 cx.2.1  d hne (kk H locs ls hP hD hS hl)

theorem J_irem (cx : CX p l s m args meth c own cc ret nL D g A) {x y : Int32} (d : decode cc pc = .ok (.irem, 1)) (hne : ¬ y = 0) (kk : J p l e R s m args below meth c D A nL Q cells slots ws L (pc + 1) (.int (x - x / y * y) :: st)) : J p l e R s m args below meth c D A nL Q cells slots ws L pc (.int y :: .int x :: st) :=
  fun H locs ls hP hD hS hl => lv_irem cx.1 cx.2.1  d hne (kk H locs ls hP hD hS hl)

theorem J_ladd (cx : CX p l s m args meth c own cc ret nL D g A) {x y : Int64} (d : decode cc pc = .ok (.ladd, 1))  (kk : J p l e R s m args below meth c D A nL Q cells slots ws L (pc + 1) (.long (x + y) :: st)) : J p l e R s m args below meth c D A nL Q cells slots ws L pc (.long y :: .long x :: st) :=
  fun H locs ls hP hD hS hl => lv_ladd cx.1 cx.2.1  d  (kk H locs ls hP hD hS hl)

theorem J_lsub (cx : CX p l s m args meth c own cc ret nL D g A) {x y : Int64} (d : decode cc pc = .ok (.lsub, 1))  (kk : J p l e R s m args below meth c D A nL Q cells slots ws L (pc + 1) (.long (x - y) :: st)) : J p l e R s m args below meth c D A nL Q cells slots ws L pc (.long y :: .long x :: st) :=
  fun H locs ls hP hD hS hl => lv_lsub cx.1 cx.2.1  d  (kk H locs ls hP hD hS hl)

theorem J_lmul (cx : CX p l s m args meth c own cc ret nL D g A) {x y : Int64} (d : decode cc pc = .ok (.lmul, 1))  (kk : J p l e R s m args below meth c D A nL Q cells slots ws L (pc + 1) (.long (x * y) :: st)) : J p l e R s m args below meth c D A nL Q cells slots ws L pc (.long y :: .long x :: st) :=
  fun H locs ls hP hD hS hl => lv_lmul cx.1 cx.2.1  d  (kk H locs ls hP hD hS hl)

theorem J_land (cx : CX p l s m args meth c own cc ret nL D g A) {x y : Int64} (d : decode cc pc = .ok (.land, 1))  (kk : J p l e R s m args below meth c D A nL Q cells slots ws L (pc + 1) (.long (x &&& y) :: st)) : J p l e R s m args below meth c D A nL Q cells slots ws L pc (.long y :: .long x :: st) :=
  fun H locs ls hP hD hS hl => lv_land cx.1 cx.2.1  d  (kk H locs ls hP hD hS hl)

theorem J_lor (cx : CX p l s m args meth c own cc ret nL D g A) {x y : Int64} (d : decode cc pc = .ok (.lor, 1))  (kk : J p l e R s m args below meth c D A nL Q cells slots ws L (pc + 1) (.long (x ||| y) :: st)) : J p l e R s m args below meth c D A nL Q cells slots ws L pc (.long y :: .long x :: st) :=
  fun H locs ls hP hD hS hl => lv_lor cx.1 cx.2.1  d  (kk H locs ls hP hD hS hl)

theorem J_lrem (cx : CX p l s m args meth c own cc ret nL D g A) {x y : Int64} (d : decode cc pc = .ok (.lrem, 1)) (hne : ¬ y = 0) (kk : J p l e R s m args below meth c D A nL Q cells slots ws L (pc + 1) (.long (x - x / y * y) :: st)) : J p l e R s m args below meth c D A nL Q cells slots ws L pc (.long y :: .long x :: st) :=
  fun H locs ls hP hD hS hl => lv_lrem cx.1 cx.2.1  d hne (kk H locs ls hP hD hS hl)

theorem J_lshl (cx : CX p l s m args meth c own cc ret nL D g A) {x v : Int64} {y : Int32} (d : decode cc pc = .ok (.lshl, 1)) (hv : x <<< (y.toInt64 &&& 63) = v) (kk : J p l e R s m args below meth c D A nL Q cells slots ws L (pc + 1) (.long v :: st)) : J p l e R s m args below meth c D A nL Q cells slots ws L pc (.int y :: .long x :: st) :=
  fun H locs ls hP hD hS hl => lv_lshl cx.1 cx.2.1  d hv (kk H locs ls hP hD hS hl)

theorem J_i2l (cx : CX p l s m args meth c own cc ret nL D g A) {x : Int32} {v : Int64} (d : decode cc pc = .ok (.i2l, 1)) (hv : x.toInt64 = v) (kk : J p l e R s m args below meth c D A nL Q cells slots ws L (pc + 1) (.long v :: st)) : J p l e R s m args below meth c D A nL Q cells slots ws L pc (.int x :: st) :=
  fun H locs ls hP hD hS hl => lv_i2l cx.1 cx.2.1  d hv (kk H locs ls hP hD hS hl)

theorem J_i2f (cx : CX p l s m args meth c own cc ret nL D g A) {x : Int32} (d : decode cc pc = .ok (.i2f, 1))  (kk : J p l e R s m args below meth c D A nL Q cells slots ws L (pc + 1) (.float (FP.i2f x) :: st)) : J p l e R s m args below meth c D A nL Q cells slots ws L pc (.int x :: st) :=
  fun H locs ls hP hD hS hl => lv_i2f cx.1 cx.2.1  d  (kk H locs ls hP hD hS hl)

theorem J_i2d (cx : CX p l s m args meth c own cc ret nL D g A) {x : Int32} (d : decode cc pc = .ok (.i2d, 1))  (kk : J p l e R s m args below meth c D A nL Q cells slots ws L (pc + 1) (.double (FP.i2d x) :: st)) : J p l e R s m args below meth c D A nL Q cells slots ws L pc (.int x :: st) :=
  fun H locs ls hP hD hS hl => lv_i2d cx.1 cx.2.1  d  (kk H locs ls hP hD hS hl)

theorem J_fdiv (cx : CX p l s m args meth c own cc ret nL D g A) {x y : UInt32} (d : decode cc pc = .ok (.fdiv, 1)) (hne : vf_n32 (FP.fdiv x y)) (kk : J p l e R s m args below meth c D A nL Q cells slots ws L (pc + 1) (.float (FP.fdiv x y) :: st)) : J p l e R s m args below meth c D A nL Q cells slots ws L pc (.float y :: .float x :: st) :=
  fun H locs ls hP hD hS hl => lv_fdiv cx.1 cx.2.1  d hne (kk H locs ls hP hD hS hl)

theorem J_ddiv (cx : CX p l s m args meth c own cc ret nL D g A) {x y : UInt64} (d : decode cc pc = .ok (.ddiv, 1)) (hne : vf_n64 (FP.ddiv x y)) (kk : J p l e R s m args below meth c D A nL Q cells slots ws L (pc + 1) (.double (FP.ddiv x y) :: st)) : J p l e R s m args below meth c D A nL Q cells slots ws L pc (.double y :: .double x :: st) :=
  fun H locs ls hP hD hS hl => lv_ddiv cx.1 cx.2.1  d hne (kk H locs ls hP hD hS hl)

theorem J_f2d (cx : CX p l s m args meth c own cc ret nL D g A) {x : UInt32} (d : decode cc pc = .ok (.f2d, 1)) (hne : vf_n64 (FP.f2d x)) (kk : J p l e R s m args below meth c D A nL Q cells slots ws L (pc + 1) (.double (FP.f2d x) :: st)) : J p l e R s m args below meth c D A nL Q cells slots ws L pc (.float x :: st) :=
  fun H locs ls hP hD hS hl => lv_f2d cx.1 cx.2.1  d hne (kk H locs ls hP hD hS hl)

theorem J_dcmp (cx : CX p l s m args meth c own cc ret nL D g A) {x y : UInt64} {op : CmpOp} (d : decode cc pc = .ok (.dcmp op, 1))  (kk : J p l e R s m args below meth c D A nL Q cells slots ws L (pc + 1) (.int (Op.cmpValue (FP.dcmp x y) op) :: st)) : J p l e R s m args below meth c D A nL Q cells slots ws L pc (.double y :: .double x :: st) :=
  fun H locs ls hP hD hS hl => lv_dcmp cx.1 cx.2.1  d  (kk H locs ls hP hD hS hl)

theorem J_fcmp (cx : CX p l s m args meth c own cc ret nL D g A) {x y : UInt32} {op : CmpOp} (d : decode cc pc = .ok (.fcmp op, 1))  (kk : J p l e R s m args below meth c D A nL Q cells slots ws L (pc + 1) (.int (Op.cmpValue (FP.fcmp x y) op) :: st)) : J p l e R s m args below meth c D A nL Q cells slots ws L pc (.float y :: .float x :: st) :=
  fun H locs ls hP hD hS hl => lv_fcmp cx.1 cx.2.1  d  (kk H locs ls hP hD hS hl)

theorem J_lcmp (cx : CX p l s m args meth c own cc ret nL D g A) {x y : Int64} (d : decode cc pc = .ok (.lcmp, 1))  (kk : J p l e R s m args below meth c D A nL Q cells slots ws L (pc + 1) (.int (lg_cmp x y) :: st)) : J p l e R s m args below meth c D A nL Q cells slots ws L pc (.long y :: .long x :: st) :=
  fun H locs ls hP hD hS hl => W.lcmp cx.1 cx.2.1  d  (kk H locs ls hP hD hS hl)

theorem J_dup (cx : CX p l s m args meth c own cc ret nL D g A) {va : Value} (d : decode cc pc = .ok (.dup, 1)) (hva : va.category = 1) (kk : J p l e R s m args below meth c D A nL Q cells slots ws L (pc + 1) (va :: va :: st)) : J p l e R s m args below meth c D A nL Q cells slots ws L pc (va :: st) :=
  fun H locs ls hP hD hS hl => lv_dup cx.1 cx.2.1  d hva (kk H locs ls hP hD hS hl)

theorem J_pop (cx : CX p l s m args meth c own cc ret nL D g A) {va : Value} (d : decode cc pc = .ok (.pop, 1)) (hva : va.category = 1) (kk : J p l e R s m args below meth c D A nL Q cells slots ws L (pc + 1) st) : J p l e R s m args below meth c D A nL Q cells slots ws L pc (va :: st) :=
  fun H locs ls hP hD hS hl => lv_pop cx.1 cx.2.1  d hva (kk H locs ls hP hD hS hl)

theorem J_dup_x1 (cx : CX p l s m args meth c own cc ret nL D g A) {va vb : Value} (d : decode cc pc = .ok (.dup_x1, 1)) (hva : va.category = 1) (hvb : vb.category = 1) (kk : J p l e R s m args below meth c D A nL Q cells slots ws L (pc + 1) (va :: vb :: va :: st)) : J p l e R s m args below meth c D A nL Q cells slots ws L pc (va :: vb :: st) :=
  fun H locs ls hP hD hS hl => lv_dup_x1 cx.1 cx.2.1  d hva hvb (kk H locs ls hP hD hS hl)

theorem J_iload_n (cx : CX p l s m args meth c own cc ret nL D g A) {k : Fin 4} {i : Nat} {x : Int32} (d : decode cc pc = .ok (.iload_n k, 1)) (hi : (k : Nat) = i) (q : Nat) (hq : L[q]? = some (i, .int x)) (kk : J p l e R s m args below meth c D A nL Q cells slots ws L (pc + 1) (.int x :: st)) : J p l e R s m args below meth c D A nL Q cells slots ws L pc st :=
  fun H locs ls hP hD hS hl => lv_iload_n cx.1 cx.2.1 d hi (lv_at hl q hq) (kk H locs ls hP hD hS hl)

theorem J_iload (cx : CX p l s m args meth c own cc ret nL D g A) {i : Nat} {x : Int32} (d : decode cc pc = .ok (.iload i, 2)) (q : Nat) (hq : L[q]? = some (i, .int x)) (kk : J p l e R s m args below meth c D A nL Q cells slots ws L (pc + 2) (.int x :: st)) : J p l e R s m args below meth c D A nL Q cells slots ws L pc st :=
  fun H locs ls hP hD hS hl => lv_iload cx.1 cx.2.1 d (lv_at hl q hq) (kk H locs ls hP hD hS hl)

theorem J_lload_n (cx : CX p l s m args meth c own cc ret nL D g A) {k : Fin 4} {i : Nat} {x : Int64} (d : decode cc pc = .ok (.lload_n k, 1)) (hi : (k : Nat) = i) (q : Nat) (hq : L[q]? = some (i, .long x)) (kk : J p l e R s m args below meth c D A nL Q cells slots ws L (pc + 1) (.long x :: st)) : J p l e R s m args below meth c D A nL Q cells slots ws L pc st :=
  fun H locs ls hP hD hS hl => lv_lload_n cx.1 cx.2.1 d hi (lv_at hl q hq) (kk H locs ls hP hD hS hl)

theorem J_lload (cx : CX p l s m args meth c own cc ret nL D g A) {i : Nat} {x : Int64} (d : decode cc pc = .ok (.lload i, 2)) (q : Nat) (hq : L[q]? = some (i, .long x)) (kk : J p l e R s m args below meth c D A nL Q cells slots ws L (pc + 2) (.long x :: st)) : J p l e R s m args below meth c D A nL Q cells slots ws L pc st :=
  fun H locs ls hP hD hS hl => lv_lload cx.1 cx.2.1 d (lv_at hl q hq) (kk H locs ls hP hD hS hl)

theorem J_fload_n (cx : CX p l s m args meth c own cc ret nL D g A) {k : Fin 4} {i : Nat} {x : UInt32} (d : decode cc pc = .ok (.fload_n k, 1)) (hi : (k : Nat) = i) (q : Nat) (hq : L[q]? = some (i, .float x)) (kk : J p l e R s m args below meth c D A nL Q cells slots ws L (pc + 1) (.float x :: st)) : J p l e R s m args below meth c D A nL Q cells slots ws L pc st :=
  fun H locs ls hP hD hS hl => lv_fload_n cx.1 cx.2.1 d hi (lv_at hl q hq) (kk H locs ls hP hD hS hl)

theorem J_fload (cx : CX p l s m args meth c own cc ret nL D g A) {i : Nat} {x : UInt32} (d : decode cc pc = .ok (.fload i, 2)) (q : Nat) (hq : L[q]? = some (i, .float x)) (kk : J p l e R s m args below meth c D A nL Q cells slots ws L (pc + 2) (.float x :: st)) : J p l e R s m args below meth c D A nL Q cells slots ws L pc st :=
  fun H locs ls hP hD hS hl => lv_fload cx.1 cx.2.1 d (lv_at hl q hq) (kk H locs ls hP hD hS hl)

theorem J_dload_n (cx : CX p l s m args meth c own cc ret nL D g A) {k : Fin 4} {i : Nat} {x : UInt64} (d : decode cc pc = .ok (.dload_n k, 1)) (hi : (k : Nat) = i) (q : Nat) (hq : L[q]? = some (i, .double x)) (kk : J p l e R s m args below meth c D A nL Q cells slots ws L (pc + 1) (.double x :: st)) : J p l e R s m args below meth c D A nL Q cells slots ws L pc st :=
  fun H locs ls hP hD hS hl => lv_dload_n cx.1 cx.2.1 d hi (lv_at hl q hq) (kk H locs ls hP hD hS hl)

theorem J_dload (cx : CX p l s m args meth c own cc ret nL D g A) {i : Nat} {x : UInt64} (d : decode cc pc = .ok (.dload i, 2)) (q : Nat) (hq : L[q]? = some (i, .double x)) (kk : J p l e R s m args below meth c D A nL Q cells slots ws L (pc + 2) (.double x :: st)) : J p l e R s m args below meth c D A nL Q cells slots ws L pc st :=
  fun H locs ls hP hD hS hl => lv_dload cx.1 cx.2.1 d (lv_at hl q hq) (kk H locs ls hP hD hS hl)

theorem J_aload_n (cx : CX p l s m args meth c own cc ret nL D g A) {k : Fin 4} {i : Nat} {x : Nat} (d : decode cc pc = .ok (.aload_n k, 1)) (hi : (k : Nat) = i) (q : Nat) (hq : L[q]? = some (i, .ref x)) (kk : J p l e R s m args below meth c D A nL Q cells slots ws L (pc + 1) (.ref x :: st)) : J p l e R s m args below meth c D A nL Q cells slots ws L pc st :=
  fun H locs ls hP hD hS hl => lv_aload_n cx.1 cx.2.1 d hi (lv_at hl q hq) (kk H locs ls hP hD hS hl)

theorem J_aload (cx : CX p l s m args meth c own cc ret nL D g A) {i : Nat} {x : Nat} (d : decode cc pc = .ok (.aload i, 2)) (q : Nat) (hq : L[q]? = some (i, .ref x)) (kk : J p l e R s m args below meth c D A nL Q cells slots ws L (pc + 2) (.ref x :: st)) : J p l e R s m args below meth c D A nL Q cells slots ws L pc st :=
  fun H locs ls hP hD hS hl => lv_aload cx.1 cx.2.1 d (lv_at hl q hq) (kk H locs ls hP hD hS hl)

theorem J_aload_nq (cx : CX p l s m args meth c own cc ret nL D g A) {k : Fin 4} {i : Nat} {x : Option Nat} (d : decode cc pc = .ok (.aload_n k, 1)) (hi : (k : Nat) = i) (q : Nat) (hq : L[q]? = some (i, va_rf x)) (kk : J p l e R s m args below meth c D A nL Q cells slots ws L (pc + 1) (va_rf x :: st)) : J p l e R s m args below meth c D A nL Q cells slots ws L pc st := by
  cases x with
  | none => exact fun H locs ls hP hD hS hl => lv_aload_nN cx.1 cx.2.1 d hi (lv_at hl q hq) (kk H locs ls hP hD hS hl)
  | some x => exact fun H locs ls hP hD hS hl => lv_aload_n cx.1 cx.2.1 d hi (lv_at hl q hq) (kk H locs ls hP hD hS hl)
theorem J_aloadq (cx : CX p l s m args meth c own cc ret nL D g A) {i : Nat} {x : Option Nat} (d : decode cc pc = .ok (.aload i, 2)) (q : Nat) (hq : L[q]? = some (i, va_rf x)) (kk : J p l e R s m args below meth c D A nL Q cells slots ws L (pc + 2) (va_rf x :: st)) : J p l e R s m args below meth c D A nL Q cells slots ws L pc st := by
  cases x with
  | none => exact fun H locs ls hP hD hS hl => lv_aloadN cx.1 cx.2.1 d (lv_at hl q hq) (kk H locs ls hP hD hS hl)
  | some x => exact fun H locs ls hP hD hS hl => lv_aload cx.1 cx.2.1 d (lv_at hl q hq) (kk H locs ls hP hD hS hl)

theorem J_istore_n (cx : CX p l s m args meth c own cc ret nL D g A) {k : Fin 4} {i : Nat} {x : Int32} {L' : List (Nat × Value)} (d : decode cc pc = .ok (.istore_n k, 1)) (hi : (k : Nat) = i) (hn : i < nL) (hL : (i, Value.int x) :: L.filter (fun q => !(q.1 == i) && !(q.1 + 1 == i && q.2.category == 2)) = L') (kk : J p l e R s m args below meth c D A nL Q cells slots ws L' (pc + 1) st) : J p l e R s m args below meth c D A nL Q cells slots ws L pc (.int x :: st) :=
  fun H locs ls hP hD hS hl => lv_istore_n cx.1 cx.2.1 d hi hl hn hL (fun ls hl => kk H locs ls hP hD hS hl)

theorem J_istore (cx : CX p l s m args meth c own cc ret nL D g A) {i : Nat} {x : Int32} {L' : List (Nat × Value)} (d : decode cc pc = .ok (.istore i, 2)) (hn : i < nL) (hL : (i, Value.int x) :: L.filter (fun q => !(q.1 == i) && !(q.1 + 1 == i && q.2.category == 2)) = L') (kk : J p l e R s m args below meth c D A nL Q cells slots ws L' (pc + 2) st) : J p l e R s m args below meth c D A nL Q cells slots ws L pc (.int x :: st) :=
  fun H locs ls hP hD hS hl => lv_istore cx.1 cx.2.1 d hl hn hL (fun ls hl => kk H locs ls hP hD hS hl)

theorem J_lstore_n (cx : CX p l s m args meth c own cc ret nL D g A) {k : Fin 4} {i : Nat} {x : Int64} {L' : List (Nat × Value)} (d : decode cc pc = .ok (.lstore_n k, 1)) (hi : (k : Nat) = i) (hn : i + 1 < nL) (hL : (i, Value.long x) :: L.filter (fun q => !(q.1 == i) && (!(q.1 == i + 1) && !(q.1 + 1 == i && q.2.category == 2))) = L') (kk : J p l e R s m args below meth c D A nL Q cells slots ws L' (pc + 1) st) : J p l e R s m args below meth c D A nL Q cells slots ws L pc (.long x :: st) :=
  fun H locs ls hP hD hS hl => lv_lstore_n cx.1 cx.2.1 d hi hl hn hL (fun ls hl => kk H locs ls hP hD hS hl)

theorem J_lstore (cx : CX p l s m args meth c own cc ret nL D g A) {i : Nat} {x : Int64} {L' : List (Nat × Value)} (d : decode cc pc = .ok (.lstore i, 2)) (hn : i + 1 < nL) (hL : (i, Value.long x) :: L.filter (fun q => !(q.1 == i) && (!(q.1 == i + 1) && !(q.1 + 1 == i && q.2.category == 2))) = L') (kk : J p l e R s m args below meth c D A nL Q cells slots ws L' (pc + 2) st) : J p l e R s m args below meth c D A nL Q cells slots ws L pc (.long x :: st) :=
  fun H locs ls hP hD hS hl => lv_lstore cx.1 cx.2.1 d hl hn hL (fun ls hl => kk H locs ls hP hD hS hl)

theorem J_fstore_n (cx : CX p l s m args meth c own cc ret nL D g A) {k : Fin 4} {i : Nat} {x : UInt32} {L' : List (Nat × Value)} (d : decode cc pc = .ok (.fstore_n k, 1)) (hi : (k : Nat) = i) (hn : i < nL) (hL : (i, Value.float x) :: L.filter (fun q => !(q.1 == i) && !(q.1 + 1 == i && q.2.category == 2)) = L') (kk : J p l e R s m args below meth c D A nL Q cells slots ws L' (pc + 1) st) : J p l e R s m args below meth c D A nL Q cells slots ws L pc (.float x :: st) :=
  fun H locs ls hP hD hS hl => lv_fstore_n cx.1 cx.2.1 d hi hl hn hL (fun ls hl => kk H locs ls hP hD hS hl)

theorem J_fstore (cx : CX p l s m args meth c own cc ret nL D g A) {i : Nat} {x : UInt32} {L' : List (Nat × Value)} (d : decode cc pc = .ok (.fstore i, 2)) (hn : i < nL) (hL : (i, Value.float x) :: L.filter (fun q => !(q.1 == i) && !(q.1 + 1 == i && q.2.category == 2)) = L') (kk : J p l e R s m args below meth c D A nL Q cells slots ws L' (pc + 2) st) : J p l e R s m args below meth c D A nL Q cells slots ws L pc (.float x :: st) :=
  fun H locs ls hP hD hS hl => lv_fstore cx.1 cx.2.1 d hl hn hL (fun ls hl => kk H locs ls hP hD hS hl)

theorem J_dstore_n (cx : CX p l s m args meth c own cc ret nL D g A) {k : Fin 4} {i : Nat} {x : UInt64} {L' : List (Nat × Value)} (d : decode cc pc = .ok (.dstore_n k, 1)) (hi : (k : Nat) = i) (hn : i + 1 < nL) (hL : (i, Value.double x) :: L.filter (fun q => !(q.1 == i) && (!(q.1 == i + 1) && !(q.1 + 1 == i && q.2.category == 2))) = L') (kk : J p l e R s m args below meth c D A nL Q cells slots ws L' (pc + 1) st) : J p l e R s m args below meth c D A nL Q cells slots ws L pc (.double x :: st) :=
  fun H locs ls hP hD hS hl => lv_dstore_n cx.1 cx.2.1 d hi hl hn hL (fun ls hl => kk H locs ls hP hD hS hl)

theorem J_dstore (cx : CX p l s m args meth c own cc ret nL D g A) {i : Nat} {x : UInt64} {L' : List (Nat × Value)} (d : decode cc pc = .ok (.dstore i, 2)) (hn : i + 1 < nL) (hL : (i, Value.double x) :: L.filter (fun q => !(q.1 == i) && (!(q.1 == i + 1) && !(q.1 + 1 == i && q.2.category == 2))) = L') (kk : J p l e R s m args below meth c D A nL Q cells slots ws L' (pc + 2) st) : J p l e R s m args below meth c D A nL Q cells slots ws L pc (.double x :: st) :=
  fun H locs ls hP hD hS hl => lv_dstore cx.1 cx.2.1 d hl hn hL (fun ls hl => kk H locs ls hP hD hS hl)

theorem J_astore_n (cx : CX p l s m args meth c own cc ret nL D g A) {k : Fin 4} {i : Nat} {x : Nat} {L' : List (Nat × Value)} (d : decode cc pc = .ok (.astore_n k, 1)) (hi : (k : Nat) = i) (hn : i < nL) (hL : (i, Value.ref x) :: L.filter (fun q => !(q.1 == i) && !(q.1 + 1 == i && q.2.category == 2)) = L') (kk : J p l e R s m args below meth c D A nL Q cells slots ws L' (pc + 1) st) : J p l e R s m args below meth c D A nL Q cells slots ws L pc (.ref x :: st) :=
  fun H locs ls hP hD hS hl => lv_astore_n cx.1 cx.2.1 d hi hl hn hL (fun ls hl => kk H locs ls hP hD hS hl)

theorem J_astore (cx : CX p l s m args meth c own cc ret nL D g A) {i : Nat} {x : Nat} {L' : List (Nat × Value)} (d : decode cc pc = .ok (.astore i, 2)) (hn : i < nL) (hL : (i, Value.ref x) :: L.filter (fun q => !(q.1 == i) && !(q.1 + 1 == i && q.2.category == 2)) = L') (kk : J p l e R s m args below meth c D A nL Q cells slots ws L' (pc + 2) st) : J p l e R s m args below meth c D A nL Q cells slots ws L pc (.ref x :: st) :=
  fun H locs ls hP hD hS hl => lv_astore cx.1 cx.2.1 d hl hn hL (fun ls hl => kk H locs ls hP hD hS hl)

theorem J_astore_nq (cx : CX p l s m args meth c own cc ret nL D g A) {k : Fin 4} {i : Nat} {x : Option Nat} {L' : List (Nat × Value)} (d : decode cc pc = .ok (.astore_n k, 1)) (hi : (k : Nat) = i) (hn : i < nL) (hL : (i, va_rf x) :: L.filter (fun q => !(q.1 == i) && !(q.1 + 1 == i && q.2.category == 2)) = L') (kk : J p l e R s m args below meth c D A nL Q cells slots ws L' (pc + 1) st) : J p l e R s m args below meth c D A nL Q cells slots ws L pc (va_rf x :: st) := by
  cases x with
  | none => exact fun H locs ls hP hD hS hl => lv_astore_nN cx.1 cx.2.1 d hi hl hn hL (fun ls hl => kk H locs ls hP hD hS hl)
  | some x => exact fun H locs ls hP hD hS hl => lv_astore_n cx.1 cx.2.1 d hi hl hn hL (fun ls hl => kk H locs ls hP hD hS hl)
theorem J_astoreq (cx : CX p l s m args meth c own cc ret nL D g A) {i : Nat} {x : Option Nat} {L' : List (Nat × Value)} (d : decode cc pc = .ok (.astore i, 2)) (hn : i < nL) (hL : (i, va_rf x) :: L.filter (fun q => !(q.1 == i) && !(q.1 + 1 == i && q.2.category == 2)) = L') (kk : J p l e R s m args below meth c D A nL Q cells slots ws L' (pc + 2) st) : J p l e R s m args below meth c D A nL Q cells slots ws L pc (va_rf x :: st) := by
  cases x with
  | none => exact fun H locs ls hP hD hS hl => lv_astoreN cx.1 cx.2.1 d hl hn hL (fun ls hl => kk H locs ls hP hD hS hl)
  | some x => exact fun H locs ls hP hD hS hl => lv_astore cx.1 cx.2.1 d hl hn hL (fun ls hl => kk H locs ls hP hD hS hl)

theorem J_iinc (cx : CX p l s m args meth c own cc ret nL D g A) {i : Nat} {n : Int} {x v : Int32} {L' : List (Nat × Value)} (d : decode cc pc = .ok (.iinc i n, 3)) (q : Nat) (hq : L[q]? = some (i, .int x)) (hv : x + Int32.ofInt n = v) (hn : i < nL) (hL : (i, Value.int v) :: L.filter (fun q => !(q.1 == i) && !(q.1 + 1 == i && q.2.category == 2)) = L') (kk : J p l e R s m args below meth c D A nL Q cells slots ws L' (pc + 3) st) : J p l e R s m args below meth c D A nL Q cells slots ws L pc st :=
  fun H locs ls hP hD hS hl => lv_iinc cx.1 cx.2.1 d hl hq hv hn hL (fun ls hl => kk H locs ls hP hD hS hl)

theorem J_goto (cx : CX p l s m args meth c own cc ret nL D g A) {off : Int} {tgt : Nat} (d : decode cc pc = .ok (.goto off, 3)) (ht : (pc : Int) + off = (tgt : Int)) (kk : J p l e R s m args below meth c D A nL Q cells slots ws L tgt st) : J p l e R s m args below meth c D A nL Q cells slots ws L pc st :=
  fun H locs ls hP hD hS hl => lv_goto cx.1 cx.2.1 d ht (kk H locs ls hP hD hS hl)

theorem J_if_eq (cx : CX p l s m args meth c own cc ret nL D g A) {x : Int32} {off : Int} {tgt : Nat} (d : decode cc pc = .ok (.ifCond .eq off, 3)) (ht : (pc : Int) + off = (tgt : Int)) (kt : x = 0 → J p l e R s m args below meth c D A nL Q cells slots ws L tgt st) (kf : ¬ x = 0 → J p l e R s m args below meth c D A nL Q cells slots ws L (pc + 3) st) : J p l e R s m args below meth c D A nL Q cells slots ws L pc (.int x :: st) :=
  fun H locs ls hP hD hS hl => lv_if_eq cx.1 cx.2.1 d ht (fun h => kt h H locs ls hP hD hS hl) (fun h => kf h H locs ls hP hD hS hl)

theorem J_if_ne (cx : CX p l s m args meth c own cc ret nL D g A) {x : Int32} {off : Int} {tgt : Nat} (d : decode cc pc = .ok (.ifCond .ne off, 3)) (ht : (pc : Int) + off = (tgt : Int)) (kt : ¬ x = 0 → J p l e R s m args below meth c D A nL Q cells slots ws L tgt st) (kf : x = 0 → J p l e R s m args below meth c D A nL Q cells slots ws L (pc + 3) st) : J p l e R s m args below meth c D A nL Q cells slots ws L pc (.int x :: st) :=
  fun H locs ls hP hD hS hl => lv_if_ne cx.1 cx.2.1 d ht (fun h => kt h H locs ls hP hD hS hl) (fun h => kf h H locs ls hP hD hS hl)

theorem J_if_lt (cx : CX p l s m args meth c own cc ret nL D g A) {x : Int32} {off : Int} {tgt : Nat} (d : decode cc pc = .ok (.ifCond .lt off, 3)) (ht : (pc : Int) + off = (tgt : Int)) (kt : x < 0 → J p l e R s m args below meth c D A nL Q cells slots ws L tgt st) (kf : ¬ x < 0 → J p l e R s m args below meth c D A nL Q cells slots ws L (pc + 3) st) : J p l e R s m args below meth c D A nL Q cells slots ws L pc (.int x :: st) :=
  fun H locs ls hP hD hS hl => lv_if_lt cx.1 cx.2.1 d ht (fun h => kt h H locs ls hP hD hS hl) (fun h => kf h H locs ls hP hD hS hl)

theorem J_if_le (cx : CX p l s m args meth c own cc ret nL D g A) {x : Int32} {off : Int} {tgt : Nat} (d : decode cc pc = .ok (.ifCond .le off, 3)) (ht : (pc : Int) + off = (tgt : Int)) (kt : x ≤ 0 → J p l e R s m args below meth c D A nL Q cells slots ws L tgt st) (kf : ¬ x ≤ 0 → J p l e R s m args below meth c D A nL Q cells slots ws L (pc + 3) st) : J p l e R s m args below meth c D A nL Q cells slots ws L pc (.int x :: st) :=
  fun H locs ls hP hD hS hl => lv_if_le cx.1 cx.2.1 d ht (fun h => kt h H locs ls hP hD hS hl) (fun h => kf h H locs ls hP hD hS hl)

theorem J_if_ge (cx : CX p l s m args meth c own cc ret nL D g A) {x : Int32} {off : Int} {tgt : Nat} (d : decode cc pc = .ok (.ifCond .ge off, 3)) (ht : (pc : Int) + off = (tgt : Int)) (kt : 0 ≤ x → J p l e R s m args below meth c D A nL Q cells slots ws L tgt st) (kf : ¬ 0 ≤ x → J p l e R s m args below meth c D A nL Q cells slots ws L (pc + 3) st) : J p l e R s m args below meth c D A nL Q cells slots ws L pc (.int x :: st) :=
  fun H locs ls hP hD hS hl => lv_if_ge cx.1 cx.2.1 d ht (fun h => kt h H locs ls hP hD hS hl) (fun h => kf h H locs ls hP hD hS hl)

theorem J_if_gt (cx : CX p l s m args meth c own cc ret nL D g A) {x : Int32} {off : Int} {tgt : Nat} (d : decode cc pc = .ok (.ifCond .gt off, 3)) (ht : (pc : Int) + off = (tgt : Int)) (kt : 0 < x → J p l e R s m args below meth c D A nL Q cells slots ws L tgt st) (kf : ¬ 0 < x → J p l e R s m args below meth c D A nL Q cells slots ws L (pc + 3) st) : J p l e R s m args below meth c D A nL Q cells slots ws L pc (.int x :: st) :=
  fun H locs ls hP hD hS hl => lv_if_gt cx.1 cx.2.1 d ht (fun h => kt h H locs ls hP hD hS hl) (fun h => kf h H locs ls hP hD hS hl)

theorem J_icmp_eq (cx : CX p l s m args meth c own cc ret nL D g A) {x y : Int32} {off : Int} {tgt : Nat} (d : decode cc pc = .ok (.if_icmp .eq off, 3)) (ht : (pc : Int) + off = (tgt : Int)) (kt : x = y → J p l e R s m args below meth c D A nL Q cells slots ws L tgt st) (kf : ¬ x = y → J p l e R s m args below meth c D A nL Q cells slots ws L (pc + 3) st) : J p l e R s m args below meth c D A nL Q cells slots ws L pc (.int y :: .int x :: st) :=
  fun H locs ls hP hD hS hl => lv_icmp_eq cx.1 cx.2.1 d ht (fun h => kt h H locs ls hP hD hS hl) (fun h => kf h H locs ls hP hD hS hl)

theorem J_icmp_ne (cx : CX p l s m args meth c own cc ret nL D g A) {x y : Int32} {off : Int} {tgt : Nat} (d : decode cc pc = .ok (.if_icmp .ne off, 3)) (ht : (pc : Int) + off = (tgt : Int)) (kt : ¬ x = y → J p l e R s m args below meth c D A nL Q cells slots ws L tgt st) (kf : x = y → J p l e R s m args below meth c D A nL Q cells slots ws L (pc + 3) st) : J p l e R s m args below meth c D A nL Q cells slots ws L pc (.int y :: .int x :: st) :=
  fun H locs ls hP hD hS hl => lv_icmp_ne cx.1 cx.2.1 d ht (fun h => kt h H locs ls hP hD hS hl) (fun h => kf h H locs ls hP hD hS hl)

theorem J_icmp_lt (cx : CX p l s m args meth c own cc ret nL D g A) {x y : Int32} {off : Int} {tgt : Nat} (d : decode cc pc = .ok (.if_icmp .lt off, 3)) (ht : (pc : Int) + off = (tgt : Int)) (kt : x < y → J p l e R s m args below meth c D A nL Q cells slots ws L tgt st) (kf : ¬ x < y → J p l e R s m args below meth c D A nL Q cells slots ws L (pc + 3) st) : J p l e R s m args below meth c D A nL Q cells slots ws L pc (.int y :: .int x :: st) :=
  fun H locs ls hP hD hS hl => lv_icmp_lt cx.1 cx.2.1 d ht (fun h => kt h H locs ls hP hD hS hl) (fun h => kf h H locs ls hP hD hS hl)

theorem J_icmp_ge (cx : CX p l s m args meth c own cc ret nL D g A) {x y : Int32} {off : Int} {tgt : Nat} (d : decode cc pc = .ok (.if_icmp .ge off, 3)) (ht : (pc : Int) + off = (tgt : Int)) (kt : y ≤ x → J p l e R s m args below meth c D A nL Q cells slots ws L tgt st) (kf : ¬ y ≤ x → J p l e R s m args below meth c D A nL Q cells slots ws L (pc + 3) st) : J p l e R s m args below meth c D A nL Q cells slots ws L pc (.int y :: .int x :: st) :=
  fun H locs ls hP hD hS hl => lv_icmp_ge cx.1 cx.2.1 d ht (fun h => kt h H locs ls hP hD hS hl) (fun h => kf h H locs ls hP hD hS hl)

theorem J_icmp_gt (cx : CX p l s m args meth c own cc ret nL D g A) {x y : Int32} {off : Int} {tgt : Nat} (d : decode cc pc = .ok (.if_icmp .gt off, 3)) (ht : (pc : Int) + off = (tgt : Int)) (kt : y < x → J p l e R s m args below meth c D A nL Q cells slots ws L tgt st) (kf : ¬ y < x → J p l e R s m args below meth c D A nL Q cells slots ws L (pc + 3) st) : J p l e R s m args below meth c D A nL Q cells slots ws L pc (.int y :: .int x :: st) :=
  fun H locs ls hP hD hS hl => lv_icmp_gt cx.1 cx.2.1 d ht (fun h => kt h H locs ls hP hD hS hl) (fun h => kf h H locs ls hP hD hS hl)

theorem J_icmp_le (cx : CX p l s m args meth c own cc ret nL D g A) {x y : Int32} {off : Int} {tgt : Nat} (d : decode cc pc = .ok (.if_icmp .le off, 3)) (ht : (pc : Int) + off = (tgt : Int)) (kt : x ≤ y → J p l e R s m args below meth c D A nL Q cells slots ws L tgt st) (kf : ¬ x ≤ y → J p l e R s m args below meth c D A nL Q cells slots ws L (pc + 3) st) : J p l e R s m args below meth c D A nL Q cells slots ws L pc (.int y :: .int x :: st) :=
  fun H locs ls hP hD hS hl => lv_icmp_le cx.1 cx.2.1 d ht (fun h => kt h H locs ls hP hD hS hl) (fun h => kf h H locs ls hP hD hS hl)

theorem J_acmp_eq (cx : CX p l s m args meth c own cc ret nL D g A) {rx ry : Option Nat} {off : Int} {tgt : Nat} (d : decode cc pc = .ok (.if_acmp .eq off, 3)) (ht : (pc : Int) + off = (tgt : Int)) (kt : rx = ry → J p l e R s m args below meth c D A nL Q cells slots ws L tgt st) (kf : ¬ rx = ry → J p l e R s m args below meth c D A nL Q cells slots ws L (pc + 3) st) : J p l e R s m args below meth c D A nL Q cells slots ws L pc (va_rf ry :: va_rf rx :: st) :=
  fun H locs ls hP hD hS hl => lv_acmp_eq cx.1 cx.2.1 d ht (fun h => kt h H locs ls hP hD hS hl) (fun h => kf h H locs ls hP hD hS hl)

theorem J_acmp_ne (cx : CX p l s m args meth c own cc ret nL D g A) {rx ry : Option Nat} {off : Int} {tgt : Nat} (d : decode cc pc = .ok (.if_acmp .ne off, 3)) (ht : (pc : Int) + off = (tgt : Int)) (kt : ¬ rx = ry → J p l e R s m args below meth c D A nL Q cells slots ws L tgt st) (kf : rx = ry → J p l e R s m args below meth c D A nL Q cells slots ws L (pc + 3) st) : J p l e R s m args below meth c D A nL Q cells slots ws L pc (va_rf ry :: va_rf rx :: st) :=
  fun H locs ls hP hD hS hl => lv_acmp_ne cx.1 cx.2.1 d ht (fun h => kt h H locs ls hP hD hS hl) (fun h => kf h H locs ls hP hD hS hl)

theorem J_ifnull (cx : CX p l s m args meth c own cc ret nL D g A) {r : Option Nat} {off : Int} {tgt : Nat} (d : decode cc pc = .ok (.ifnull off, 3)) (ht : (pc : Int) + off = (tgt : Int)) (kt : r = none → J p l e R s m args below meth c D A nL Q cells slots ws L tgt st) (kf : ∀ x, r = some x → J p l e R s m args below meth c D A nL Q cells slots ws L (pc + 3) st) : J p l e R s m args below meth c D A nL Q cells slots ws L pc (va_rf r :: st) := by
  cases r with
  | none => exact fun H locs ls hP hD hS hl => lv_ifnullN cx.1 cx.2.1 d ht (kt rfl H locs ls hP hD hS hl)
  | some x => exact fun H locs ls hP hD hS hl => lv_ifnull cx.1 cx.2.1 d (kf x rfl H locs ls hP hD hS hl)
theorem J_ifnonnull (cx : CX p l s m args meth c own cc ret nL D g A) {r : Option Nat} {off : Int} {tgt : Nat} (d : decode cc pc = .ok (.ifnonnull off, 3)) (ht : (pc : Int) + off = (tgt : Int)) (kt : ∀ x, r = some x → J p l e R s m args below meth c D A nL Q cells slots ws L tgt st) (kf : r = none → J p l e R s m args below meth c D A nL Q cells slots ws L (pc + 3) st) : J p l e R s m args below meth c D A nL Q cells slots ws L pc (va_rf r :: st) := by
  cases r with
  | none => exact fun H locs ls hP hD hS hl => lv_ifnonnullN cx.1 cx.2.1 d (kf rfl H locs ls hP hD hS hl)
  | some x => exact fun H locs ls hP hD hS hl => lv_ifnonnull cx.1 cx.2.1 d ht (kt x rfl H locs ls hP hD hS hl)

theorem J_ifz_eq (cx : CX p l s m args meth c own cc ret nL D g A) {b : Bool} {off : Int} {tgt : Nat} (d : decode cc pc = .ok (.ifCond .eq off, 3)) (ht : (pc : Int) + off = (tgt : Int)) (kt : b = false → J p l e R s m args below meth c D A nL Q cells slots ws L tgt st) (kf : b = true → J p l e R s m args below meth c D A nL Q cells slots ws L (pc + 3) st) : J p l e R s m args below meth c D A nL Q cells slots ws L pc (.int (zb b) :: st) :=
  J_if_eq cx d ht (fun h => kt ((zb_eq0 b).mp h)) (fun h => kf (by rw [zb_eq0] at h; simpa using h))

theorem J_ifz_ne (cx : CX p l s m args meth c own cc ret nL D g A) {b : Bool} {off : Int} {tgt : Nat} (d : decode cc pc = .ok (.ifCond .ne off, 3)) (ht : (pc : Int) + off = (tgt : Int)) (kt : b = true → J p l e R s m args below meth c D A nL Q cells slots ws L tgt st) (kf : b = false → J p l e R s m args below meth c D A nL Q cells slots ws L (pc + 3) st) : J p l e R s m args below meth c D A nL Q cells slots ws L pc (.int (zb b) :: st) :=
  J_if_ne cx d ht (fun h => kt (by rw [zb_eq0] at h; simpa using h)) (fun h => kf ((zb_eq0 b).mp h))

theorem J_top {v v' : Value} (h : v = v') (kk : J p l e R s m args below meth c D A nL Q cells slots ws L pc (v' :: st)) : J p l e R s m args below meth c D A nL Q cells slots ws L pc (v :: st) := h ▸ kk
theorem J_Le {L' : List (Nat × Value)} (h : L = L') (kk : J p l e R s m args below meth c D A nL Q cells slots ws L' pc st) : J p l e R s m args below meth c D A nL Q cells slots ws L pc st := h ▸ kk
theorem J_ws {ws' : va_W} (h : ws = ws') (kk : J p l e R s m args below meth c D A nL Q cells slots ws' L pc st) : J p l e R s m args below meth c D A nL Q cells slots ws L pc st := h ▸ kk
theorem J_L {L' : List (Nat × Value)} (ks : List Nat) (h : lv_pick L ks = L') (kk : J p l e R s m args below meth c D A nL Q cells slots ws L' pc st) : J p l e R s m args below meth c D A nL Q cells slots ws L pc st := fun H locs ls hP hD hS hl => kk H locs ls hP hD hS (lv_sub hl ks h)
theorem J_widen {k n : Nat} (h1 : cells ≤ k) (h2 : slots ≤ n) (kk : J p l e R s m args below meth c D A nL Q k n ws L pc st) : J p l e R s m args below meth c D A nL Q cells slots ws L pc st := fun H locs ls hP hD hS hl => W.widen h1 h2 (kk H locs ls hP hD hS hl)
/-- the world in another order, or less of it -/
theorem J_wsub {ws' : va_W} (hP' : ∀ H, va_P D vwCl ws H → va_P D vwCl ws' H) (hD' : va_D A ws → va_D A ws') (kk : J p l e R s m args below meth c D A nL Q cells slots ws' L pc st) : J p l e R s m args below meth c D A nL Q cells slots ws L pc st := fun H locs ls hP hD hS hl => kk H locs ls (hP' H hP) (hD' hD) hS hl
/-- what the world's addresses tell -/
theorem J_apart (kk : va_D A ws → J p l e R s m args below meth c D A nL Q cells slots ws L pc st) : J p l e R s m args below meth c D A nL Q cells slots ws L pc st := fun H locs ls hP hD hS hl => kk hD H locs ls hP hD hS hl

theorem J_get (cx : CX p l s m args meth c own cc ret nL D g A) {C : String} {T : u_T} {N ci index k a : Nat} {fs : List Value} {v : Value} (gf : GF own index ci k C T N) (q0 : Nat) (he : ws[q0]? = some (a, .inr (ci, fs))) (hv : fs[k]? = some v) (d : decode cc pc = .ok (.getfield index, 3)) (kk : J p l e R s m args below meth c D A nL Q cells slots ws L (pc + 3) (v :: st)) : J p l e R s m args below meth c D A nL Q cells slots ws L pc (.ref a :: st) :=
  fun H locs ls hP hD hS hl => va_get cx.1 cx.2.1 cx.2.2.2.2.2.1 gf.1 cx.2.2.2.2.1 cx.2.2.2.2.2.2.2.1 hP q0 he gf.2.1 k gf.2.2.2 (cx.2.2.2.2.2.1 _ gf.2.2.1) (fun _ h => h) hv d (kk H locs ls hP hD hS hl)

theorem J_put (cx : CX p l s m args meth c own cc ret nL D g A) {C : String} {T : u_T} {N ci index k a : Nat} {fs : List Value} {v : Value} {ty0 : Nat → FieldType} {ty : FieldType} {ws' : va_W} (gf : GF own index ci k C T N) (pf : PF T N k ty0 ty) (hfin : (T k).2.2.2 = false) (q0 : Nat) (he : ws[q0]? = some (a, .inr (ci, fs))) (hn : narrow ty v = v) (hfit : fits ty v = true) (hl : k < fs.length) (hw : ws.set q0 (a, .inr (ci, fs.set k v)) = ws') (d : decode cc pc = .ok (.putfield index, 3)) (kk : J p l e R s m args below meth c D A nL Q cells slots ws' L (pc + 3) st) : J p l e R s m args below meth c D A nL Q cells slots ws L pc (v :: .ref a :: st) :=
  fun H locs ls hP hD hS hl_1 => va_put cx.1 cx.2.1 cx.2.2.2.2.2.1 gf.1 ty0 pf.1 pf.2.1 cx.2.2.2.2.1 cx.2.2.2.2.2.2.2.1 hP hD hS q0 he gf.2.1 k gf.2.2.2 (cx.2.2.2.2.2.1 _ gf.2.2.1) (fun _ h => h) hfin pf.2.2 hn hfit hl d (fun H1 locs1 hP1 hD1 hS1 => kk H1 locs1 ls (hw ▸ hP1) (hw ▸ hD1) hS1 hl_1)

theorem J_putF (cx : CX p l s m args meth c own cc ret nL D g A) {C : String} {T : u_T} {N ci index k a : Nat} {fs : List Value} {v : Value} {ty0 : Nat → FieldType} {ty : FieldType} {ws' : va_W} (gf : GF own index ci k C T N) (pf : PF T N k ty0 ty) (hfin : (T k).2.2.2 = true) (hin2 : meth.name = "<init>") (hdecl : (T k).1 = own) (q0 : Nat) (he : ws[q0]? = some (a, .inr (ci, fs))) (hn : narrow ty v = v) (hfit : fits ty v = true) (hl : k < fs.length) (hw : ws.set q0 (a, .inr (ci, fs.set k v)) = ws') (d : decode cc pc = .ok (.putfield index, 3)) (kk : J p l e R s m args below meth c D A nL Q cells slots ws' L (pc + 3) st) : J p l e R s m args below meth c D A nL Q cells slots ws L pc (v :: .ref a :: st) :=
  fun H locs ls hP hD hS hl_1 => va_putF cx.1 cx.2.1 cx.2.2.2.2.2.1 gf.1 ty0 pf.1 pf.2.1 cx.2.2.2.2.1 cx.2.2.2.2.2.2.2.1 hP hD hS q0 he gf.2.1 k gf.2.2.2 (cx.2.2.2.2.2.1 _ gf.2.2.1) (fun _ h => h) hfin hin2 hdecl pf.2.2 hn hfit hl d (fun H1 locs1 hP1 hD1 hS1 => kk H1 locs1 ls (hw ▸ hP1) (hw ▸ hD1) hS1 hl_1)

theorem J_iald (cx : CX p l s m args meth c own cc ret nL D g A) {a n j : Nat} {f : Nat → Int32} {i : Int32} (q0 : Nat) (he : ws[q0]? = some (a, .inl (g 0, n, .inl f))) (hi : i = nI j) (hj : j < n) (hn : n < 2 ^ 31) (d : decode cc pc = .ok (.iaload, 1)) (kk : J p l e R s m args below meth c D A nL Q cells slots ws L (pc + 1) (.int (f j) :: st)) : J p l e R s m args below meth c D A nL Q cells slots ws L pc (.int i :: .ref a :: st) := by
  subst hi
  intro H locs ls hP hD hS hl
  refine va_iald cx.1 cx.2.1 cx.2.2.2.2.2.2.2.1 hP q0 0 he rfl (vp_in_nI hj hn) d ?_
  rw [nI_clamp (Nat.lt_trans hj hn)]
  exact kk H locs ls hP hD hS hl

theorem J_lald (cx : CX p l s m args meth c own cc ret nL D g A) {a n j : Nat} {f : Nat → Int64} {i : Int32} (q0 : Nat) (he : ws[q0]? = some (a, .inl (g 1, n, .inr (.inl f)))) (hi : i = nI j) (hj : j < n) (hn : n < 2 ^ 31) (d : decode cc pc = .ok (.laload, 1)) (kk : J p l e R s m args below meth c D A nL Q cells slots ws L (pc + 1) (.long (f j) :: st)) : J p l e R s m args below meth c D A nL Q cells slots ws L pc (.int i :: .ref a :: st) := by
  subst hi
  intro H locs ls hP hD hS hl
  refine va_lald cx.1 cx.2.1 cx.2.2.2.2.2.2.2.1 hP q0 1 he rfl (vp_in_nI hj hn) d ?_
  rw [nI_clamp (Nat.lt_trans hj hn)]
  exact kk H locs ls hP hD hS hl

theorem J_zald (cx : CX p l s m args meth c own cc ret nL D g A) {a n j : Nat} {f : Nat → Int32} {i : Int32} (q0 : Nat) (he : ws[q0]? = some (a, .inl (g 2, n, .inl f))) (hi : i = nI j) (hj : j < n) (hn : n < 2 ^ 31) (d : decode cc pc = .ok (.baload, 1)) (kk : J p l e R s m args below meth c D A nL Q cells slots ws L (pc + 1) (.int (f j) :: st)) : J p l e R s m args below meth c D A nL Q cells slots ws L pc (.int i :: .ref a :: st) := by
  subst hi
  intro H locs ls hP hD hS hl
  refine va_zald cx.1 cx.2.1 cx.2.2.2.2.2.2.2.1 hP q0 2 he rfl (vp_in_nI hj hn) d ?_
  rw [nI_clamp (Nat.lt_trans hj hn)]
  exact kk H locs ls hP hD hS hl

theorem J_aald (cx : CX p l s m args meth c own cc ret nL D g A) {a n j : Nat} {f : Nat → Option Nat} {i : Int32} (q0 : Nat) (he : ws[q0]? = some (a, .inl (g 3, n, .inr (.inr (.inr (.inr f)))))) (hi : i = nI j) (hj : j < n) (hn : n < 2 ^ 31) (d : decode cc pc = .ok (.aaload, 1)) (kk : J p l e R s m args below meth c D A nL Q cells slots ws L (pc + 1) (va_rf (f j) :: st)) : J p l e R s m args below meth c D A nL Q cells slots ws L pc (.int i :: .ref a :: st) := by
  subst hi
  intro H locs ls hP hD hS hl
  refine va_aldq (C := "Certhold$Certificate") cx.1 cx.2.1 cx.2.2.2.2.2.2.2.1 hP q0 3 he rfl (vp_in_nI hj hn) d ?_
  rw [nI_clamp (Nat.lt_trans hj hn)]
  exact kk H locs ls hP hD hS hl

theorem J_alen (cx : CX p l s m args meth c own cc ret nL D g A) {a : Nat} {t0 : Nat} {cA : ClassId} {x : vp_A} {ty : FieldType} {v : Int32} (q0 : Nat) (he : ws[q0]? = some (a, .inl (cA, x))) (ht : (tysA g)[t0]? = some (cA, ty)) (hv : Int32.ofNat x.1 = v) (d : decode cc pc = .ok (.arraylength, 1)) (kk : J p l e R s m args below meth c D A nL Q cells slots ws L (pc + 1) (.int v :: st)) : J p l e R s m args below meth c D A nL Q cells slots ws L pc (.ref a :: st) :=
  fun H locs ls hP hD hS hl => va_alen cx.1 cx.2.1 cx.2.2.2.2.2.2.2.1 hP q0 t0 he ht hv d (kk H locs ls hP hD hS hl)

theorem J_iret (cx : CX p l s m args meth c own cc ret nL D g A) {mc ms : Nat} {S : Type} {W' : S → va_W} {post : Int32 → S → Prop} (hr : ret = some .int) {v : Int32} {u : S} (hp : post v u) (hw : ws = W' u) (hc : cells ≤ mc) (hs : slots ≤ ms) (d : decode cc pc = .ok (.ireturn, 1)) : J p l e R s m args below meth c D A nL (MQ below (va_Qi post (fun u => PO D A (W' u)) A) args s mc ms A) cells slots ws L pc [.int v] := by
  intro H locs ls hP hD hS hl
  subst hw
  refine W.widen hc hs ?_
  exact W.iret cx.1 cx.2.1 (cx.2.2.1.trans hr) (fun t ht hW => ⟨⟨v, u, rfl, hp, ⟨by rw [ht]; exact hP, hD⟩⟩, hS.F ht⟩) hS.2.2 d cx.2.2.2.2.2.2.1

theorem J_zret (cx : CX p l s m args meth c own cc ret nL D g A) {mc ms : Nat} {S : Type} {W' : S → va_W} {post : Int32 → S → Prop} {ty : FieldType} (hr : ret = some ty) {v : Int32} {u : S} (hn : narrow ty (.int v) = .int v) (hp : post v u) (hw : ws = W' u) (hc : cells ≤ mc) (hs : slots ≤ ms) (d : decode cc pc = .ok (.ireturn, 1)) : J p l e R s m args below meth c D A nL (MQ below (va_Qi post (fun u => PO D A (W' u)) A) args s mc ms A) cells slots ws L pc [.int v] := by
  intro H locs ls hP hD hS hl
  subst hw
  refine W.widen hc hs ?_
  exact W.zret cx.1 cx.2.1 (cx.2.2.1.trans hr) hn (fun t ht hW => ⟨⟨v, u, rfl, hp, ⟨by rw [ht]; exact hP, hD⟩⟩, hS.F ht⟩) hS.2.2 d cx.2.2.2.2.2.2.1

theorem J_lret (cx : CX p l s m args meth c own cc ret nL D g A) {mc ms : Nat} {S : Type} {W' : S → va_W} {post : Int64 → S → Prop} (hr : ret = some .long) {v : Int64} {u : S} (hp : post v u) (hw : ws = W' u) (hc : cells ≤ mc) (hs : slots ≤ ms) (d : decode cc pc = .ok (.lreturn, 1)) : J p l e R s m args below meth c D A nL (MQ below (va_Ql post (fun u => PO D A (W' u)) A) args s mc ms A) cells slots ws L pc [.long v] := by
  intro H locs ls hP hD hS hl
  subst hw
  refine W.widen hc hs ?_
  exact W.lret cx.1 cx.2.1 (cx.2.2.1.trans hr) (fun t ht hW => ⟨⟨v, u, rfl, hp, ⟨by rw [ht]; exact hP, hD⟩⟩, hS.F ht⟩) hS.2.2 d cx.2.2.2.2.2.2.1

theorem J_fret (cx : CX p l s m args meth c own cc ret nL D g A) {mc ms : Nat} {S : Type} {W' : S → va_W} {post : UInt32 → S → Prop} (hr : ret = some .float) {v : UInt32} {u : S} (hp : post v u) (hw : ws = W' u) (hc : cells ≤ mc) (hs : slots ≤ ms) (d : decode cc pc = .ok (.freturn, 1)) : J p l e R s m args below meth c D A nL (MQ below (va_Qf post (fun u => PO D A (W' u)) A) args s mc ms A) cells slots ws L pc [.float v] := by
  intro H locs ls hP hD hS hl
  subst hw
  refine W.widen hc hs ?_
  exact W.fret cx.1 cx.2.1 (cx.2.2.1.trans hr) (fun t ht hW => ⟨⟨v, u, rfl, hp, ⟨by rw [ht]; exact hP, hD⟩⟩, hS.F ht⟩) hS.2.2 d cx.2.2.2.2.2.2.1

theorem J_dret (cx : CX p l s m args meth c own cc ret nL D g A) {mc ms : Nat} {S : Type} {W' : S → va_W} {post : UInt64 → S → Prop} (hr : ret = some .double) {v : UInt64} {u : S} (hp : post v u) (hw : ws = W' u) (hc : cells ≤ mc) (hs : slots ≤ ms) (d : decode cc pc = .ok (.dreturn, 1)) : J p l e R s m args below meth c D A nL (MQ below (va_Qd post (fun u => PO D A (W' u)) A) args s mc ms A) cells slots ws L pc [.double v] := by
  intro H locs ls hP hD hS hl
  subst hw
  refine W.widen hc hs ?_
  exact W.dret cx.1 cx.2.1 (cx.2.2.1.trans hr) (fun t ht hW => ⟨⟨v, u, rfl, hp, ⟨by rw [ht]; exact hP, hD⟩⟩, hS.F ht⟩) hS.2.2 d cx.2.2.2.2.2.2.1

theorem J_vret (cx : CX p l s m args meth c own cc ret nL D g A) {mc ms : Nat} {S : Type} {W' : S → va_W} {post : S → Prop} (hr : ret = none) {u : S} (hp : post u) (hw : ws = W' u) (hc : cells ≤ mc) (hs : slots ≤ ms) (d : decode cc pc = .ok (.return_, 1)) : J p l e R s m args below meth c D A nL (MQ below (va_Qv post (fun u => PO D A (W' u)) A) args s mc ms A) cells slots ws L pc [] := by
  intro H locs ls hP hD hS hl
  subst hw
  refine W.widen hc hs ?_
  exact W.vret cx.1 cx.2.1 (cx.2.2.1.trans hr) (fun t ht hW => ⟨⟨u, rfl, hp, ⟨by rw [ht]; exact hP, hD⟩⟩, hS.F ht⟩) hS.2.2 d cx.2.2.2.2.2.2.1

theorem J_qret (cx : CX p l s m args meth c own cc ret nL D g A) {mc ms : Nat} {S : Type} {W' : S → va_W} {post : Option Nat → S → Prop} {cn : String} (hr : ret = some (.object cn)) {v : Option Nat} {u : S} (hp : post v u) (hw : ws = W' u) (hc : cells ≤ mc) (hs : slots ≤ ms) (d : decode cc pc = .ok (.areturn, 1)) : J p l e R s m args below meth c D A nL (MQ below (va_Qq post (fun u => PO D A (W' u)) A) args s mc ms A) cells slots ws L pc [va_rf v] := by
  intro H locs ls hP hD hS hl
  subst hw
  refine W.widen hc hs ?_
  exact W.aret cx.1 cx.2.1 (cx.2.2.1.trans hr) (Or.inl ⟨cn, rfl⟩) (va_rf_or v) (fun t ht hW => ⟨⟨v, u, rfl, hp, ⟨by rw [ht]; exact hP, hD⟩⟩, hS.F ht⟩) hS.2.2 d cx.2.2.2.2.2.2.1

theorem J_rret (cx : CX p l s m args meth c own cc ret nL D g A) {mc ms : Nat} {S : Type} {W' : S → Nat → va_W} {post : S → Prop} {cn : String} (hr : ret = some (.object cn)) {v : Nat} {u : S} (hp : post u) (hw : ws = W' u v) (hc : cells ≤ mc) (hs : slots ≤ ms) (d : decode cc pc = .ok (.areturn, 1)) : J p l e R s m args below meth c D A nL (MQ below (va_Qr post (fun u v => PO D A (W' u v)) A) args s mc ms A) cells slots ws L pc [.ref v] := by
  intro H locs ls hP hD hS hl
  subst hw
  refine W.widen hc hs ?_
  exact W.aret cx.1 cx.2.1 (cx.2.2.1.trans hr) (Or.inl ⟨cn, rfl⟩) (Or.inr ⟨v, rfl⟩) (fun t ht hW => ⟨⟨u, v, rfl, hp, ⟨by rw [ht]; exact hP, hD⟩⟩, hS.F ht⟩) hS.2.2 d cx.2.2.2.2.2.2.1

theorem J_x {Qc : Array Value → State → Outcome → State → Prop} {XC : String → State → State → Prop} {mc ms : Nat} (kk : J p l e R s m args below meth c D A nL (MQ below Qc args s mc ms A) cells slots ws L pc st) : J p l e R s m args below meth c D A nL (vx_MQ below Qc XC args s mc ms A) cells slots ws L pc st := fun H locs ls hP hD hS hl => vx_ret (kk H locs ls hP hD hS hl)

theorem J_callVi (cx : CX p l s m args meth c own cc ret nL D g A) {idx maxL n mc ms : Nat} {y : MethodName} {bytes : ByteArray} {retc : Option FieldType} {b : Nat} (kw : VW own idx y bytes maxL retc n) {rm : Room} {As st0 : List Value} {S : Type} {post : Int32 → S → Prop} {W' : S → va_W} (hM : Met l y (wsA y bytes maxL retc) rm (va_Pc (.ref b :: As) (PRE D g A ws)) (va_Qi post (fun u => PO D A (W' u)) A) mc ms A) (hrm : rm.cells = mc ∧ rm.slots = ms ∧ rm.frames + 1 ≤ R.frames ∧ 8 + (maxL + 11) + rm.locals ≤ R.locals) (hf : cells + mc ≤ R.cells ∧ slots + ms ≤ R.slots) (hn : As.length = n) (q0 : Nat) {ci N : Nat} {fs : List Value} {T : u_T} (he : ws[q0]? = some (b, .inr (ci, fs))) (hc : vwCl[ci]? = some (y.cls, T, N)) (hst : st0 = As.reverse ++ .ref b :: st) (hcat : (st.map fun v => v.category).sum ≤ 8) (d : decode cc pc = .ok (.invokevirtual idx, 3)) (kk : ∀ (r : Int32) (u : S), post r u → J p l e R s m args below meth c D A nL Q (cells + mc) (slots + ms) (W' u) L (pc + 3) (.int r :: st)) : J p l e R s m args below meth c D A nL Q cells slots ws L pc st0 := by
  intro H locs ls hP hD hS hl
  subst hst
  exact va_calli (va_runV (C := y.cls) (As := As) (rest := st) ⟨cx.1, cx.2.1, cx.2.2.2.1, cx.2.2.2.2.1, cx.2.2.2.2.2.1⟩ hM ⟨callB_of n cx.2.2.2.2.2.1 (gA kw.2.2.2.2.1) rfl hrm.1 hrm.2.1 (cx.2.2.2.2.2.1 _ kw.2.2.2.1) (cx.2.2.2.2.2.1 _ kw.1) kw.2.2.2.2.2 ⟨hrm.2.2.1, hrm.2.2.2⟩, cx.2.2.2.2.2.1 _ kw.2.1, cx.2.2.2.2.2.1 _ kw.2.2.1⟩ ⟨PRE.fblind, va_recv cx.2.2.2.2.2.2.2.1 hP hc he, fun U hU hW => ⟨rfl, by rw [hU]; exact hP, va_K.moved hW.alike cx.2.2.2.2.2.2.2.1, hD, fun q hq => cx.2.2.2.2.2.2.2.2.1 q (Nat.le_trans hS.1 (by rw [← hU]; exact hq)), cx.2.2.2.2.2.2.2.2.2.moved hS hU hW⟩⟩ rfl hn hl.1 rfl (lv_room hcat) d hf) hS (fun _ _ h => h) (fun _ h => h) (fun r u t H1 locs1 ht hvm hw hB _ _ hS1 => kk r u hw H1 locs1 ls (ht ▸ hB.1) hB.2 hS1 hl)

theorem J_callVl (cx : CX p l s m args meth c own cc ret nL D g A) {idx maxL n mc ms : Nat} {y : MethodName} {bytes : ByteArray} {retc : Option FieldType} {b : Nat} (kw : VW own idx y bytes maxL retc n) {rm : Room} {As st0 : List Value} {S : Type} {post : Int64 → S → Prop} {W' : S → va_W} (hM : Met l y (wsA y bytes maxL retc) rm (va_Pc (.ref b :: As) (PRE D g A ws)) (va_Ql post (fun u => PO D A (W' u)) A) mc ms A) (hrm : rm.cells = mc ∧ rm.slots = ms ∧ rm.frames + 1 ≤ R.frames ∧ 8 + (maxL + 11) + rm.locals ≤ R.locals) (hf : cells + mc ≤ R.cells ∧ slots + ms ≤ R.slots) (hn : As.length = n) (q0 : Nat) {ci N : Nat} {fs : List Value} {T : u_T} (he : ws[q0]? = some (b, .inr (ci, fs))) (hc : vwCl[ci]? = some (y.cls, T, N)) (hst : st0 = As.reverse ++ .ref b :: st) (hcat : (st.map fun v => v.category).sum ≤ 8) (d : decode cc pc = .ok (.invokevirtual idx, 3)) (kk : ∀ (r : Int64) (u : S), post r u → J p l e R s m args below meth c D A nL Q (cells + mc) (slots + ms) (W' u) L (pc + 3) (.long r :: st)) : J p l e R s m args below meth c D A nL Q cells slots ws L pc st0 := by
  intro H locs ls hP hD hS hl
  subst hst
  exact va_calll (va_runV (C := y.cls) (As := As) (rest := st) ⟨cx.1, cx.2.1, cx.2.2.2.1, cx.2.2.2.2.1, cx.2.2.2.2.2.1⟩ hM ⟨callB_of n cx.2.2.2.2.2.1 (gA kw.2.2.2.2.1) rfl hrm.1 hrm.2.1 (cx.2.2.2.2.2.1 _ kw.2.2.2.1) (cx.2.2.2.2.2.1 _ kw.1) kw.2.2.2.2.2 ⟨hrm.2.2.1, hrm.2.2.2⟩, cx.2.2.2.2.2.1 _ kw.2.1, cx.2.2.2.2.2.1 _ kw.2.2.1⟩ ⟨PRE.fblind, va_recv cx.2.2.2.2.2.2.2.1 hP hc he, fun U hU hW => ⟨rfl, by rw [hU]; exact hP, va_K.moved hW.alike cx.2.2.2.2.2.2.2.1, hD, fun q hq => cx.2.2.2.2.2.2.2.2.1 q (Nat.le_trans hS.1 (by rw [← hU]; exact hq)), cx.2.2.2.2.2.2.2.2.2.moved hS hU hW⟩⟩ rfl hn hl.1 rfl (lv_room hcat) d hf) hS (fun _ _ h => h) (fun _ h => h) (fun r u t H1 locs1 ht hvm hw hB _ _ hS1 => kk r u hw H1 locs1 ls (ht ▸ hB.1) hB.2 hS1 hl)

theorem J_callVf (cx : CX p l s m args meth c own cc ret nL D g A) {idx maxL n mc ms : Nat} {y : MethodName} {bytes : ByteArray} {retc : Option FieldType} {b : Nat} (kw : VW own idx y bytes maxL retc n) {rm : Room} {As st0 : List Value} {S : Type} {post : UInt32 → S → Prop} {W' : S → va_W} (hM : Met l y (wsA y bytes maxL retc) rm (va_Pc (.ref b :: As) (PRE D g A ws)) (va_Qf post (fun u => PO D A (W' u)) A) mc ms A) (hrm : rm.cells = mc ∧ rm.slots = ms ∧ rm.frames + 1 ≤ R.frames ∧ 8 + (maxL + 11) + rm.locals ≤ R.locals) (hf : cells + mc ≤ R.cells ∧ slots + ms ≤ R.slots) (hn : As.length = n) (q0 : Nat) {ci N : Nat} {fs : List Value} {T : u_T} (he : ws[q0]? = some (b, .inr (ci, fs))) (hc : vwCl[ci]? = some (y.cls, T, N)) (hst : st0 = As.reverse ++ .ref b :: st) (hcat : (st.map fun v => v.category).sum ≤ 8) (d : decode cc pc = .ok (.invokevirtual idx, 3)) (kk : ∀ (r : UInt32) (u : S), post r u → J p l e R s m args below meth c D A nL Q (cells + mc) (slots + ms) (W' u) L (pc + 3) (.float r :: st)) : J p l e R s m args below meth c D A nL Q cells slots ws L pc st0 := by
  intro H locs ls hP hD hS hl
  subst hst
  exact va_callf (va_runV (C := y.cls) (As := As) (rest := st) ⟨cx.1, cx.2.1, cx.2.2.2.1, cx.2.2.2.2.1, cx.2.2.2.2.2.1⟩ hM ⟨callB_of n cx.2.2.2.2.2.1 (gA kw.2.2.2.2.1) rfl hrm.1 hrm.2.1 (cx.2.2.2.2.2.1 _ kw.2.2.2.1) (cx.2.2.2.2.2.1 _ kw.1) kw.2.2.2.2.2 ⟨hrm.2.2.1, hrm.2.2.2⟩, cx.2.2.2.2.2.1 _ kw.2.1, cx.2.2.2.2.2.1 _ kw.2.2.1⟩ ⟨PRE.fblind, va_recv cx.2.2.2.2.2.2.2.1 hP hc he, fun U hU hW => ⟨rfl, by rw [hU]; exact hP, va_K.moved hW.alike cx.2.2.2.2.2.2.2.1, hD, fun q hq => cx.2.2.2.2.2.2.2.2.1 q (Nat.le_trans hS.1 (by rw [← hU]; exact hq)), cx.2.2.2.2.2.2.2.2.2.moved hS hU hW⟩⟩ rfl hn hl.1 rfl (lv_room hcat) d hf) hS (fun _ _ h => h) (fun _ h => h) (fun r u t H1 locs1 ht hvm hw hB _ _ hS1 => kk r u hw H1 locs1 ls (ht ▸ hB.1) hB.2 hS1 hl)

theorem J_callVd (cx : CX p l s m args meth c own cc ret nL D g A) {idx maxL n mc ms : Nat} {y : MethodName} {bytes : ByteArray} {retc : Option FieldType} {b : Nat} (kw : VW own idx y bytes maxL retc n) {rm : Room} {As st0 : List Value} {S : Type} {post : UInt64 → S → Prop} {W' : S → va_W} (hM : Met l y (wsA y bytes maxL retc) rm (va_Pc (.ref b :: As) (PRE D g A ws)) (va_Qd post (fun u => PO D A (W' u)) A) mc ms A) (hrm : rm.cells = mc ∧ rm.slots = ms ∧ rm.frames + 1 ≤ R.frames ∧ 8 + (maxL + 11) + rm.locals ≤ R.locals) (hf : cells + mc ≤ R.cells ∧ slots + ms ≤ R.slots) (hn : As.length = n) (q0 : Nat) {ci N : Nat} {fs : List Value} {T : u_T} (he : ws[q0]? = some (b, .inr (ci, fs))) (hc : vwCl[ci]? = some (y.cls, T, N)) (hst : st0 = As.reverse ++ .ref b :: st) (hcat : (st.map fun v => v.category).sum ≤ 8) (d : decode cc pc = .ok (.invokevirtual idx, 3)) (kk : ∀ (r : UInt64) (u : S), post r u → J p l e R s m args below meth c D A nL Q (cells + mc) (slots + ms) (W' u) L (pc + 3) (.double r :: st)) : J p l e R s m args below meth c D A nL Q cells slots ws L pc st0 := by
  intro H locs ls hP hD hS hl
  subst hst
  exact va_calld (va_runV (C := y.cls) (As := As) (rest := st) ⟨cx.1, cx.2.1, cx.2.2.2.1, cx.2.2.2.2.1, cx.2.2.2.2.2.1⟩ hM ⟨callB_of n cx.2.2.2.2.2.1 (gA kw.2.2.2.2.1) rfl hrm.1 hrm.2.1 (cx.2.2.2.2.2.1 _ kw.2.2.2.1) (cx.2.2.2.2.2.1 _ kw.1) kw.2.2.2.2.2 ⟨hrm.2.2.1, hrm.2.2.2⟩, cx.2.2.2.2.2.1 _ kw.2.1, cx.2.2.2.2.2.1 _ kw.2.2.1⟩ ⟨PRE.fblind, va_recv cx.2.2.2.2.2.2.2.1 hP hc he, fun U hU hW => ⟨rfl, by rw [hU]; exact hP, va_K.moved hW.alike cx.2.2.2.2.2.2.2.1, hD, fun q hq => cx.2.2.2.2.2.2.2.2.1 q (Nat.le_trans hS.1 (by rw [← hU]; exact hq)), cx.2.2.2.2.2.2.2.2.2.moved hS hU hW⟩⟩ rfl hn hl.1 rfl (lv_room hcat) d hf) hS (fun _ _ h => h) (fun _ h => h) (fun r u t H1 locs1 ht hvm hw hB _ _ hS1 => kk r u hw H1 locs1 ls (ht ▸ hB.1) hB.2 hS1 hl)

theorem J_callVv (cx : CX p l s m args meth c own cc ret nL D g A) {idx maxL n mc ms : Nat} {y : MethodName} {bytes : ByteArray} {retc : Option FieldType} {b : Nat} (kw : VW own idx y bytes maxL retc n) {rm : Room} {As st0 : List Value} {S : Type} {post : S → Prop} {W' : S → va_W} (hM : Met l y (wsA y bytes maxL retc) rm (va_Pc (.ref b :: As) (PRE D g A ws)) (va_Qv post (fun u => PO D A (W' u)) A) mc ms A) (hrm : rm.cells = mc ∧ rm.slots = ms ∧ rm.frames + 1 ≤ R.frames ∧ 8 + (maxL + 11) + rm.locals ≤ R.locals) (hf : cells + mc ≤ R.cells ∧ slots + ms ≤ R.slots) (hn : As.length = n) (q0 : Nat) {ci N : Nat} {fs : List Value} {T : u_T} (he : ws[q0]? = some (b, .inr (ci, fs))) (hc : vwCl[ci]? = some (y.cls, T, N)) (hst : st0 = As.reverse ++ .ref b :: st) (hcat : (st.map fun v => v.category).sum ≤ 8) (d : decode cc pc = .ok (.invokevirtual idx, 3)) (kk : ∀ (u : S), post u → J p l e R s m args below meth c D A nL Q (cells + mc) (slots + ms) (W' u) L (pc + 3) st) : J p l e R s m args below meth c D A nL Q cells slots ws L pc st0 := by
  intro H locs ls hP hD hS hl
  subst hst
  exact va_callv (va_runV (C := y.cls) (As := As) (rest := st) ⟨cx.1, cx.2.1, cx.2.2.2.1, cx.2.2.2.2.1, cx.2.2.2.2.2.1⟩ hM ⟨callB_of n cx.2.2.2.2.2.1 (gA kw.2.2.2.2.1) rfl hrm.1 hrm.2.1 (cx.2.2.2.2.2.1 _ kw.2.2.2.1) (cx.2.2.2.2.2.1 _ kw.1) kw.2.2.2.2.2 ⟨hrm.2.2.1, hrm.2.2.2⟩, cx.2.2.2.2.2.1 _ kw.2.1, cx.2.2.2.2.2.1 _ kw.2.2.1⟩ ⟨PRE.fblind, va_recv cx.2.2.2.2.2.2.2.1 hP hc he, fun U hU hW => ⟨rfl, by rw [hU]; exact hP, va_K.moved hW.alike cx.2.2.2.2.2.2.2.1, hD, fun q hq => cx.2.2.2.2.2.2.2.2.1 q (Nat.le_trans hS.1 (by rw [← hU]; exact hq)), cx.2.2.2.2.2.2.2.2.2.moved hS hU hW⟩⟩ rfl hn hl.1 rfl (lv_room hcat) d hf) hS (fun _ _ h => h) (fun _ h => h) (fun u t H1 locs1 ht hvm hw hB _ _ hS1 => kk u hw H1 locs1 ls (ht ▸ hB.1) hB.2 hS1 hl)

theorem J_callVq (cx : CX p l s m args meth c own cc ret nL D g A) {idx maxL n mc ms : Nat} {y : MethodName} {bytes : ByteArray} {retc : Option FieldType} {b : Nat} (kw : VW own idx y bytes maxL retc n) {rm : Room} {As st0 : List Value} {S : Type} {post : Option Nat → S → Prop} {W' : S → va_W} (hM : Met l y (wsA y bytes maxL retc) rm (va_Pc (.ref b :: As) (PRE D g A ws)) (va_Qq post (fun u => PO D A (W' u)) A) mc ms A) (hrm : rm.cells = mc ∧ rm.slots = ms ∧ rm.frames + 1 ≤ R.frames ∧ 8 + (maxL + 11) + rm.locals ≤ R.locals) (hf : cells + mc ≤ R.cells ∧ slots + ms ≤ R.slots) (hn : As.length = n) (q0 : Nat) {ci N : Nat} {fs : List Value} {T : u_T} (he : ws[q0]? = some (b, .inr (ci, fs))) (hc : vwCl[ci]? = some (y.cls, T, N)) (hst : st0 = As.reverse ++ .ref b :: st) (hcat : (st.map fun v => v.category).sum ≤ 8) (d : decode cc pc = .ok (.invokevirtual idx, 3)) (kk : ∀ (r : Option Nat) (u : S), post r u → J p l e R s m args below meth c D A nL Q (cells + mc) (slots + ms) (W' u) L (pc + 3) (va_rf r :: st)) : J p l e R s m args below meth c D A nL Q cells slots ws L pc st0 := by
  intro H locs ls hP hD hS hl
  subst hst
  exact va_callq (va_runV (C := y.cls) (As := As) (rest := st) ⟨cx.1, cx.2.1, cx.2.2.2.1, cx.2.2.2.2.1, cx.2.2.2.2.2.1⟩ hM ⟨callB_of n cx.2.2.2.2.2.1 (gA kw.2.2.2.2.1) rfl hrm.1 hrm.2.1 (cx.2.2.2.2.2.1 _ kw.2.2.2.1) (cx.2.2.2.2.2.1 _ kw.1) kw.2.2.2.2.2 ⟨hrm.2.2.1, hrm.2.2.2⟩, cx.2.2.2.2.2.1 _ kw.2.1, cx.2.2.2.2.2.1 _ kw.2.2.1⟩ ⟨PRE.fblind, va_recv cx.2.2.2.2.2.2.2.1 hP hc he, fun U hU hW => ⟨rfl, by rw [hU]; exact hP, va_K.moved hW.alike cx.2.2.2.2.2.2.2.1, hD, fun q hq => cx.2.2.2.2.2.2.2.2.1 q (Nat.le_trans hS.1 (by rw [← hU]; exact hq)), cx.2.2.2.2.2.2.2.2.2.moved hS hU hW⟩⟩ rfl hn hl.1 rfl (lv_room hcat) d hf) hS (fun _ _ h => h) (fun _ h => h) (fun r u t H1 locs1 ht hvm hw hB _ _ hS1 => kk r u hw H1 locs1 ls (ht ▸ hB.1) hB.2 hS1 hl)

theorem J_callVr (cx : CX p l s m args meth c own cc ret nL D g A) {idx maxL n mc ms : Nat} {y : MethodName} {bytes : ByteArray} {retc : Option FieldType} {b : Nat} (kw : VW own idx y bytes maxL retc n) {rm : Room} {As st0 : List Value} {S : Type} {post : S → Prop} {W' : S → Nat → va_W} (hM : Met l y (wsA y bytes maxL retc) rm (va_Pc (.ref b :: As) (PRE D g A ws)) (va_Qr post (fun u r => PO D A (W' u r)) A) mc ms A) (hrm : rm.cells = mc ∧ rm.slots = ms ∧ rm.frames + 1 ≤ R.frames ∧ 8 + (maxL + 11) + rm.locals ≤ R.locals) (hf : cells + mc ≤ R.cells ∧ slots + ms ≤ R.slots) (hn : As.length = n) (q0 : Nat) {ci N : Nat} {fs : List Value} {T : u_T} (he : ws[q0]? = some (b, .inr (ci, fs))) (hc : vwCl[ci]? = some (y.cls, T, N)) (hst : st0 = As.reverse ++ .ref b :: st) (hcat : (st.map fun v => v.category).sum ≤ 8) (d : decode cc pc = .ok (.invokevirtual idx, 3)) (kk : ∀ (u : S) (r : Nat), post u → J p l e R s m args below meth c D A nL Q (cells + mc) (slots + ms) (W' u r) L (pc + 3) (.ref r :: st)) : J p l e R s m args below meth c D A nL Q cells slots ws L pc st0 := by
  intro H locs ls hP hD hS hl
  subst hst
  exact va_callr (va_runV (C := y.cls) (As := As) (rest := st) ⟨cx.1, cx.2.1, cx.2.2.2.1, cx.2.2.2.2.1, cx.2.2.2.2.2.1⟩ hM ⟨callB_of n cx.2.2.2.2.2.1 (gA kw.2.2.2.2.1) rfl hrm.1 hrm.2.1 (cx.2.2.2.2.2.1 _ kw.2.2.2.1) (cx.2.2.2.2.2.1 _ kw.1) kw.2.2.2.2.2 ⟨hrm.2.2.1, hrm.2.2.2⟩, cx.2.2.2.2.2.1 _ kw.2.1, cx.2.2.2.2.2.1 _ kw.2.2.1⟩ ⟨PRE.fblind, va_recv cx.2.2.2.2.2.2.2.1 hP hc he, fun U hU hW => ⟨rfl, by rw [hU]; exact hP, va_K.moved hW.alike cx.2.2.2.2.2.2.2.1, hD, fun q hq => cx.2.2.2.2.2.2.2.2.1 q (Nat.le_trans hS.1 (by rw [← hU]; exact hq)), cx.2.2.2.2.2.2.2.2.2.moved hS hU hW⟩⟩ rfl hn hl.1 rfl (lv_room hcat) d hf) hS (fun _ _ h => h) (fun _ h => h) (fun u r t H1 locs1 ht hvm hw hB _ _ hS1 => kk u r hw H1 locs1 ls (ht ▸ hB.1) hB.2 hS1 hl)

theorem J_callSi (cx : CX p l s m args meth c own cc ret nL D g A) {idx maxL n mc ms : Nat} {y : MethodName} {bytes : ByteArray} {retc : Option FieldType} (kw : SW own idx y bytes maxL retc n) {rm : Room} {As st0 : List Value} {S : Type} {post : Int32 → S → Prop} {W' : S → va_W} (hM : Met l y (wsA y bytes maxL retc) rm (va_Pc As (PRE D g A ws)) (va_Qi post (fun u => PO D A (W' u)) A) mc ms A) (hrm : rm.cells = mc ∧ rm.slots = ms ∧ rm.frames + 1 ≤ R.frames ∧ 8 + (maxL + 11) + rm.locals ≤ R.locals) (hf : cells + mc ≤ R.cells ∧ slots + ms ≤ R.slots) (hn : As.length = n)  (hst : st0 = As.reverse ++ st) (hcat : (st.map fun v => v.category).sum ≤ 8) (d : decode cc pc = .ok (.invokestatic idx, 3)) (kk : ∀ (r : Int32) (u : S), post r u → J p l e R s m args below meth c D A nL Q (cells + mc) (slots + ms) (W' u) L (pc + 3) (.int r :: st)) : J p l e R s m args below meth c D A nL Q cells slots ws L pc st0 := by
  intro H locs ls hP hD hS hl
  subst hst
  exact va_calli (va_runS (As := As) (rest := st) ⟨cx.1, cx.2.1, cx.2.2.2.1, cx.2.2.2.2.1, cx.2.2.2.2.2.1⟩ hM ⟨callB_of n cx.2.2.2.2.2.1 (gA kw.2.2.2.1) rfl hrm.1 hrm.2.1 (cx.2.2.2.2.2.1 _ kw.2.2.1) (cx.2.2.2.2.2.1 _ kw.1) kw.2.2.2.2 ⟨hrm.2.2.1, hrm.2.2.2⟩, cx.2.2.2.2.2.1 _ kw.2.1⟩ ⟨PRE.fblind, fun U hU hW => ⟨rfl, by rw [hU]; exact hP, va_K.moved hW.alike cx.2.2.2.2.2.2.2.1, hD, fun q hq => cx.2.2.2.2.2.2.2.2.1 q (Nat.le_trans hS.1 (by rw [← hU]; exact hq)), cx.2.2.2.2.2.2.2.2.2.moved hS hU hW⟩⟩ rfl hn hl.1 rfl (lv_room hcat) d hf) hS (fun _ _ h => h) (fun _ h => h) (fun r u t H1 locs1 ht hvm hw hB _ _ hS1 => kk r u hw H1 locs1 ls (ht ▸ hB.1) hB.2 hS1 hl)

theorem J_callSl (cx : CX p l s m args meth c own cc ret nL D g A) {idx maxL n mc ms : Nat} {y : MethodName} {bytes : ByteArray} {retc : Option FieldType} (kw : SW own idx y bytes maxL retc n) {rm : Room} {As st0 : List Value} {S : Type} {post : Int64 → S → Prop} {W' : S → va_W} (hM : Met l y (wsA y bytes maxL retc) rm (va_Pc As (PRE D g A ws)) (va_Ql post (fun u => PO D A (W' u)) A) mc ms A) (hrm : rm.cells = mc ∧ rm.slots = ms ∧ rm.frames + 1 ≤ R.frames ∧ 8 + (maxL + 11) + rm.locals ≤ R.locals) (hf : cells + mc ≤ R.cells ∧ slots + ms ≤ R.slots) (hn : As.length = n)  (hst : st0 = As.reverse ++ st) (hcat : (st.map fun v => v.category).sum ≤ 8) (d : decode cc pc = .ok (.invokestatic idx, 3)) (kk : ∀ (r : Int64) (u : S), post r u → J p l e R s m args below meth c D A nL Q (cells + mc) (slots + ms) (W' u) L (pc + 3) (.long r :: st)) : J p l e R s m args below meth c D A nL Q cells slots ws L pc st0 := by
  intro H locs ls hP hD hS hl
  subst hst
  exact va_calll (va_runS (As := As) (rest := st) ⟨cx.1, cx.2.1, cx.2.2.2.1, cx.2.2.2.2.1, cx.2.2.2.2.2.1⟩ hM ⟨callB_of n cx.2.2.2.2.2.1 (gA kw.2.2.2.1) rfl hrm.1 hrm.2.1 (cx.2.2.2.2.2.1 _ kw.2.2.1) (cx.2.2.2.2.2.1 _ kw.1) kw.2.2.2.2 ⟨hrm.2.2.1, hrm.2.2.2⟩, cx.2.2.2.2.2.1 _ kw.2.1⟩ ⟨PRE.fblind, fun U hU hW => ⟨rfl, by rw [hU]; exact hP, va_K.moved hW.alike cx.2.2.2.2.2.2.2.1, hD, fun q hq => cx.2.2.2.2.2.2.2.2.1 q (Nat.le_trans hS.1 (by rw [← hU]; exact hq)), cx.2.2.2.2.2.2.2.2.2.moved hS hU hW⟩⟩ rfl hn hl.1 rfl (lv_room hcat) d hf) hS (fun _ _ h => h) (fun _ h => h) (fun r u t H1 locs1 ht hvm hw hB _ _ hS1 => kk r u hw H1 locs1 ls (ht ▸ hB.1) hB.2 hS1 hl)

theorem J_callSv (cx : CX p l s m args meth c own cc ret nL D g A) {idx maxL n mc ms : Nat} {y : MethodName} {bytes : ByteArray} {retc : Option FieldType} (kw : SW own idx y bytes maxL retc n) {rm : Room} {As st0 : List Value} {S : Type} {post : S → Prop} {W' : S → va_W} (hM : Met l y (wsA y bytes maxL retc) rm (va_Pc As (PRE D g A ws)) (va_Qv post (fun u => PO D A (W' u)) A) mc ms A) (hrm : rm.cells = mc ∧ rm.slots = ms ∧ rm.frames + 1 ≤ R.frames ∧ 8 + (maxL + 11) + rm.locals ≤ R.locals) (hf : cells + mc ≤ R.cells ∧ slots + ms ≤ R.slots) (hn : As.length = n)  (hst : st0 = As.reverse ++ st) (hcat : (st.map fun v => v.category).sum ≤ 8) (d : decode cc pc = .ok (.invokestatic idx, 3)) (kk : ∀ (u : S), post u → J p l e R s m args below meth c D A nL Q (cells + mc) (slots + ms) (W' u) L (pc + 3) st) : J p l e R s m args below meth c D A nL Q cells slots ws L pc st0 := by
  intro H locs ls hP hD hS hl
  subst hst
  exact va_callv (va_runS (As := As) (rest := st) ⟨cx.1, cx.2.1, cx.2.2.2.1, cx.2.2.2.2.1, cx.2.2.2.2.2.1⟩ hM ⟨callB_of n cx.2.2.2.2.2.1 (gA kw.2.2.2.1) rfl hrm.1 hrm.2.1 (cx.2.2.2.2.2.1 _ kw.2.2.1) (cx.2.2.2.2.2.1 _ kw.1) kw.2.2.2.2 ⟨hrm.2.2.1, hrm.2.2.2⟩, cx.2.2.2.2.2.1 _ kw.2.1⟩ ⟨PRE.fblind, fun U hU hW => ⟨rfl, by rw [hU]; exact hP, va_K.moved hW.alike cx.2.2.2.2.2.2.2.1, hD, fun q hq => cx.2.2.2.2.2.2.2.2.1 q (Nat.le_trans hS.1 (by rw [← hU]; exact hq)), cx.2.2.2.2.2.2.2.2.2.moved hS hU hW⟩⟩ rfl hn hl.1 rfl (lv_room hcat) d hf) hS (fun _ _ h => h) (fun _ h => h) (fun u t H1 locs1 ht hvm hw hB _ _ hS1 => kk u hw H1 locs1 ls (ht ▸ hB.1) hB.2 hS1 hl)

theorem J_callCv (cx : CX p l s m args meth c own cc ret nL D g A) {idx maxL n mc ms : Nat} {y : MethodName} {bytes : ByteArray} {b : Nat} (kw : CW own idx y bytes maxL n) {rm : Room} {As st0 : List Value} {S : Type} {post : S → Prop} {W' : S → va_W} (hM : Met l y (wsA y bytes maxL none) rm (va_Pc (.ref b :: As) (PRE D g A ws)) (va_Qv post (fun u => PO D A (W' u)) A) mc ms A) (hrm : rm.cells = mc ∧ rm.slots = ms ∧ rm.frames + 1 ≤ R.frames ∧ 8 + (maxL + 11) + rm.locals ≤ R.locals) (hf : cells + mc ≤ R.cells ∧ slots + ms ≤ R.slots) (hn : As.length = n)  (hst : st0 = As.reverse ++ .ref b :: st) (hcat : (st.map fun v => v.category).sum ≤ 8) (d : decode cc pc = .ok (.invokespecial idx, 3)) (kk : ∀ (u : S), post u → J p l e R s m args below meth c D A nL Q (cells + mc) (slots + ms) (W' u) L (pc + 3) st) : J p l e R s m args below meth c D A nL Q cells slots ws L pc st0 := by
  intro H locs ls hP hD hS hl
  subst hst
  exact va_callv (va_runI (As := As) (rest := st) ⟨cx.1, cx.2.1, cx.2.2.2.1, cx.2.2.2.2.1, cx.2.2.2.2.2.1⟩ hM ⟨callB_of n cx.2.2.2.2.2.1 (gA kw.2.2.2.1) rfl hrm.1 hrm.2.1 (cx.2.2.2.2.2.1 _ kw.2.2.1) (cx.2.2.2.2.2.1 _ kw.1) kw.2.2.2.2.1 ⟨hrm.2.2.1, hrm.2.2.2⟩, kw.2.2.2.2.2, cx.2.2.2.2.2.1 _ kw.2.1⟩ ⟨PRE.fblind, fun U hU hW => ⟨rfl, by rw [hU]; exact hP, va_K.moved hW.alike cx.2.2.2.2.2.2.2.1, hD, fun q hq => cx.2.2.2.2.2.2.2.2.1 q (Nat.le_trans hS.1 (by rw [← hU]; exact hq)), cx.2.2.2.2.2.2.2.2.2.moved hS hU hW⟩⟩ rfl hn hl.1 rfl (lv_room hcat) d hf) hS (fun _ _ h => h) (fun _ h => h) (fun u t H1 locs1 ht hvm hw hB _ _ hS1 => kk u hw H1 locs1 ls (ht ▸ hB.1) hB.2 hS1 hl)

theorem J_callNi (cx : CX p l s m args meth c own cc ret nL D g A) {idx maxL n mc ms : Nat} {y : MethodName} {bytes : ByteArray} {retc : Option FieldType} {host : String} (kw : NW own idx y host bytes maxL retc n) {rm : Room} {As st0 : List Value} {S : Type} {post : Int32 → S → Prop} {W' : S → va_W} (hM : Met l y (wsA y bytes maxL retc) rm (va_Pc As (PRE D g A ws)) (va_Qi post (fun u => PO D A (W' u)) A) mc ms A) (hrm : rm.cells = mc ∧ rm.slots = ms ∧ rm.frames + 1 ≤ R.frames ∧ 8 + (maxL + 11) + rm.locals ≤ R.locals) (hf : cells + mc ≤ R.cells ∧ slots + ms ≤ R.slots) (hn : As.length = n)  (hst : st0 = As.reverse ++ st) (hcat : (st.map fun v => v.category).sum ≤ 8) (d : decode cc pc = .ok (.invokestatic idx, 3)) (kk : ∀ (r : Int32) (u : S), post r u → J p l e R s m args below meth c D A nL Q (cells + mc) (slots + ms) (W' u) L (pc + 3) (.int r :: st)) : J p l e R s m args below meth c D A nL Q cells slots ws L pc st0 := by
  intro H locs ls hP hD hS hl
  subst hst
  exact va_calli (va_runSN (As := As) (rest := st) ⟨cx.1, cx.2.1, cx.2.2.2.1, cx.2.2.2.2.1, cx.2.2.2.2.2.1⟩ hM ⟨va_cnB (ws' := wAll) n cx.2.2.2.2.2.1 (gA kw.2.2.2.1) rfl hrm.1 hrm.2.1 (cx.2.2.2.2.2.2.2.2.2.2.2.2.2.1 _ kw.1 rfl) (cx.2.2.2.2.2.1 _ kw.2.2.1) kw.2.2.2.2 ⟨hrm.2.2.1, hrm.2.2.2⟩, cx.2.2.2.2.2.1 _ kw.2.1, trivial⟩ ⟨PRE.fblind, fun U hU hW => ⟨rfl, by rw [hU]; exact hP, va_K.moved hW.alike cx.2.2.2.2.2.2.2.1, hD, fun q hq => cx.2.2.2.2.2.2.2.2.1 q (Nat.le_trans hS.1 (by rw [← hU]; exact hq)), cx.2.2.2.2.2.2.2.2.2.moved hS hU hW⟩⟩ rfl hn hl.1 rfl (lv_room hcat) d hf) hS (fun _ _ h => h) (fun _ h => h) (fun r u t H1 locs1 ht hvm hw hB _ _ hS1 => kk r u hw H1 locs1 ls (ht ▸ hB.1) hB.2 hS1 hl)

theorem J_callNl (cx : CX p l s m args meth c own cc ret nL D g A) {idx maxL n mc ms : Nat} {y : MethodName} {bytes : ByteArray} {retc : Option FieldType} {host : String} (kw : NW own idx y host bytes maxL retc n) {rm : Room} {As st0 : List Value} {S : Type} {post : Int64 → S → Prop} {W' : S → va_W} (hM : Met l y (wsA y bytes maxL retc) rm (va_Pc As (PRE D g A ws)) (va_Ql post (fun u => PO D A (W' u)) A) mc ms A) (hrm : rm.cells = mc ∧ rm.slots = ms ∧ rm.frames + 1 ≤ R.frames ∧ 8 + (maxL + 11) + rm.locals ≤ R.locals) (hf : cells + mc ≤ R.cells ∧ slots + ms ≤ R.slots) (hn : As.length = n)  (hst : st0 = As.reverse ++ st) (hcat : (st.map fun v => v.category).sum ≤ 8) (d : decode cc pc = .ok (.invokestatic idx, 3)) (kk : ∀ (r : Int64) (u : S), post r u → J p l e R s m args below meth c D A nL Q (cells + mc) (slots + ms) (W' u) L (pc + 3) (.long r :: st)) : J p l e R s m args below meth c D A nL Q cells slots ws L pc st0 := by
  intro H locs ls hP hD hS hl
  subst hst
  exact va_calll (va_runSN (As := As) (rest := st) ⟨cx.1, cx.2.1, cx.2.2.2.1, cx.2.2.2.2.1, cx.2.2.2.2.2.1⟩ hM ⟨va_cnB (ws' := wAll) n cx.2.2.2.2.2.1 (gA kw.2.2.2.1) rfl hrm.1 hrm.2.1 (cx.2.2.2.2.2.2.2.2.2.2.2.2.2.1 _ kw.1 rfl) (cx.2.2.2.2.2.1 _ kw.2.2.1) kw.2.2.2.2 ⟨hrm.2.2.1, hrm.2.2.2⟩, cx.2.2.2.2.2.1 _ kw.2.1, trivial⟩ ⟨PRE.fblind, fun U hU hW => ⟨rfl, by rw [hU]; exact hP, va_K.moved hW.alike cx.2.2.2.2.2.2.2.1, hD, fun q hq => cx.2.2.2.2.2.2.2.2.1 q (Nat.le_trans hS.1 (by rw [← hU]; exact hq)), cx.2.2.2.2.2.2.2.2.2.moved hS hU hW⟩⟩ rfl hn hl.1 rfl (lv_room hcat) d hf) hS (fun _ _ h => h) (fun _ h => h) (fun r u t H1 locs1 ht hvm hw hB _ _ hS1 => kk r u hw H1 locs1 ls (ht ▸ hB.1) hB.2 hS1 hl)

/-- where a method has thrown: the class fits, the world is as it was -/
def XQ (XP : String → Prop) (D : va_G) (A : Nat → Prop) (wsx : va_W) : String → State → State → Prop := vx_X (S := Unit) (fun _ => True) (fun E _ t => XP E ∧ PO D A wsx t) A

theorem vx_callq {mc ms : Nat} {free : Addr → Prop} {A0 A1 : Nat → Prop} {H0 : Heap} {a : Array Value} {H : Heap} {locs : List Loc} {ls : Array Slot} {st0 rest : List Value} {S SX : Type} {post : Option Nat → S → Prop} {px : SX → Prop} {B : S → State → Prop} {BX : String → SX → State → Prop} {AX : Nat → Prop} (hr : vx_Run p l e R s m args below meth c H locs cells slots mc ms (F0 m pc ls st0) rest (va_Qq post B A1 a) (vx_X px BX AX) free) (hS : va_S A0 H0 H locs) (hA : ∀ q, q < H.size → A1 q → A0 q) (hf : ∀ q, free q → A0 q) (hAX : ∀ q, q < H.size → AX q → A0 q)
    (kx : ∀ (E : String) (ce : Cell) (q9 : Addr) (u : SX) (t : State) (H1 : Heap) (locs1 : List Loc), t.heap = H1 → s.vm.Alike t.vm → px u → BX E u t → H.size ≤ H1.size → (∀ q : Nat, q < H.size → ¬ AX q → H1[q]? = H[q]?) → va_S A0 H0 H1 locs1 → H1[q9]? = some ce → ce.vm = .none → s.vm.findClass E = some ce.cls → vx_W p l e R s m args below meth c H1 locs1 (cells + mc) (slots + ms) Q (F0 m pc ls rest) q9)
    (kk : ∀ (r : Option Nat) (u : S) (t : State) (H1 : Heap) (locs1 : List Loc), t.heap = H1 → s.vm.Alike t.vm → post r u → B u t → H.size ≤ H1.size → (∀ q : Nat, q < H.size → ¬ A1 q → H1[q]? = H[q]?) → va_S A0 H0 H1 locs1 → W p l e R s m args below meth c H1 locs1 (cells + mc) (slots + ms) Q (F0 m (pc + 3) ls (va_rf r :: rest))) : W p l e R s m args below meth c H locs cells slots Q (F0 m pc ls st0) := by
  intro T hT X
  rcases hr T hT X with ⟨v, st₀, t, T', L, h0, X', hL, e1, e2, ⟨⟨r, u, hv, hp, hb⟩, hF⟩, st⟩ | ⟨q, st₀, t, T', L, E, ce, h0, X', hL, e1, e2, ⟨u, hp, hb, hF⟩, hce, hcv, hcl, st⟩
  · cases hv
    obtain ⟨k1, k2, k3⟩ := vx_keep h0 e1 hS hA hf hL hF
    obtain ⟨t2, a1, b1⟩ := kk r u t T'.heap (locs ++ L) e1.symm (by rw [← e2]; exact X'.warmed.alike) hp hb k1 k2 k3 T' rfl X'
    exact ⟨t2, st t2 a1, b1⟩
  · obtain ⟨k1, k2, k3⟩ := vx_keep h0 e1 hS hAX hf hL hF
    obtain ⟨t2, a1, b1⟩ := kx E ce q u t T'.heap (locs ++ L) e1.symm (by rw [← e2]; exact X'.warmed.alike) hp hb k1 k2 k3 (by rw [e1]; exact hce) hcv hcl T' rfl X'
    exact ⟨t2, st.trans a1, b1⟩

theorem vx_callr {mc ms : Nat} {free : Addr → Prop} {A0 A1 : Nat → Prop} {H0 : Heap} {a : Array Value} {H : Heap} {locs : List Loc} {ls : Array Slot} {st0 rest : List Value} {S SX : Type} {post : S → Prop} {px : SX → Prop} {B : S → Nat → State → Prop} {BX : String → SX → State → Prop} {AX : Nat → Prop} (hr : vx_Run p l e R s m args below meth c H locs cells slots mc ms (F0 m pc ls st0) rest (va_Qr post B A1 a) (vx_X px BX AX) free) (hS : va_S A0 H0 H locs) (hA : ∀ q, q < H.size → A1 q → A0 q) (hf : ∀ q, free q → A0 q) (hAX : ∀ q, q < H.size → AX q → A0 q)
    (kx : ∀ (E : String) (ce : Cell) (q9 : Addr) (u : SX) (t : State) (H1 : Heap) (locs1 : List Loc), t.heap = H1 → s.vm.Alike t.vm → px u → BX E u t → H.size ≤ H1.size → (∀ q : Nat, q < H.size → ¬ AX q → H1[q]? = H[q]?) → va_S A0 H0 H1 locs1 → H1[q9]? = some ce → ce.vm = .none → s.vm.findClass E = some ce.cls → vx_W p l e R s m args below meth c H1 locs1 (cells + mc) (slots + ms) Q (F0 m pc ls rest) q9)
    (kk : ∀ (u : S) (r : Nat) (t : State) (H1 : Heap) (locs1 : List Loc), t.heap = H1 → s.vm.Alike t.vm → post u → B u r t → H.size ≤ H1.size → (∀ q : Nat, q < H.size → ¬ A1 q → H1[q]? = H[q]?) → va_S A0 H0 H1 locs1 → W p l e R s m args below meth c H1 locs1 (cells + mc) (slots + ms) Q (F0 m (pc + 3) ls (.ref r :: rest))) : W p l e R s m args below meth c H locs cells slots Q (F0 m pc ls st0) := by
  intro T hT X
  rcases hr T hT X with ⟨v, st₀, t, T', L, h0, X', hL, e1, e2, ⟨⟨u, r, hv, hp, hb⟩, hF⟩, st⟩ | ⟨q, st₀, t, T', L, E, ce, h0, X', hL, e1, e2, ⟨u, hp, hb, hF⟩, hce, hcv, hcl, st⟩
  · cases hv
    obtain ⟨k1, k2, k3⟩ := vx_keep h0 e1 hS hA hf hL hF
    obtain ⟨t2, a1, b1⟩ := kk u r t T'.heap (locs ++ L) e1.symm (by rw [← e2]; exact X'.warmed.alike) hp hb k1 k2 k3 T' rfl X'
    exact ⟨t2, st t2 a1, b1⟩
  · obtain ⟨k1, k2, k3⟩ := vx_keep h0 e1 hS hAX hf hL hF
    obtain ⟨t2, a1, b1⟩ := kx E ce q u t T'.heap (locs ++ L) e1.symm (by rw [← e2]; exact X'.warmed.alike) hp hb k1 k2 k3 (by rw [e1]; exact hce) hcv hcl T' rfl X'
    exact ⟨t2, st.trans a1, b1⟩

theorem J_xcallVi (cx : CX p l s m args meth c own cc ret nL D g A) (hex : ∀ x ∈ c.exceptionTable.toList, False) {idx maxL n mc ms mc0 ms0 : Nat} {y : MethodName} {bytes : ByteArray} {retc : Option FieldType} {b : Nat} (kw : VW own idx y bytes maxL retc n) {rm : Room} {As st0 : List Value} {S : Type} {post : Int32 → S → Prop} {W' : S → va_W} {XP XP' : String → Prop} {wsx : va_W} {Qc : Array Value → State → Outcome → State → Prop} (hM : vx_Met l y (wsA y bytes maxL retc) rm (va_Pc (.ref b :: As) (PRE D g A ws)) (va_Qi post (fun u => PO D A (W' u)) A) (XQ XP' D A wsx) mc ms A) (hX : ∀ E, XP' E → XP E) (hm0 : cells + mc ≤ mc0 ∧ slots + ms ≤ ms0) (hrm : rm.cells = mc ∧ rm.slots = ms ∧ rm.frames + 1 ≤ R.frames ∧ 8 + (maxL + 11) + rm.locals ≤ R.locals) (hf : cells + mc ≤ R.cells ∧ slots + ms ≤ R.slots) (hn : As.length = n) (q0 : Nat) {ci N : Nat} {fs : List Value} {T : u_T} (he : ws[q0]? = some (b, .inr (ci, fs))) (hc : vwCl[ci]? = some (y.cls, T, N)) (hst : st0 = As.reverse ++ .ref b :: st) (hcat : (st.map fun v => v.category).sum ≤ 8) (d : decode cc pc = .ok (.invokevirtual idx, 3)) (kk : ∀ (r : Int32) (u : S), post r u → J p l e R s m args below meth c D A nL (vx_MQ below Qc (XQ XP D A wsx) args s mc0 ms0 A) (cells + mc) (slots + ms) (W' u) L (pc + 3) (.int r :: st)) : J p l e R s m args below meth c D A nL (vx_MQ below Qc (XQ XP D A wsx) args s mc0 ms0 A) cells slots ws L pc st0 := by
  intro H locs ls hP hD hS hl
  subst hst
  exact vx_calli (vx_runV (C := y.cls) (As := As) (rest := st) ⟨cx.1, cx.2.1, cx.2.2.2.1, cx.2.2.2.2.1, cx.2.2.2.2.2.1⟩ hM ⟨callB_of n cx.2.2.2.2.2.1 (gA kw.2.2.2.2.1) rfl hrm.1 hrm.2.1 (cx.2.2.2.2.2.1 _ kw.2.2.2.1) (cx.2.2.2.2.2.1 _ kw.1) kw.2.2.2.2.2 ⟨hrm.2.2.1, hrm.2.2.2⟩, cx.2.2.2.2.2.1 _ kw.2.1, cx.2.2.2.2.2.1 _ kw.2.2.1⟩ ⟨PRE.fblind, va_recv cx.2.2.2.2.2.2.2.1 hP hc he, fun U hU hW => ⟨rfl, by rw [hU]; exact hP, va_K.moved hW.alike cx.2.2.2.2.2.2.2.1, hD, fun q hq => cx.2.2.2.2.2.2.2.2.1 q (Nat.le_trans hS.1 (by rw [← hU]; exact hq)), cx.2.2.2.2.2.2.2.2.2.moved hS hU hW⟩⟩ rfl hn hl.1 rfl (lv_room hcat) d hf) hS (fun _ _ h => h) (fun _ h => h) (fun _ _ h => h) (fun E ce q9 u t H1 locs1 ht hvm hp hB hz hk hS1 hce hcv hcl => vx_out (fun x hx => (hex x hx).elim) cx.2.2.2.2.2.2.1 hce hcv hcl (fun t' ht' _ => ⟨(), trivial, ⟨hX E hB.1, by rw [ht', ← ht]; exact hB.2.1, hB.2.2⟩, hS1.F ht'⟩) hS1.2.2 hm0.1 hm0.2) (fun r u t H1 locs1 ht hvm hw hB _ _ hS1 => kk r u hw H1 locs1 ls (ht ▸ hB.1) hB.2 hS1 hl)

theorem J_xcallVl (cx : CX p l s m args meth c own cc ret nL D g A) (hex : ∀ x ∈ c.exceptionTable.toList, False) {idx maxL n mc ms mc0 ms0 : Nat} {y : MethodName} {bytes : ByteArray} {retc : Option FieldType} {b : Nat} (kw : VW own idx y bytes maxL retc n) {rm : Room} {As st0 : List Value} {S : Type} {post : Int64 → S → Prop} {W' : S → va_W} {XP XP' : String → Prop} {wsx : va_W} {Qc : Array Value → State → Outcome → State → Prop} (hM : vx_Met l y (wsA y bytes maxL retc) rm (va_Pc (.ref b :: As) (PRE D g A ws)) (va_Ql post (fun u => PO D A (W' u)) A) (XQ XP' D A wsx) mc ms A) (hX : ∀ E, XP' E → XP E) (hm0 : cells + mc ≤ mc0 ∧ slots + ms ≤ ms0) (hrm : rm.cells = mc ∧ rm.slots = ms ∧ rm.frames + 1 ≤ R.frames ∧ 8 + (maxL + 11) + rm.locals ≤ R.locals) (hf : cells + mc ≤ R.cells ∧ slots + ms ≤ R.slots) (hn : As.length = n) (q0 : Nat) {ci N : Nat} {fs : List Value} {T : u_T} (he : ws[q0]? = some (b, .inr (ci, fs))) (hc : vwCl[ci]? = some (y.cls, T, N)) (hst : st0 = As.reverse ++ .ref b :: st) (hcat : (st.map fun v => v.category).sum ≤ 8) (d : decode cc pc = .ok (.invokevirtual idx, 3)) (kk : ∀ (r : Int64) (u : S), post r u → J p l e R s m args below meth c D A nL (vx_MQ below Qc (XQ XP D A wsx) args s mc0 ms0 A) (cells + mc) (slots + ms) (W' u) L (pc + 3) (.long r :: st)) : J p l e R s m args below meth c D A nL (vx_MQ below Qc (XQ XP D A wsx) args s mc0 ms0 A) cells slots ws L pc st0 := by
  intro H locs ls hP hD hS hl
  subst hst
  exact vx_calll (vx_runV (C := y.cls) (As := As) (rest := st) ⟨cx.1, cx.2.1, cx.2.2.2.1, cx.2.2.2.2.1, cx.2.2.2.2.2.1⟩ hM ⟨callB_of n cx.2.2.2.2.2.1 (gA kw.2.2.2.2.1) rfl hrm.1 hrm.2.1 (cx.2.2.2.2.2.1 _ kw.2.2.2.1) (cx.2.2.2.2.2.1 _ kw.1) kw.2.2.2.2.2 ⟨hrm.2.2.1, hrm.2.2.2⟩, cx.2.2.2.2.2.1 _ kw.2.1, cx.2.2.2.2.2.1 _ kw.2.2.1⟩ ⟨PRE.fblind, va_recv cx.2.2.2.2.2.2.2.1 hP hc he, fun U hU hW => ⟨rfl, by rw [hU]; exact hP, va_K.moved hW.alike cx.2.2.2.2.2.2.2.1, hD, fun q hq => cx.2.2.2.2.2.2.2.2.1 q (Nat.le_trans hS.1 (by rw [← hU]; exact hq)), cx.2.2.2.2.2.2.2.2.2.moved hS hU hW⟩⟩ rfl hn hl.1 rfl (lv_room hcat) d hf) hS (fun _ _ h => h) (fun _ h => h) (fun _ _ h => h) (fun E ce q9 u t H1 locs1 ht hvm hp hB hz hk hS1 hce hcv hcl => vx_out (fun x hx => (hex x hx).elim) cx.2.2.2.2.2.2.1 hce hcv hcl (fun t' ht' _ => ⟨(), trivial, ⟨hX E hB.1, by rw [ht', ← ht]; exact hB.2.1, hB.2.2⟩, hS1.F ht'⟩) hS1.2.2 hm0.1 hm0.2) (fun r u t H1 locs1 ht hvm hw hB _ _ hS1 => kk r u hw H1 locs1 ls (ht ▸ hB.1) hB.2 hS1 hl)

theorem J_xcallVv (cx : CX p l s m args meth c own cc ret nL D g A) (hex : ∀ x ∈ c.exceptionTable.toList, False) {idx maxL n mc ms mc0 ms0 : Nat} {y : MethodName} {bytes : ByteArray} {retc : Option FieldType} {b : Nat} (kw : VW own idx y bytes maxL retc n) {rm : Room} {As st0 : List Value} {S : Type} {post : S → Prop} {W' : S → va_W} {XP XP' : String → Prop} {wsx : va_W} {Qc : Array Value → State → Outcome → State → Prop} (hM : vx_Met l y (wsA y bytes maxL retc) rm (va_Pc (.ref b :: As) (PRE D g A ws)) (va_Qv post (fun u => PO D A (W' u)) A) (XQ XP' D A wsx) mc ms A) (hX : ∀ E, XP' E → XP E) (hm0 : cells + mc ≤ mc0 ∧ slots + ms ≤ ms0) (hrm : rm.cells = mc ∧ rm.slots = ms ∧ rm.frames + 1 ≤ R.frames ∧ 8 + (maxL + 11) + rm.locals ≤ R.locals) (hf : cells + mc ≤ R.cells ∧ slots + ms ≤ R.slots) (hn : As.length = n) (q0 : Nat) {ci N : Nat} {fs : List Value} {T : u_T} (he : ws[q0]? = some (b, .inr (ci, fs))) (hc : vwCl[ci]? = some (y.cls, T, N)) (hst : st0 = As.reverse ++ .ref b :: st) (hcat : (st.map fun v => v.category).sum ≤ 8) (d : decode cc pc = .ok (.invokevirtual idx, 3)) (kk : ∀ (u : S), post u → J p l e R s m args below meth c D A nL (vx_MQ below Qc (XQ XP D A wsx) args s mc0 ms0 A) (cells + mc) (slots + ms) (W' u) L (pc + 3) st) : J p l e R s m args below meth c D A nL (vx_MQ below Qc (XQ XP D A wsx) args s mc0 ms0 A) cells slots ws L pc st0 := by
  intro H locs ls hP hD hS hl
  subst hst
  exact vx_callv (vx_runV (C := y.cls) (As := As) (rest := st) ⟨cx.1, cx.2.1, cx.2.2.2.1, cx.2.2.2.2.1, cx.2.2.2.2.2.1⟩ hM ⟨callB_of n cx.2.2.2.2.2.1 (gA kw.2.2.2.2.1) rfl hrm.1 hrm.2.1 (cx.2.2.2.2.2.1 _ kw.2.2.2.1) (cx.2.2.2.2.2.1 _ kw.1) kw.2.2.2.2.2 ⟨hrm.2.2.1, hrm.2.2.2⟩, cx.2.2.2.2.2.1 _ kw.2.1, cx.2.2.2.2.2.1 _ kw.2.2.1⟩ ⟨PRE.fblind, va_recv cx.2.2.2.2.2.2.2.1 hP hc he, fun U hU hW => ⟨rfl, by rw [hU]; exact hP, va_K.moved hW.alike cx.2.2.2.2.2.2.2.1, hD, fun q hq => cx.2.2.2.2.2.2.2.2.1 q (Nat.le_trans hS.1 (by rw [← hU]; exact hq)), cx.2.2.2.2.2.2.2.2.2.moved hS hU hW⟩⟩ rfl hn hl.1 rfl (lv_room hcat) d hf) hS (fun _ _ h => h) (fun _ h => h) (fun _ _ h => h) (fun E ce q9 u t H1 locs1 ht hvm hp hB hz hk hS1 hce hcv hcl => vx_out (fun x hx => (hex x hx).elim) cx.2.2.2.2.2.2.1 hce hcv hcl (fun t' ht' _ => ⟨(), trivial, ⟨hX E hB.1, by rw [ht', ← ht]; exact hB.2.1, hB.2.2⟩, hS1.F ht'⟩) hS1.2.2 hm0.1 hm0.2) (fun u t H1 locs1 ht hvm hw hB _ _ hS1 => kk u hw H1 locs1 ls (ht ▸ hB.1) hB.2 hS1 hl)

theorem J_xcallVq (cx : CX p l s m args meth c own cc ret nL D g A) (hex : ∀ x ∈ c.exceptionTable.toList, False) {idx maxL n mc ms mc0 ms0 : Nat} {y : MethodName} {bytes : ByteArray} {retc : Option FieldType} {b : Nat} (kw : VW own idx y bytes maxL retc n) {rm : Room} {As st0 : List Value} {S : Type} {post : Option Nat → S → Prop} {W' : S → va_W} {XP XP' : String → Prop} {wsx : va_W} {Qc : Array Value → State → Outcome → State → Prop} (hM : vx_Met l y (wsA y bytes maxL retc) rm (va_Pc (.ref b :: As) (PRE D g A ws)) (va_Qq post (fun u => PO D A (W' u)) A) (XQ XP' D A wsx) mc ms A) (hX : ∀ E, XP' E → XP E) (hm0 : cells + mc ≤ mc0 ∧ slots + ms ≤ ms0) (hrm : rm.cells = mc ∧ rm.slots = ms ∧ rm.frames + 1 ≤ R.frames ∧ 8 + (maxL + 11) + rm.locals ≤ R.locals) (hf : cells + mc ≤ R.cells ∧ slots + ms ≤ R.slots) (hn : As.length = n) (q0 : Nat) {ci N : Nat} {fs : List Value} {T : u_T} (he : ws[q0]? = some (b, .inr (ci, fs))) (hc : vwCl[ci]? = some (y.cls, T, N)) (hst : st0 = As.reverse ++ .ref b :: st) (hcat : (st.map fun v => v.category).sum ≤ 8) (d : decode cc pc = .ok (.invokevirtual idx, 3)) (kk : ∀ (r : Option Nat) (u : S), post r u → J p l e R s m args below meth c D A nL (vx_MQ below Qc (XQ XP D A wsx) args s mc0 ms0 A) (cells + mc) (slots + ms) (W' u) L (pc + 3) (va_rf r :: st)) : J p l e R s m args below meth c D A nL (vx_MQ below Qc (XQ XP D A wsx) args s mc0 ms0 A) cells slots ws L pc st0 := by
  intro H locs ls hP hD hS hl
  subst hst
  exact vx_callq (vx_runV (C := y.cls) (As := As) (rest := st) ⟨cx.1, cx.2.1, cx.2.2.2.1, cx.2.2.2.2.1, cx.2.2.2.2.2.1⟩ hM ⟨callB_of n cx.2.2.2.2.2.1 (gA kw.2.2.2.2.1) rfl hrm.1 hrm.2.1 (cx.2.2.2.2.2.1 _ kw.2.2.2.1) (cx.2.2.2.2.2.1 _ kw.1) kw.2.2.2.2.2 ⟨hrm.2.2.1, hrm.2.2.2⟩, cx.2.2.2.2.2.1 _ kw.2.1, cx.2.2.2.2.2.1 _ kw.2.2.1⟩ ⟨PRE.fblind, va_recv cx.2.2.2.2.2.2.2.1 hP hc he, fun U hU hW => ⟨rfl, by rw [hU]; exact hP, va_K.moved hW.alike cx.2.2.2.2.2.2.2.1, hD, fun q hq => cx.2.2.2.2.2.2.2.2.1 q (Nat.le_trans hS.1 (by rw [← hU]; exact hq)), cx.2.2.2.2.2.2.2.2.2.moved hS hU hW⟩⟩ rfl hn hl.1 rfl (lv_room hcat) d hf) hS (fun _ _ h => h) (fun _ h => h) (fun _ _ h => h) (fun E ce q9 u t H1 locs1 ht hvm hp hB hz hk hS1 hce hcv hcl => vx_out (fun x hx => (hex x hx).elim) cx.2.2.2.2.2.2.1 hce hcv hcl (fun t' ht' _ => ⟨(), trivial, ⟨hX E hB.1, by rw [ht', ← ht]; exact hB.2.1, hB.2.2⟩, hS1.F ht'⟩) hS1.2.2 hm0.1 hm0.2) (fun r u t H1 locs1 ht hvm hw hB _ _ hS1 => kk r u hw H1 locs1 ls (ht ▸ hB.1) hB.2 hS1 hl)

theorem J_xcallVr (cx : CX p l s m args meth c own cc ret nL D g A) (hex : ∀ x ∈ c.exceptionTable.toList, False) {idx maxL n mc ms mc0 ms0 : Nat} {y : MethodName} {bytes : ByteArray} {retc : Option FieldType} {b : Nat} (kw : VW own idx y bytes maxL retc n) {rm : Room} {As st0 : List Value} {S : Type} {post : S → Prop} {W' : S → Nat → va_W} {XP XP' : String → Prop} {wsx : va_W} {Qc : Array Value → State → Outcome → State → Prop} (hM : vx_Met l y (wsA y bytes maxL retc) rm (va_Pc (.ref b :: As) (PRE D g A ws)) (va_Qr post (fun u r => PO D A (W' u r)) A) (XQ XP' D A wsx) mc ms A) (hX : ∀ E, XP' E → XP E) (hm0 : cells + mc ≤ mc0 ∧ slots + ms ≤ ms0) (hrm : rm.cells = mc ∧ rm.slots = ms ∧ rm.frames + 1 ≤ R.frames ∧ 8 + (maxL + 11) + rm.locals ≤ R.locals) (hf : cells + mc ≤ R.cells ∧ slots + ms ≤ R.slots) (hn : As.length = n) (q0 : Nat) {ci N : Nat} {fs : List Value} {T : u_T} (he : ws[q0]? = some (b, .inr (ci, fs))) (hc : vwCl[ci]? = some (y.cls, T, N)) (hst : st0 = As.reverse ++ .ref b :: st) (hcat : (st.map fun v => v.category).sum ≤ 8) (d : decode cc pc = .ok (.invokevirtual idx, 3)) (kk : ∀ (u : S) (r : Nat), post u → J p l e R s m args below meth c D A nL (vx_MQ below Qc (XQ XP D A wsx) args s mc0 ms0 A) (cells + mc) (slots + ms) (W' u r) L (pc + 3) (.ref r :: st)) : J p l e R s m args below meth c D A nL (vx_MQ below Qc (XQ XP D A wsx) args s mc0 ms0 A) cells slots ws L pc st0 := by
  intro H locs ls hP hD hS hl
  subst hst
  exact vx_callr (vx_runV (C := y.cls) (As := As) (rest := st) ⟨cx.1, cx.2.1, cx.2.2.2.1, cx.2.2.2.2.1, cx.2.2.2.2.2.1⟩ hM ⟨callB_of n cx.2.2.2.2.2.1 (gA kw.2.2.2.2.1) rfl hrm.1 hrm.2.1 (cx.2.2.2.2.2.1 _ kw.2.2.2.1) (cx.2.2.2.2.2.1 _ kw.1) kw.2.2.2.2.2 ⟨hrm.2.2.1, hrm.2.2.2⟩, cx.2.2.2.2.2.1 _ kw.2.1, cx.2.2.2.2.2.1 _ kw.2.2.1⟩ ⟨PRE.fblind, va_recv cx.2.2.2.2.2.2.2.1 hP hc he, fun U hU hW => ⟨rfl, by rw [hU]; exact hP, va_K.moved hW.alike cx.2.2.2.2.2.2.2.1, hD, fun q hq => cx.2.2.2.2.2.2.2.2.1 q (Nat.le_trans hS.1 (by rw [← hU]; exact hq)), cx.2.2.2.2.2.2.2.2.2.moved hS hU hW⟩⟩ rfl hn hl.1 rfl (lv_room hcat) d hf) hS (fun _ _ h => h) (fun _ h => h) (fun _ _ h => h) (fun E ce q9 u t H1 locs1 ht hvm hp hB hz hk hS1 hce hcv hcl => vx_out (fun x hx => (hex x hx).elim) cx.2.2.2.2.2.2.1 hce hcv hcl (fun t' ht' _ => ⟨(), trivial, ⟨hX E hB.1, by rw [ht', ← ht]; exact hB.2.1, hB.2.2⟩, hS1.F ht'⟩) hS1.2.2 hm0.1 hm0.2) (fun u r t H1 locs1 ht hvm hw hB _ _ hS1 => kk u r hw H1 locs1 ls (ht ▸ hB.1) hB.2 hS1 hl)

theorem J_xcallSl (cx : CX p l s m args meth c own cc ret nL D g A) (hex : ∀ x ∈ c.exceptionTable.toList, False) {idx maxL n mc ms mc0 ms0 : Nat} {y : MethodName} {bytes : ByteArray} {retc : Option FieldType} (kw : SW own idx y bytes maxL retc n) {rm : Room} {As st0 : List Value} {S : Type} {post : Int64 → S → Prop} {W' : S → va_W} {XP XP' : String → Prop} {wsx : va_W} {Qc : Array Value → State → Outcome → State → Prop} (hM : vx_Met l y (wsA y bytes maxL retc) rm (va_Pc As (PRE D g A ws)) (va_Ql post (fun u => PO D A (W' u)) A) (XQ XP' D A wsx) mc ms A) (hX : ∀ E, XP' E → XP E) (hm0 : cells + mc ≤ mc0 ∧ slots + ms ≤ ms0) (hrm : rm.cells = mc ∧ rm.slots = ms ∧ rm.frames + 1 ≤ R.frames ∧ 8 + (maxL + 11) + rm.locals ≤ R.locals) (hf : cells + mc ≤ R.cells ∧ slots + ms ≤ R.slots) (hn : As.length = n)  (hst : st0 = As.reverse ++ st) (hcat : (st.map fun v => v.category).sum ≤ 8) (d : decode cc pc = .ok (.invokestatic idx, 3)) (kk : ∀ (r : Int64) (u : S), post r u → J p l e R s m args below meth c D A nL (vx_MQ below Qc (XQ XP D A wsx) args s mc0 ms0 A) (cells + mc) (slots + ms) (W' u) L (pc + 3) (.long r :: st)) : J p l e R s m args below meth c D A nL (vx_MQ below Qc (XQ XP D A wsx) args s mc0 ms0 A) cells slots ws L pc st0 := by
  intro H locs ls hP hD hS hl
  subst hst
  exact vx_calll (vx_runS (As := As) (rest := st) ⟨cx.1, cx.2.1, cx.2.2.2.1, cx.2.2.2.2.1, cx.2.2.2.2.2.1⟩ hM ⟨callB_of n cx.2.2.2.2.2.1 (gA kw.2.2.2.1) rfl hrm.1 hrm.2.1 (cx.2.2.2.2.2.1 _ kw.2.2.1) (cx.2.2.2.2.2.1 _ kw.1) kw.2.2.2.2 ⟨hrm.2.2.1, hrm.2.2.2⟩, cx.2.2.2.2.2.1 _ kw.2.1⟩ ⟨PRE.fblind, fun U hU hW => ⟨rfl, by rw [hU]; exact hP, va_K.moved hW.alike cx.2.2.2.2.2.2.2.1, hD, fun q hq => cx.2.2.2.2.2.2.2.2.1 q (Nat.le_trans hS.1 (by rw [← hU]; exact hq)), cx.2.2.2.2.2.2.2.2.2.moved hS hU hW⟩⟩ rfl hn hl.1 rfl (lv_room hcat) d hf) hS (fun _ _ h => h) (fun _ h => h) (fun _ _ h => h) (fun E ce q9 u t H1 locs1 ht hvm hp hB hz hk hS1 hce hcv hcl => vx_out (fun x hx => (hex x hx).elim) cx.2.2.2.2.2.2.1 hce hcv hcl (fun t' ht' _ => ⟨(), trivial, ⟨hX E hB.1, by rw [ht', ← ht]; exact hB.2.1, hB.2.2⟩, hS1.F ht'⟩) hS1.2.2 hm0.1 hm0.2) (fun r u t H1 locs1 ht hvm hw hB _ _ hS1 => kk r u hw H1 locs1 ls (ht ▸ hB.1) hB.2 hS1 hl)

theorem J_xcallSv (cx : CX p l s m args meth c own cc ret nL D g A) (hex : ∀ x ∈ c.exceptionTable.toList, False) {idx maxL n mc ms mc0 ms0 : Nat} {y : MethodName} {bytes : ByteArray} {retc : Option FieldType} (kw : SW own idx y bytes maxL retc n) {rm : Room} {As st0 : List Value} {S : Type} {post : S → Prop} {W' : S → va_W} {XP XP' : String → Prop} {wsx : va_W} {Qc : Array Value → State → Outcome → State → Prop} (hM : vx_Met l y (wsA y bytes maxL retc) rm (va_Pc As (PRE D g A ws)) (va_Qv post (fun u => PO D A (W' u)) A) (XQ XP' D A wsx) mc ms A) (hX : ∀ E, XP' E → XP E) (hm0 : cells + mc ≤ mc0 ∧ slots + ms ≤ ms0) (hrm : rm.cells = mc ∧ rm.slots = ms ∧ rm.frames + 1 ≤ R.frames ∧ 8 + (maxL + 11) + rm.locals ≤ R.locals) (hf : cells + mc ≤ R.cells ∧ slots + ms ≤ R.slots) (hn : As.length = n)  (hst : st0 = As.reverse ++ st) (hcat : (st.map fun v => v.category).sum ≤ 8) (d : decode cc pc = .ok (.invokestatic idx, 3)) (kk : ∀ (u : S), post u → J p l e R s m args below meth c D A nL (vx_MQ below Qc (XQ XP D A wsx) args s mc0 ms0 A) (cells + mc) (slots + ms) (W' u) L (pc + 3) st) : J p l e R s m args below meth c D A nL (vx_MQ below Qc (XQ XP D A wsx) args s mc0 ms0 A) cells slots ws L pc st0 := by
  intro H locs ls hP hD hS hl
  subst hst
  exact vx_callv (vx_runS (As := As) (rest := st) ⟨cx.1, cx.2.1, cx.2.2.2.1, cx.2.2.2.2.1, cx.2.2.2.2.2.1⟩ hM ⟨callB_of n cx.2.2.2.2.2.1 (gA kw.2.2.2.1) rfl hrm.1 hrm.2.1 (cx.2.2.2.2.2.1 _ kw.2.2.1) (cx.2.2.2.2.2.1 _ kw.1) kw.2.2.2.2 ⟨hrm.2.2.1, hrm.2.2.2⟩, cx.2.2.2.2.2.1 _ kw.2.1⟩ ⟨PRE.fblind, fun U hU hW => ⟨rfl, by rw [hU]; exact hP, va_K.moved hW.alike cx.2.2.2.2.2.2.2.1, hD, fun q hq => cx.2.2.2.2.2.2.2.2.1 q (Nat.le_trans hS.1 (by rw [← hU]; exact hq)), cx.2.2.2.2.2.2.2.2.2.moved hS hU hW⟩⟩ rfl hn hl.1 rfl (lv_room hcat) d hf) hS (fun _ _ h => h) (fun _ h => h) (fun _ _ h => h) (fun E ce q9 u t H1 locs1 ht hvm hp hB hz hk hS1 hce hcv hcl => vx_out (fun x hx => (hex x hx).elim) cx.2.2.2.2.2.2.1 hce hcv hcl (fun t' ht' _ => ⟨(), trivial, ⟨hX E hB.1, by rw [ht', ← ht]; exact hB.2.1, hB.2.2⟩, hS1.F ht'⟩) hS1.2.2 hm0.1 hm0.2) (fun u t H1 locs1 ht hvm hw hB _ _ hS1 => kk u hw H1 locs1 ls (ht ▸ hB.1) hB.2 hS1 hl)

theorem J_new (cx : CX p l s m args meth c own cc ret nL D g A) {ci N index : Nat} {C : String} {T : u_T} {ty : Nat → FieldType} {fs : List Value} (hin : ∀ w ∈ u_ws C T N, w ∈ wAll) (hty : ∀ k, k < N → parseFieldDescriptor (T k).2.2.1 = some (ty k)) (hcl : Cond.classLink own index C ∈ wAll) (hinst : Cond.instantiable C N ∈ wAll) (hini : Cond.initialized C ∈ wAll) (hc : vwCl[ci]? = some (C, T, N)) (hfs : ∀ j, j < N → defaultValue (ty j) = vp_V fs j) (hf : cells + 1 ≤ R.cells ∧ slots + N ≤ R.slots) (d : decode cc pc = .ok (.new index, 3)) (kk : ∀ q, J p l e R s m args below meth c D A nL Q (cells + 1) (slots + N) (ws ++ [(q, .inr (ci, fs))]) L (pc + 3) (.ref q :: st)) : J p l e R s m args below meth c D A nL Q cells slots ws L pc st :=
  fun H locs ls hP hD hS hl => va_new cx.1 cx.2.1 cx.2.2.2.2.2.1 hin ty hty cx.2.2.2.2.1 (cx.2.2.2.2.2.1 _ hcl) (cx.2.2.2.2.2.1 _ hinst) (cx.2.2.2.2.2.1 _ hini) cx.2.2.2.2.2.2.2.1 hP hD hS cx.2.2.2.2.2.2.2.2.1 hc hfs hf.1 hf.2 d (fun q H1 hP1 hD1 hS1 => kk q H1 locs ls hP1 hD1 hS1 hl)

theorem J_newa (cx : CX p l s m args meth c own cc ret nL D g A) {atype : ArrayType} {ty : FieldType} (hac : Cond.arrayClass (newarray.typeOf atype) ∈ wAll) (hty : newarray.typeOf atype = ty) (t0 : Nat) {k : Nat} (ht0 : (tysA g)[t0]? = some (g k, ty)) (hno : ∀ C, ty ≠ .object C) {n : Int32} {N' : Nat} {a0 : vp_A} (ha : ∀ cA : ClassId, vp_cell cA a0 = arrV cA N' (fun _ => defaultValue ty)) (hn : ¬ n < 0) (hN : n.toNatClampNeg = N') (hbytes : N' * componentBytes ty ≤ 536870912) (hf : cells + 1 ≤ R.cells ∧ slots + N' ≤ R.slots) (d : decode cc pc = .ok (.newarray atype, 2)) (kk : ∀ q, J p l e R s m args below meth c D A nL Q (cells + 1) (slots + N') (ws ++ [(q, .inl (g k, a0))]) L (pc + 2) (.ref q :: st)) : J p l e R s m args below meth c D A nL Q cells slots ws L pc (.int n :: st) := by
  intro H locs ls hP hD hS hl
  refine va_newa cx.1 cx.2.1 (cx.2.2.2.2.2.1 _ hac) hty cx.2.2.2.2.2.2.2.1 hP hD hS cx.2.2.2.2.2.2.2.2.1 ha hn hN hbytes hf.1 hf.2 d (fun q cA H1 hK1 hP1 hD1 hS1 => ?_)
  have e1 := (hK1.2 4 (cA, ty) (by rfl)).2
  have e2 := (cx.2.2.2.2.2.2.2.1.2 t0 _ ht0).2
  have e3 : cA = g k := by
    cases ty with
    | object C => exact absurd rfl (hno C)
    | _ => exact Option.some.inj (e1.symm.trans e2)
  subst e3
  exact kk q H1 locs ls hP1 hD1 hS1 hl
theorem J_newq (cx : CX p l s m args meth c own cc ret nL D g A) {index : Nat} (hcl : Cond.classLink own index "Certhold$Certificate" ∈ wAll) {n : Int32} {N' : Nat} (hn : ¬ n < 0) (hN : n.toNatClampNeg = N') (hbytes : N' * 4 ≤ 536870912) (hf : cells + 1 ≤ R.cells ∧ slots + N' ≤ R.slots) (d : decode cc pc = .ok (.anewarray index, 3)) (kk : ∀ q, J p l e R s m args below meth c D A nL Q (cells + 1) (slots + N') (ws ++ [(q, .inl (g 3, N', .inr (.inr (.inr (.inr (fun _ => none))))))]) L (pc + 3) (.ref q :: st)) : J p l e R s m args below meth c D A nL Q cells slots ws L pc (.int n :: st) := by
  intro H locs ls hP hD hS hl
  refine va_newq cx.1 cx.2.1 cx.2.2.2.2.1 (cx.2.2.2.2.2.1 _ hcl) cx.2.2.2.2.2.2.2.2.2.2.2.2.1 cx.2.2.2.2.2.2.2.1 hP hD hS cx.2.2.2.2.2.2.2.2.1 hn hN hbytes hf.1 hf.2 d (fun q cA H1 hK1 hP1 hD1 hS1 => ?_)
  obtain ⟨_, _, -, -, -, e1⟩ := (hK1.2 4 (cA, .object "Certhold$Certificate") (by rfl)).2
  obtain ⟨_, _, -, -, -, e2⟩ := (cx.2.2.2.2.2.2.2.1.2 3 (g 3, .object "Certhold$Certificate") (by rfl)).2
  have e3 : cA = g 3 := Option.some.inj (e1.symm.trans e2)
  subst e3
  exact kk q H1 locs ls hP1 hD1 hS1 hl
theorem J_objInit (cx : CX p l s m args meth c own cc ret nL D g A) {idx a : Nat} (hw : Cond.methodLink own idx Lib.objectInit ∈ wAll) (hR : 1 ≤ R.frames ∧ (st.map fun v => v.category).sum + 12 ≤ R.locals) (d : decode cc pc = .ok (.invokespecial idx, 3)) (kk : J p l e R s m args below meth c D A nL Q cells slots ws L (pc + 3) st) : J p l e R s m args below meth c D A nL Q cells slots ws L pc (.ref a :: st) :=
  fun H locs ls hP hD hS hl => W.objInit cx.1 cx.2.1 cx.2.2.2.2.1 (cx.2.2.2.2.2.1 _ hw) (cx.2.2.2.2.2.1 _ oInst) (cx.2.2.2.2.2.1 _ oCode) rfl (hl.1.trans cx.2.2.2.1.symm) rfl d hR.1 (by show 0 + _ + 12 ≤ _; omega) (kk H locs ls hP hD hS hl)

theorem J_iast (cx : CX p l s m args meth c own cc ret nL D g A) {a n j : Nat} {f : Nat → Int32} {i : Int32} {x : Int32} {ws' : va_W} (q0 : Nat) (he : ws[q0]? = some (a, .inl (g 0, n, .inl f))) (hi : i = nI j) (hj : j < n) (hn : n < 2 ^ 31) (hw : ws.set q0 (a, .inl (g 0, n, .inl (upd f j x))) = ws') (d : decode cc pc = .ok (.iastore, 1)) (kk : J p l e R s m args below meth c D A nL Q cells slots ws' L (pc + 1) st) : J p l e R s m args below meth c D A nL Q cells slots ws L pc (.int x :: .int i :: .ref a :: st) := by
  subst hi
  intro H locs ls hP hD hS hl
  refine va_iast cx.1 cx.2.1 cx.2.2.2.2.2.2.2.1 hP hD hS q0 0 he rfl (vp_in_nI hj hn) d (fun H1 locs1 hP1 hD1 hS1 => ?_)
  rw [nI_clamp (Nat.lt_trans hj hn)] at hP1 hD1
  exact kk H1 locs1 ls (hw ▸ hP1) (hw ▸ hD1) hS1 hl

theorem J_last (cx : CX p l s m args meth c own cc ret nL D g A) {a n j : Nat} {f : Nat → Int64} {i : Int32} {x : Int64} {ws' : va_W} (q0 : Nat) (he : ws[q0]? = some (a, .inl (g 1, n, .inr (.inl f)))) (hi : i = nI j) (hj : j < n) (hn : n < 2 ^ 31) (hw : ws.set q0 (a, .inl (g 1, n, .inr (.inl (vp_updL f j x)))) = ws') (d : decode cc pc = .ok (.lastore, 1)) (kk : J p l e R s m args below meth c D A nL Q cells slots ws' L (pc + 1) st) : J p l e R s m args below meth c D A nL Q cells slots ws L pc (.long x :: .int i :: .ref a :: st) := by
  subst hi
  intro H locs ls hP hD hS hl
  refine va_last cx.1 cx.2.1 cx.2.2.2.2.2.2.2.1 hP hD hS q0 1 he rfl (vp_in_nI hj hn) d (fun H1 locs1 hP1 hD1 hS1 => ?_)
  rw [nI_clamp (Nat.lt_trans hj hn)] at hP1 hD1
  exact kk H1 locs1 ls (hw ▸ hP1) (hw ▸ hD1) hS1 hl

theorem J_zast (cx : CX p l s m args meth c own cc ret nL D g A) {a n j : Nat} {f : Nat → Int32} {i : Int32} {x : Int32} {ws' : va_W} (q0 : Nat) (he : ws[q0]? = some (a, .inl (g 2, n, .inl f))) (hi : i = nI j) (hj : j < n) (hn : n < 2 ^ 31) (hw : ws.set q0 (a, .inl (g 2, n, .inl (upd f j (vp_nar .boolean x)))) = ws') (d : decode cc pc = .ok (.bastore, 1)) (kk : J p l e R s m args below meth c D A nL Q cells slots ws' L (pc + 1) st) : J p l e R s m args below meth c D A nL Q cells slots ws L pc (.int x :: .int i :: .ref a :: st) := by
  subst hi
  intro H locs ls hP hD hS hl
  refine va_zast cx.1 cx.2.1 cx.2.2.2.2.2.2.2.1 hP hD hS q0 2 he rfl (vp_in_nI hj hn) d (fun H1 locs1 hP1 hD1 hS1 => ?_)
  rw [nI_clamp (Nat.lt_trans hj hn)] at hP1 hD1
  exact kk H1 locs1 ls (hw ▸ hP1) (hw ▸ hD1) hS1 hl

theorem J_aast (cx : CX p l s m args meth c own cc ret nL D g A) {a n j v qk : Nat} {vs : List Value} {f : Nat → Option Nat} {i : Int32} {ws' : va_W} (q0 : Nat) (he : ws[q0]? = some (a, .inl (g 3, n, .inr (.inr (.inr (.inr f)))))) (hv : ws[qk]? = some (v, .inr (2, vs))) (hi : i = nI j) (hj : j < n) (hn : n < 2 ^ 31) (hw : ws.set q0 (a, .inl (g 3, n, .inr (.inr (.inr (.inr (va_up f j (some v))))))) = ws') (d : decode cc pc = .ok (.aastore, 1)) (kk : J p l e R s m args below meth c D A nL Q cells slots ws' L (pc + 1) st) : J p l e R s m args below meth c D A nL Q cells slots ws L pc (.ref v :: .int i :: .ref a :: st) := by
  subst hi
  intro H locs ls hP hD hS hl
  refine va_astq (r := (RX0, TX0, 11)) cx.1 cx.2.1 cx.2.2.2.2.2.2.2.1 hP hD hS q0 3 qk 2 he rfl hv rfl (vp_in_nI hj hn) d (fun H1 locs1 hP1 hD1 hS1 => ?_)
  rw [nI_clamp (Nat.lt_trans hj hn)] at hP1 hD1
  exact kk H1 locs1 ls (hw ▸ hP1) (hw ▸ hD1) hS1 hl

/-- what 'throw new E(text)' in the class asks of the tables -/
def TH (ik ic : Nat) (E : String) : Prop := Cond.classLink RX6 ik E ∈ wAll ∧ Cond.initialized E ∈ wAll ∧ (∀ w ∈ vx_atS RX6 ic E ["java/lang/RuntimeException", "java/lang/Exception"], w ∈ lw_tbl ∧ (goodWord w || auxW w) = true) ∧ Bundle.fit E = true
theorem auxW_on {w : Cond} (h : auxW w = true) : w.onTables = true := by cases w <;> first | rfl | (simp [auxW] at h; done)
theorem ot_of {w : Cond} (h : (goodWord w || auxW w) = true) : vx_ot w = true := by
  simp only [Bool.or_eq_true] at h
  rcases h with h | h
  · simp [vx_ot, h]
  · simp [vx_ot, auxW_on h]
theorem J_throw (cx : CX p l s m args meth c own cc ret nL D g A) (hex : ∀ x ∈ c.exceptionTable.toList, False) (htr : l.stackTraces = false) (ho : own = RX6) {ik is ic mc ms : Nat} {E text : String} {XP : String → Prop} {Qc : Array Value → State → Outcome → State → Prop} (th : TH ik ic E) (hs : (is, text) ∈ strL) (hX : XP E)
    (d0 : decode cc pc = .ok (.new ik, 3)) (d3 : decode cc (pc + 3) = .ok (.dup, 1)) (d4 : decode cc (pc + 4) = .ok (.ldc is, 2) ∧ decode cc (pc + 6) = .ok (.invokespecial ic, 3) ∧ decode cc (pc + 9) = .ok (.athrow, 1) ∨ decode cc (pc + 4) = .ok (.ldc_w is, 3) ∧ decode cc (pc + 7) = .ok (.invokespecial ic, 3) ∧ decode cc (pc + 10) = .ok (.athrow, 1))
    (hR : 5 < R.frames ∧ (st.map fun v => v.category).sum + 82 ≤ R.locals ∧ cells + 1 ≤ R.cells ∧ slots + 6 ≤ R.slots) (hm : cells + 1 ≤ mc ∧ slots + 6 ≤ ms) : J p l e R s m args below meth c D A nL (vx_MQ below Qc (XQ XP D A ws) args s mc ms A) cells slots ws L pc st := by
  intro H locs ls hP hD hS hl
  subst ho
  obtain ⟨sa, hstr⟩ := cx.2.2.2.2.2.2.2.2.2.2.2.1 _ hs
  have hat : ∀ w ∈ vx_atS RX6 ic E ["java/lang/RuntimeException", "java/lang/Exception"], w.before args s = true := by
    intro w hw
    obtain ⟨h1, h2⟩ := th.2.2.1 w hw
    by_cases h3 : goodWord w = true
    · exact cx.2.2.2.2.2.1 w (List.mem_filter.mpr ⟨h1, h3⟩)
    · have h4 : auxW w = true := by simpa [h3] using h2
      exact va_Nw.use (auxW_on h4) (cx.2.2.2.2.2.2.2.2.2.2.2.2.2.1 w h1 h4)
  have hgd : ∀ w ∈ Cond.classLink RX6 ik E :: Cond.initialized E :: vx_atS RX6 ic E ["java/lang/RuntimeException", "java/lang/Exception"], vx_ot w = true :=
    List.forall_mem_cons.mpr ⟨rfl, List.forall_mem_cons.mpr ⟨rfl, fun w hw => ot_of (th.2.2.1 w hw).2⟩⟩
  have hx : ∀ t : State, s.vm.Alike t.vm → H.size ≤ t.heap.size → (∀ q : Nat, q < H.size → t.heap[q]? = H[q]?) → XQ XP D A ws E s t := fun t _ h1 h2 =>
    ⟨(), trivial, ⟨hX, hP.kept (fun k x hk => h2 x.1 (hP k x hk).lt), hD⟩, Nat.le_trans hS.1 h1, fun q q1 q2 => (h2 q (Nat.lt_of_lt_of_le q1 hS.1)).trans (hS.2.1 q q1 q2)⟩
  rcases d4 with ⟨d4, d6, d9⟩ | ⟨d4, d6, d9⟩
  · exact vx_throwS cx.1 cx.2.1 htr cx.2.2.2.2.1 th.2.2.2 (by decide) (cx.2.2.2.2.2.1 _ th.1) (cx.2.2.2.2.2.1 _ th.2.1) hstr hat hgd cx.2.2.2.2.2.2.2.2.2.1 cx.2.2.2.2.2.2.2.2.2.2.1 hS (hl.1.trans cx.2.2.2.1.symm) d0 d3 d4 d6 d9 (fun x hx => (hex x hx).elim) hR.1 (by simpa using hR.2.1) hR.2.2.1 hR.2.2.2 cx.2.2.2.2.2.2.1 hx hS.2.2 hm.1 hm.2
  · exact vx_throwSW cx.1 cx.2.1 htr cx.2.2.2.2.1 th.2.2.2 (by decide) (cx.2.2.2.2.2.1 _ th.1) (cx.2.2.2.2.2.1 _ th.2.1) hstr hat hgd cx.2.2.2.2.2.2.2.2.2.1 cx.2.2.2.2.2.2.2.2.2.2.1 hS (hl.1.trans cx.2.2.2.1.symm) d0 d3 d4 d6 d9 (fun x hx => (hex x hx).elim) hR.1 (by simpa using hR.2.1) hR.2.2.1 hR.2.2.2 cx.2.2.2.2.2.2.1 hx hS.2.2 hm.1 hm.2

end JJ
