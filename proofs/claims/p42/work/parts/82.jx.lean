/-! more rows of my layer: the law's instructions, its script, calls that give a reference -/
section JX
variable {p : Program} {l : Launch} {e : Env} {R : Room} {s : State} {m : MethodId} {args : Array Value} {below : List Frame} {meth : Method} {c : Code} {own : String} {cc : ByteArray} {ret : Option FieldType} {nL : Nat} {D : va_G} {g : Nat → ClassId} {A : Nat → Prop} {Q : State → Prop} {cells slots : Nat} {ws : va_W} {L : List (Nat × Value)} {pc : Nat} {st : List Value}
theorem J_ldc (cx : CX p l s m args meth c own cc ret nL D g A) {index : Nat} {v : Int32} (d : decode cc pc = .ok (.ldc index, 2)) (hw : Cond.constant own index v ∈ wAll) (kk : J p l e R s m args below meth c D A nL Q cells slots ws L (pc + 2) (.int v :: st)) : J p l e R s m args below meth c D A nL Q cells slots ws L pc st :=
  fun H locs ls hP hD hS hl => lv_ldc cx.1 cx.2.1 cx.2.2.2.2.1 (cx.2.2.2.2.2.1 _ hw) d (kk H locs ls hP hD hS hl)
theorem J_ldcf (cx : CX p l s m args meth c own cc ret nL D g A) {index : Nat} {v : UInt32} (d : decode cc pc = .ok (.ldc index, 2)) (hw : Cond.constantFloat own index v ∈ wAll) (kk : J p l e R s m args below meth c D A nL Q cells slots ws L (pc + 2) (.float v :: st)) : J p l e R s m args below meth c D A nL Q cells slots ws L pc st :=
  fun H locs ls hP hD hS hl => lv_ldcf cx.1 cx.2.1 cx.2.2.2.2.1 (cx.2.2.2.2.2.1 _ hw) d (kk H locs ls hP hD hS hl)
theorem J_ldc2d (cx : CX p l s m args meth c own cc ret nL D g A) {index : Nat} {v : UInt64} (d : decode cc pc = .ok (.ldc2_w index, 3)) (hw : Cond.constantDouble own index v ∈ wAll) (kk : J p l e R s m args below meth c D A nL Q cells slots ws L (pc + 3) (.double v :: st)) : J p l e R s m args below meth c D A nL Q cells slots ws L pc st :=
  fun H locs ls hP hD hS hl => lv_ldc2d cx.1 cx.2.1 cx.2.2.2.2.1 (cx.2.2.2.2.2.1 _ hw) d (kk H locs ls hP hD hS hl)
theorem J_iushr (cx : CX p l s m args meth c own cc ret nL D g A) {x y : Int32} (d : decode cc pc = .ok (.iushr, 1)) (kk : J p l e R s m args below meth c D A nL Q cells slots ws L (pc + 1) (.int ((x.toUInt32 >>> (y.toUInt32 &&& Int32.toUInt32 31)).toInt32) :: st)) : J p l e R s m args below meth c D A nL Q cells slots ws L pc (.int y :: .int x :: st) :=
  fun H locs ls hP hD hS hl => lv_iushr cx.1 cx.2.1 d rfl (kk H locs ls hP hD hS hl)
theorem J_ixor (cx : CX p l s m args meth c own cc ret nL D g A) {x y : Int32} (d : decode cc pc = .ok (.ixor, 1)) (kk : J p l e R s m args below meth c D A nL Q cells slots ws L (pc + 1) (.int (x ^^^ y) :: st)) : J p l e R s m args below meth c D A nL Q cells slots ws L pc (.int y :: .int x :: st) :=
  fun H locs ls hP hD hS hl => lv_ixor cx.1 cx.2.1 d (kk H locs ls hP hD hS hl)
theorem J_dup2 (cx : CX p l s m args meth c own cc ret nL D g A) {va vb : Value} (d : decode cc pc = .ok (.dup2, 1)) (hva : va.category = 1) (hvb : vb.category = 1) (kk : J p l e R s m args below meth c D A nL Q cells slots ws L (pc + 1) (va :: vb :: va :: vb :: st)) : J p l e R s m args below meth c D A nL Q cells slots ws L pc (va :: vb :: st) :=
  fun H locs ls hP hD hS hl => lv_dup2_11 cx.1 cx.2.1 d hva hvb (kk H locs ls hP hD hS hl)
theorem J_mmax (cx : CX p l s m args meth c own cc ret nL D g A) {index : Nat} {x y : Int32} (hw : Cond.methodLink own index Lib.Math.max.name ∈ wAll ∧ Cond.static Lib.Math.max.name ∈ wAll ∧ Cond.initialized "java/lang/Math" ∈ wAll ∧ Cond.code Lib.Math.max.name Lib.Math.max.code 2 (some .int) ∈ wAll) (hR : 1 ≤ R.frames ∧ (st.map fun v => v.category).sum + 13 ≤ R.locals) (hf : cells ≤ R.cells ∧ slots ≤ R.slots) (d : decode cc pc = .ok (.invokestatic index, 3)) (kk : J p l e R s m args below meth c D A nL Q cells slots ws L (pc + 3) (.int (if x < y then y else x) :: st)) : J p l e R s m args below meth c D A nL Q cells slots ws L pc (.int y :: .int x :: st) :=
  fun H locs ls hP hD hS hl => va_mmax cx.1 cx.2.1 (cx.2.2.2.1.trans hl.1.symm) cx.2.2.2.2.1 (cx.2.2.2.2.2.1 _ hw.1) (cx.2.2.2.2.2.1 _ hw.2.1) (cx.2.2.2.2.2.1 _ hw.2.2.1) (cx.2.2.2.2.2.1 _ hw.2.2.2) hR.1 hR.2 hf.1 hf.2 d (kk H locs ls hP hD hS hl)
theorem CX.sx (cx : CX p l s m args meth c own cc ret nL D g A) : SX g A s := cx.2.2.2.2.2.2.2.2.2.2.2.2.2.2.2
/-- a word of the script, and how many there are -/
theorem J_sld (cx : CX p l s m args meth c own cc ret nL D g A) {i : Int32} {j : Nat} (hi : i = nI j) (hj : j < g 11) (d : decode cc pc = .ok (.iaload, 1)) (kk : J p l e R s m args below meth c D A nL Q cells slots ws L (pc + 1) (.int (scX g j) :: st)) : J p l e R s m args below meth c D A nL Q cells slots ws L pc (.int i :: .ref (g 10) :: st) := by
  subst hi
  intro H locs ls hP hD hS hl
  have h9 := cx.sx.2.2.2
  refine va_sld cx.1 cx.2.1 cx.sx.1 cx.sx.2.1 cx.sx.2.2.1 hS (vp_in_nI hj (Nat.lt_of_le_of_lt h9 (by decide))) d ?_
  rw [nI_clamp (Nat.lt_trans hj (Nat.lt_of_le_of_lt h9 (by decide)))]
  exact kk H locs ls hP hD hS hl
theorem J_slen (cx : CX p l s m args meth c own cc ret nL D g A) (d : decode cc pc = .ok (.arraylength, 1)) (kk : J p l e R s m args below meth c D A nL Q cells slots ws L (pc + 1) (.int (nI (g 11)) :: st)) : J p l e R s m args below meth c D A nL Q cells slots ws L pc (.ref (g 10) :: st) :=
  fun H locs ls hP hD hS hl => va_slen cx.1 cx.2.1 cx.sx.1 cx.sx.2.1 cx.sx.2.2.1 hS d (kk H locs ls hP hD hS hl)
theorem J_rretA (cx : CX p l s m args meth c own cc ret nL D g A) {mc ms : Nat} {S : Type} {W' : S → Nat → va_W} {post : S → Prop} {ty : FieldType} (hr : ret = some (.array ty)) {v : Nat} {u : S} (hp : post u) (hw : ws = W' u v) (hc : cells ≤ mc) (hs : slots ≤ ms) (d : decode cc pc = .ok (.areturn, 1)) : J p l e R s m args below meth c D A nL (MQ below (va_Qr post (fun u v => PO D A (W' u v)) A) args s mc ms A) cells slots ws L pc [.ref v] := by
  intro H locs ls hP hD hS hl
  subst hw
  refine W.widen hc hs ?_
  exact W.aret cx.1 cx.2.1 (cx.2.2.1.trans hr) (Or.inr ⟨ty, rfl⟩) (Or.inr ⟨v, rfl⟩) (fun t ht hW => ⟨⟨u, v, rfl, hp, ⟨by rw [ht]; exact hP, hD⟩⟩, hS.F ht⟩) hS.2.2 d cx.2.2.2.2.2.2.1
theorem J_callSr (cx : CX p l s m args meth c own cc ret nL D g A) {idx maxL n mc ms : Nat} {y : MethodName} {bytes : ByteArray} {retc : Option FieldType} (kw : SW own idx y bytes maxL retc n) {rm : Room} {As st0 : List Value} {S : Type} {post : S → Prop} {W' : S → Nat → va_W} (hM : Met l y (wsA y bytes maxL retc) rm (va_Pc As (PRE D g A ws)) (va_Qr post (fun u r => PO D A (W' u r)) A) mc ms A) (hrm : rm.cells = mc ∧ rm.slots = ms ∧ rm.frames + 1 ≤ R.frames ∧ 8 + (maxL + 11) + rm.locals ≤ R.locals) (hf : cells + mc ≤ R.cells ∧ slots + ms ≤ R.slots) (hn : As.length = n)  (hst : st0 = As.reverse ++ st) (hcat : (st.map fun v => v.category).sum ≤ 8) (d : decode cc pc = .ok (.invokestatic idx, 3)) (kk : ∀ (u : S) (r : Nat), post u → J p l e R s m args below meth c D A nL Q (cells + mc) (slots + ms) (W' u r) L (pc + 3) (.ref r :: st)) : J p l e R s m args below meth c D A nL Q cells slots ws L pc st0 := by
  intro H locs ls hP hD hS hl
  subst hst
  exact va_callr (va_runS (As := As) (rest := st) ⟨cx.1, cx.2.1, cx.2.2.2.1, cx.2.2.2.2.1, cx.2.2.2.2.2.1⟩ hM ⟨callB_of n cx.2.2.2.2.2.1 (gA kw.2.2.2.1) rfl hrm.1 hrm.2.1 (cx.2.2.2.2.2.1 _ kw.2.2.1) (cx.2.2.2.2.2.1 _ kw.1) kw.2.2.2.2 ⟨hrm.2.2.1, hrm.2.2.2⟩, cx.2.2.2.2.2.1 _ kw.2.1⟩ ⟨PRE.fblind, fun U hU hW => ⟨rfl, by rw [hU]; exact hP, va_K.moved hW.alike cx.2.2.2.2.2.2.2.1, hD, fun q hq => cx.2.2.2.2.2.2.2.2.1 q (Nat.le_trans hS.1 (by rw [← hU]; exact hq)), cx.2.2.2.2.2.2.2.2.2.moved hS hU hW⟩⟩ rfl hn hl.1 rfl (lv_room hcat) d hf) hS (fun _ _ h => h) (fun _ h => h) (fun u r t H1 locs1 ht hvm hw hB _ _ hS1 => kk u r hw H1 locs1 ls (ht ▸ hB.1) hB.2 hS1 hl)
theorem J_tab (cx : CX p l s m args meth c own cc ret nL D g A) {dflt lo hi : Int} {offs : Array Int} {len : Nat} {x : Int32} {off : Int} {tgt : Nat} (d : decode cc pc = .ok (.tableswitch dflt lo hi offs, len)) (h1 : ¬ x.toInt < lo) (h2 : ¬ hi < x.toInt) (ho : offs[(x.toInt - lo).toNat]? = some off) (ht : (pc : Int) + off = (tgt : Int)) (kk : J p l e R s m args below meth c D A nL Q cells slots ws L tgt st) : J p l e R s m args below meth c D A nL Q cells slots ws L pc (.int x :: st) :=
  fun H locs ls hP hD hS hl => lv_tableIn cx.1 cx.2.1 d h1 h2 ho ht (kk H locs ls hP hD hS hl)
theorem J_tabO (cx : CX p l s m args meth c own cc ret nL D g A) {dflt lo hi : Int} {offs : Array Int} {len : Nat} {x : Int32} {tgt : Nat} (d : decode cc pc = .ok (.tableswitch dflt lo hi offs, len)) (h : x.toInt < lo ∨ hi < x.toInt) (ht : (pc : Int) + dflt = (tgt : Int)) (kk : J p l e R s m args below meth c D A nL Q cells slots ws L tgt st) : J p l e R s m args below meth c D A nL Q cells slots ws L pc (.int x :: st) :=
  fun H locs ls hP hD hS hl => lv_tableOut cx.1 cx.2.1 d h ht (kk H locs ls hP hD hS hl)
end JX
/-- a method that may throw, where its condition says that it doesn't -/
theorem nothr {l : Launch} {D : va_G} {A : Nat → Prop} {y : MethodName} {ws0 : List Cond} {rm : Room} {Pc : Array Value → State → Prop} {Qc : Array Value → State → Outcome → State → Prop} {XP : String → Prop} {wx : va_W} {mc ms : Nat} (h : ∀ E, ¬ XP E) (hM : vx_Met l y ws0 rm Pc Qc (XQ XP D A wx) mc ms A) : Met l y ws0 rm Pc Qc mc ms A :=
  Jvm.Free.MetFree.mono hM (fun _ _ h => h) (fun _ _ _ _ _ h => h) (fun _ _ _ _ _ q => q.elim id (fun ⟨_, _, _, _, _, ⟨_, _, hB, _⟩, _⟩ => (h _ hB.1).elim))
abbrev iA (g : Nat → ClassId) (a k : Nat) (f : Nat → Int32) : Nat × va_E := (a, .inl (g 0, k, .inl f))
theorem pm_1 {α : Type} (x : α) (l : List α) : (x :: l).Perm (l ++ [x]) := (List.perm_append_singleton x l).symm
theorem pm_2 {α : Type} (x y : α) (l : List α) : (x :: y :: l).Perm (l ++ [x, y]) := by
  have := List.perm_append_comm (l₁ := [x, y]) (l₂ := l); exact this
theorem up_eq {f : Nat → Int32} {k : Nat} {x : Int32} : upd f k x k = x := if_pos rfl
