/-! the law: its world, its script, the ends of its cases -/
abbrev oL (o : Nat) (g : Nat → ClassId) (f : Nat → Int64) : va_W := [(o, .inl (g 1, 1, .inr (.inl f)))]
abbrev oD (o : Nat) (g : Nat → ClassId) (f : Nat → UInt64) : va_W := [(o, .inl (g 4, 1, .inr (.inr (.inr (.inl f)))))]
abbrev lwW (g : Nat → ClassId) (ad : Nat → Nat → Nat) (κ : CS) (X : XT) (cs : Nat → CT) (lf : Nat → Int64) (pr : PT) (o1 : Nat) (f1 : Nat → Int64) (am : Nat → Nat) (th : Int32) (ch : Nat → Nat) (cm rm : Nat) (row : Nat → Int64) (o2 : Nat) (f2 : Nat → UInt64) : va_W := (iW ad g κ X cs lf pr ++ oL o1 g f1) ++ (mW am g κ th ch cm rm row ++ oD o2 g f2)
abbrev LL (b x m o1 o2 i : Nat) : List (Nat × Value) := [(5, .int (nI i)), (4, .ref o2), (3, .ref o1), (2, .ref m), (1, .ref x), (0, .ref b)]
theorem pm_m {α : Type} (a b c : List α) : (a ++ (b ++ c)).Perm (b ++ (a ++ c)) := by
  rw [← List.append_assoc, ← List.append_assoc]; exact List.perm_append_comm.append_right c
theorem pm_d {α : Type} (a b c d : List α) : ((a ++ b) ++ (c ++ d)).Perm ((a ++ d) ++ (b ++ c)) := by
  have h : (b ++ (c ++ d)).Perm (d ++ (b ++ c)) := by rw [← List.append_assoc]; exact List.perm_append_comm
  rw [List.append_assoc, List.append_assoc]; exact h.append_left a
theorem pm_x {α : Type} (a b c : List α) : ((a ++ b) ++ c).Perm (a ++ (b ++ c)) := by rw [List.append_assoc]
theorem at_o1 {a : va_W} {x : Nat × va_E} {r : va_W} : ((a ++ [x]) ++ r)[a.length]? = some x := by
  rw [List.append_assoc, List.getElem?_append_right (Nat.le_refl _)]; simp
theorem at_o2 {a b : va_W} {x : Nat × va_E} : (a ++ (b ++ [x]))[(a ++ b).length]? = some x := by
  rw [← List.append_assoc]; exact at_end
theorem at_md {a b d : va_W} {x : Nat × va_E} (h : b[0]? = some x) : (a ++ (b ++ d))[a.length]? = some x := by
  rw [List.getElem?_append_right (Nat.le_refl _), Nat.sub_self]
  cases b with
  | nil => exact absurd h (by simp)
  | cons y t => exact h
theorem lgc_0 {a b : Int64} (h : a = b) : lg_cmp a b = 0 := by subst h; unfold lg_cmp; simp
section LW
variable {p : Program} {l : Launch} {e : Env} {R : Room} {s : State} {m : MethodId} {args : Array Value} {below : List Frame} {meth : Method} {c : Code} {own : String} {cc : ByteArray} {ret : Option FieldType} {nL : Nat} {D : va_G} {g : Nat → ClassId} {A : Nat → Prop} {Q : State → Prop} {cells slots : Nat} {ws : va_W} {L : List (Nat × Value)} {pc : Nat} {st : List Value} {b Ln : Nat} {xs : Nat → Int32}
theorem J_sld (cx : CX p l s m args meth c own cc ret nL D g A) (hX : va_X b Ln xs s s.heap) (hbl : b < s.heap.size) (hbA : ¬ A b) {i : Int32} {j : Nat} (hi : i = nI j) (hj : j < Ln) (hLn : Ln < 2147483648) (d : decode cc pc = .ok (.iaload, 1)) (kk : J p l e R s m args below meth c D A nL Q cells slots ws L (pc + 1) (.int (xs j) :: st)) : J p l e R s m args below meth c D A nL Q cells slots ws L pc (.int i :: .ref b :: st) := by
  subst hi
  intro H locs ls hP hD hS hl
  refine va_sld cx.1 cx.2.1 hX hbl hbA hS (vp_in_nI hj hLn) d ?_
  rw [nI_clamp (Nat.lt_trans hj hLn)]
  exact kk H locs ls hP hD hS hl
theorem J_slen (cx : CX p l s m args meth c own cc ret nL D g A) (hX : va_X b Ln xs s s.heap) (hbl : b < s.heap.size) (hbA : ¬ A b) (d : decode cc pc = .ok (.arraylength, 1)) (kk : J p l e R s m args below meth c D A nL Q cells slots ws L (pc + 1) (.int (nI Ln) :: st)) : J p l e R s m args below meth c D A nL Q cells slots ws L pc (.ref b :: st) :=
  fun H locs ls hP hD hS hl => va_slen cx.1 cx.2.1 hX hbl hbA hS d (kk H locs ls hP hD hS hl)
/-- one word of the script -/
theorem J_sget (cx : CX p l s m args meth c own cc ret nL D g A) (hX : va_X b Ln xs s s.heap) (hbl : b < s.heap.size) (hbA : ¬ A b) (hLn : Ln ≤ 2560) {i k : Nat} (hk : i + k < Ln) (q0 q5 : Nat) (h0 : L[q0]? = some (0, .ref b)) (h5 : L[q5]? = some (5, .int (nI i))) {v : Int} (hv : Int32.ofInt v = nI k) (d0 : decode cc pc = .ok (.aload_n 0, 1)) (d1 : decode cc (pc + 1) = .ok (.iload 5, 2)) (d2 : decode cc (pc + 1 + 2) = .ok (.iconst v, 1)) (d3 : decode cc (pc + 1 + 2 + 1) = .ok (.iadd, 1)) (d4 : decode cc (pc + 1 + 2 + 1 + 1) = .ok (.iaload, 1)) (kk : J p l e R s m args below meth c D A nL Q cells slots ws L (pc + 6) (.int (xs (i + k)) :: st)) : J p l e R s m args below meth c D A nL Q cells slots ws L pc st := by
  refine J_aload_n cx d0 rfl q0 h0 ?_
  refine J_iload cx d1 q5 h5 ?_
  refine J_iconst cx d2 hv ?_
  refine J_iadd cx d3 ?_
  exact J_sld cx hX hbl hbA (nI_add i k) hk (by omega) d4 kk
theorem J_tab (cx : CX p l s m args meth c own cc ret nL D g A) {dflt lo hi : Int} {offs : Array Int} {len : Nat} {x : Int32} {off : Int} {tgt : Nat} (d : decode cc pc = .ok (.tableswitch dflt lo hi offs, len)) (h1 : ¬ x.toInt < lo) (h2 : ¬ hi < x.toInt) (ho : offs[(x.toInt - lo).toNat]? = some off) (ht : (pc : Int) + off = (tgt : Int)) (kk : J p l e R s m args below meth c D A nL Q cells slots ws L tgt st) : J p l e R s m args below meth c D A nL Q cells slots ws L pc (.int x :: st) :=
  fun H locs ls hP hD hS hl => lv_tableIn cx.1 cx.2.1 d h1 h2 ho ht (kk H locs ls hP hD hS hl)
theorem J_tabO (cx : CX p l s m args meth c own cc ret nL D g A) {dflt lo hi : Int} {offs : Array Int} {len : Nat} {x : Int32} {tgt : Nat} (d : decode cc pc = .ok (.tableswitch dflt lo hi offs, len)) (h : x.toInt < lo ∨ hi < x.toInt) (ht : (pc : Int) + dflt = (tgt : Int)) (kk : J p l e R s m args below meth c D A nL Q cells slots ws L tgt st) : J p l e R s m args below meth c D A nL Q cells slots ws L pc (.int x :: st) :=
  fun H locs ls hP hD hS hl => lv_tableOut cx.1 cx.2.1 d h ht (kk H locs ls hP hD hS hl)
end LW
