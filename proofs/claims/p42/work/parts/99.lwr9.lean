/-! the law's views of the class: what they share -/
theorem wT_at {g : Nat → ClassId} {κ : CS} {u : UT} {b : Nat} (hb : u.1 0 0 = b) : (wT g κ u)[0]? = some (b, .inr (8, [.ref (u.1 0 1), .ref (u.1 0 2), .ref (u.1 0 5), .ref (u.1 0 11), .ref (u.1 0 13), .ref (u.1 0 15), .int (nI (κ.2.2.1 0)), .int (nI (κ.2.2.1 1)), .int (nI (κ.2.2.1 2))])) := by rw [← hb]; rfl
theorem nth_get {κ : CS} {i r : Nat} (hn : κ.2.2.1 0 ≤ 40) (hr : r < 100) : fstN (nthB κ i (nI r)) (κ.2.2.1 0) = (flt (candB κ i) (κ.2.2.1 0))[r]? := by
  rw [flt_get]
  refine fstN_congr fun k hk => ?_
  have hc := cnt_le (candB κ i) k
  unfold nthB
  congr 1
  rw [decide_eq_decide]
  exact nat_ic_eq (by omega) (by omega)
theorem nth_some {κ : CS} {i r z : Nat} (hn : κ.2.2.1 0 ≤ 40) (hr : r < 100) (h : fstN (nthB κ i (nI r)) (κ.2.2.1 0) = some z) : r < cnt (candB κ i) (κ.2.2.1 0) := by
  rw [nth_get hn hr] at h
  rw [← flt_len]
  obtain ⟨h1, _⟩ := List.getElem?_eq_some_iff.mp h
  exact h1
theorem nth_none {κ : CS} {i r : Nat} (hn : κ.2.2.1 0 ≤ 40) (hr : r < 100) (h : fstN (nthB κ i (nI r)) (κ.2.2.1 0) = none) : cnt (candB κ i) (κ.2.2.1 0) ≤ r := by
  rw [nth_get hn hr] at h
  rw [← flt_len]
  exact List.getElem?_eq_none_iff.mp h
theorem cnt_3 {κ : CS} {X : XT} (h : IV κ X) {i : Nat} (hi : i < κ.2.2.1 0) : cnt (candB κ i) (κ.2.2.1 0) ≤ 3 := by rw [← flt_len]; exact cl_len h.2.1 h.1 h.2.2.1 hi
/-- the end of a view -/
theorem J_endR {p : Program} {l : Launch} {e : Env} {R : Room} {s : State} {m : MethodId} {args : Array Value} {below : List Frame} {meth : Method} {c : Code} {own : String} {cc : ByteArray} {ret : Option FieldType} {nL : Nat} {D : va_G} {g : Nat → ClassId} {A : Nat → Prop} {an b : Nat} {κ : CS} {cells slots mc ms pc : Nat} {L : List (Nat × Value)} {N : Nat → Int32} {u1 : UT} {v : Int32}
    (cx : CX p l s m args meth c own cc ret nL D g A) (hr : ret = some .boolean) (hn : narrow .boolean (.int v) = .int v) (hv : v = nI 1) (h1 : u1.1 0 0 = b) (h2 : INV κ u1.2.1 u1.2.2.1) (hc : cells ≤ mc) (hs : slots ≤ ms) (d : decode cc pc = .ok (.ireturn, 1)) :
    J p l e R s m args below meth c D A nL (MQ below (va_Qi (RDP κ b (nI 1)) (fun u => PO D A (iA g an 700 N :: wT g κ u)) A) args s mc ms A) cells slots (iA g an 700 N :: wT g κ u1) L pc [.int v] :=
  J_zret (S := UT) (post := RDP κ b (nI 1)) (W' := fun u => iA g an 700 N :: wT g κ u) cx hr (u := u1) hn ⟨hv, h1, h2⟩ rfl hc hs d
