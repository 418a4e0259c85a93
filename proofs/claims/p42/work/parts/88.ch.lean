/-! the law's search: what it leaves in its two rows -/
def cpN (wy oy : Nat → Nat) : Nat → Nat → Nat
  | 0 => oy
  | k + 1 => upn (cpN wy oy k) (2 + k) (wy k)
def ckO (κ : CS) (wy oy : Nat → Nat) (laid : Nat) : Nat → Nat :=
  if κ.2.1 1 (wy (laid - 1)) && κ.2.1 2 (wy (laid - 1)) then (if decide (oy 1 = 0) || decide (laid < oy 1) then cpN wy (upn (upn oy 0 (oy 0 + 1)) 1 laid) laid else upn oy 0 (oy 0 + 1)) else oy
def ckL (body : Nat → (Nat → Nat) × (Nat → Nat) → (Nat → Nat) × (Nat → Nat)) : Nat → Nat → (Nat → Nat) × (Nat → Nat) → (Nat → Nat) × (Nat → Nat)
  | 0, _, z => z
  | f + 1, k, z => ckL body f (k + 1) (body k z)
def ckK (κ : CS) (on : Int32) : Nat → Nat → (Nat → Nat) × (Nat → Nat) → (Nat → Nat) × (Nat → Nat)
  | 0, _, z => z
  | d + 1, laid, y => ckL (fun k z => if candB κ (y.1 (laid - 1)) k && decide (refC κ z.1 laid k on = 111) then ckK κ on d (laid + 1) (upn z.1 laid k, z.2) else z) (κ.2.2.1 0) 0 (y.1, ckO κ y.1 y.2 laid)
theorem cpN_1 {wy oy : Nat → Nat} : ∀ k, cpN wy oy k 1 = oy 1
  | 0 => rfl
  | k + 1 => by show upn (cpN wy oy k) (2 + k) (wy k) 1 = _; rw [upn_ne (by omega)]; exact cpN_1 k
theorem cpN_0 {wy oy : Nat → Nat} : ∀ k, cpN wy oy k 0 = oy 0
  | 0 => rfl
  | k + 1 => by show upn (cpN wy oy k) (2 + k) (wy k) 0 = _; rw [upn_ne (by omega)]; exact cpN_0 k
theorem cpN_at {wy oy : Nat → Nat} : ∀ k j, j < k → cpN wy oy k (2 + j) = wy j
  | 0, j, h => absurd h (Nat.not_lt_zero j)
  | k + 1, j, h => by
    show upn (cpN wy oy k) (2 + k) (wy k) (2 + j) = _
    by_cases e : j = k
    · subst e; exact upn_eq
    · rw [upn_ne (by omega)]; exact cpN_at k j (by omega)
theorem ckO_1 {κ : CS} {wy oy : Nat → Nat} {laid : Nat} (h : oy 1 ≤ 7) (hl : laid ≤ 7) : ckO κ wy oy laid 1 ≤ 7 := by
  unfold ckO
  split
  · split
    · rw [cpN_1, upn_eq]; exact hl
    · rw [upn_ne (by decide)]; exact h
  · exact h
theorem ckL_inv {P : (Nat → Nat) × (Nat → Nat) → Prop} {body : Nat → (Nat → Nat) × (Nat → Nat) → (Nat → Nat) × (Nat → Nat)} (hb : ∀ k z, P z → P (body k z)) : ∀ f k z, P z → P (ckL body f k z)
  | 0, _, _, h => h
  | f + 1, k, z, h => ckL_inv hb f (k + 1) (body k z) (hb k z h)
theorem ckK_pre (κ : CS) (on : Int32) : ∀ d laid y j, j < laid → (ckK κ on d laid y).1 j = y.1 j
  | 0, _, _, _, _ => rfl
  | d + 1, laid, y, j, hj => by
    refine ckL_inv (P := fun z => z.1 j = y.1 j) (fun k z hz => ?_) _ _ _ rfl
    show (if candB κ (y.1 (laid - 1)) k && decide (refC κ z.1 laid k on = 111) then ckK κ on d (laid + 1) (upn z.1 laid k, z.2) else z).1 j = y.1 j
    split
    · rw [ckK_pre κ on d (laid + 1) _ j (by omega)]
      show upn z.1 laid k j = _
      rw [upn_ne (by omega)]; exact hz
    · exact hz
theorem ckK_1 (κ : CS) (on : Int32) : ∀ d laid y, laid + d ≤ 8 → y.2 1 ≤ 7 → (ckK κ on d laid y).2 1 ≤ 7
  | 0, _, _, _, h => h
  | d + 1, laid, y, h1, h => by
    refine ckL_inv (P := fun z => z.2 1 ≤ 7) (fun k z hz => ?_) _ _ _ (ckO_1 h (by omega))
    show (if candB κ (y.1 (laid - 1)) k && decide (refC κ z.1 laid k on = 111) then ckK κ on d (laid + 1) (upn z.1 laid k, z.2) else z).2 1 ≤ 7
    split
    · exact ckK_1 κ on d (laid + 1) _ (by omega) hz
    · exact hz
theorem ckL_s {body : Nat → (Nat → Nat) × (Nat → Nat) → (Nat → Nat) × (Nat → Nat)} {n k : Nat} {z z' r : (Nat → Nat) × (Nat → Nat)} (h : k < n) (e : body k z = z') (hr : ckL body (n - k) k z = r) : ckL body (n - (k + 1)) (k + 1) z' = r := by
  rw [← hr, show n - k = (n - (k + 1)) + 1 from by omega, ← e]; rfl
theorem ckL_e {body : Nat → (Nat → Nat) × (Nat → Nat) → (Nat → Nat) × (Nat → Nat)} {n k : Nat} {z r : (Nat → Nat) × (Nat → Nat)} (h : n ≤ k) (hr : ckL body (n - k) k z = r) : z = r := by
  rw [← hr, show n - k = 0 from by omega]; rfl
/-- what the law finds of a certificate on a day -/
def foF (κ : CS) (i : Nat) (on : Int32) : Nat → Nat := if beginB κ i on then (ckK κ on 7 1 (upn (fun _ => 0) 0 i, fun _ => 0)).2 else fun _ => 0
theorem mem_d {α : Type} {x y z : α} {lw : List α} (h : z ∈ x :: lw) : z ∈ x :: y :: lw := (List.mem_cons.mp h).elim (fun q => q ▸ List.mem_cons_self) (fun q => List.mem_cons_of_mem _ (List.mem_cons_of_mem _ q))
section JD
variable {p : Program} {l : Launch} {e : Env} {R : Room} {s : State} {m : MethodId} {args : Array Value} {below : List Frame} {meth : Method} {c : Code} {nL : Nat} {D : va_G} {A : Nat → Prop} {Q : State → Prop} {cells slots : Nat} {L : List (Nat × Value)} {pc : Nat} {st : List Value} {x y : Nat × va_E} {lw : va_W}
theorem J_drop (kk : J p l e R s m args below meth c D A nL Q cells slots (x :: lw) L pc st) : J p l e R s m args below meth c D A nL Q cells slots (x :: y :: lw) L pc st :=
  J_wsub (fun _ hP => P_iff.mpr fun z hz => P_iff.mp hP z (mem_d hz))
    (fun hD => D_iff.mpr ⟨((D_iff.mp hD).1).sublist ((List.Sublist.cons₂ x (List.Sublist.cons y (List.Sublist.refl lw))).map _), fun z hz => (D_iff.mp hD).2 z (mem_d hz)⟩) kk
theorem pm_a {α : Type} (x y : α) (lw : List α) : (x :: (lw ++ [y])).Perm (x :: y :: lw) := (List.perm_append_singleton y lw).cons x
end JD
