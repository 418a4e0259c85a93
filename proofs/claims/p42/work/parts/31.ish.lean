/-- the shape of the class's state: what a walk needs of it -/
def ShX (κ : CS) (X : XT) : Prop := κ.2.2.1 0 ≤ 40 ∧ κ.2.2.1 1 ≤ 40 ∧ (∀ i, i < κ.2.2.1 0 → X.1 i < κ.2.2.1 1 ∧ X.2.1 i < κ.2.2.1 1) ∧ (∀ h, h < κ.2.2.1 1 → ∀ r, r < 3 → ∀ k, X.2.2.2.2.1 h r = some k → k < κ.2.2.1 0) ∧ (∀ i, i < κ.2.2.1 0 → nmI (κ.1 0 i) ∧ κ.1 0 i = X.2.2.1 (X.1 i)) ∧ ∀ i, i < κ.2.2.1 0 → κ.1 9 i = -1 ∨ ¬ κ.1 9 i < 0
def ShC (κ : CS) (c : CT) : Prop := c.2.1 ≤ 7 ∧ (∀ r, r < 7 → ∀ k, c.1 r = some k → k < κ.2.2.1 0) ∧ ∀ r, r < c.2.1 → c.1 r ≠ none
theorem ShX.sb {κ : CS} {X : XT} (h : ShX κ X) {i : Nat} (hi : i < κ.2.2.1 0) : X.1 i < κ.2.2.1 1 := (h.2.2.1 i hi).1
theorem ShX.is {κ : CS} {X : XT} (h : ShX κ X) {i : Nat} (hi : i < κ.2.2.1 0) : X.2.1 i < κ.2.2.1 1 := (h.2.2.1 i hi).2
def wyO (c : CT) : Nat → Nat := fun r => (c.1 r).getD 0
theorem wyO_at {κ : CS} {c : CT} {r : Nat} (h : ShC κ c) (hr : r < c.2.1) : c.1 r = some (wyO c r) ∧ wyO c r < κ.2.2.1 0 := by
  have h1 := h.2.2 r hr
  have h2 := h.2.1 r (by have := h.1; omega)
  unfold wyO
  cases q : c.1 r with
  | none => exact absurd q h1
  | some k => exact ⟨rfl, h2 k q⟩
theorem rfa_up {ad : Nat → Nat → Nat} {f : Nat → Option Nat} {j k : Nat} : va_up (rfa ad f) j (some (ad 1 k)) = rfa ad (va_up f j (some k)) := by
  funext i
  show (if i = j then _ else _) = Option.map (ad 1) (if i = j then _ else _)
  split <;> rfl
section IG
variable {ad : Nat → Nat → Nat} {g : Nat → ClassId} {cn ky n m ln : Nat} {md : Nat → Option Nat} {κ κ' : CS} {X X' : XT} {cs : Nat → CT} {lf : Nat → Int64} {pr : PT}
theorem iG_chU {q : Nat} {c : CT} (h : q < 3) : (iG ad g cn ky n m ln md κ X (upc cs q c) lf pr)[11 + 2 * q]? = some (ad 0 (11 + 2 * q), .inr (3, chn ad q c)) := (iG_ch h).trans (by rw [upc_eq])
theorem iG_roU {q : Nat} {c : CT} (h : q < 3) : (iG ad g cn ky n m ln md κ X (upc cs q c) lf pr)[12 + 2 * q]? = some (ad 0 (12 + 2 * q), .inl (g 3, 7, aR (rfa ad c.1))) := (iG_ro h).trans (by rw [upc_eq])
theorem iG_setchU {q s : Nat} {d : Int32} {c : CT} (h : q < 3) : (iG ad g cn ky n m ln md κ X (upc cs q c) lf pr).set (11 + 2 * q) (ad 0 (11 + 2 * q), .inr (3, chn ad q (c.1, s, d))) = iG ad g cn ky n m ln md κ X (upc cs q (c.1, s, d)) lf pr := by
  have := iG_setch (ad := ad) (g := g) (cn := cn) (ky := ky) (n := n) (m := m) (ln := ln) (md := md) (κ := κ) (X := X) (cs := upc cs q c) (lf := lf) (pr := pr) (s := s) (d := d) h
  rw [upc_upc, upc_eq] at this; exact this
theorem iG_setroU {q : Nat} {r : Nat → Option Nat} {c : CT} (h : q < 3) : (iG ad g cn ky n m ln md κ X (upc cs q c) lf pr).set (12 + 2 * q) (ad 0 (12 + 2 * q), .inl (g 3, 7, aR (rfa ad r))) = iG ad g cn ky n m ln md κ X (upc cs q (r, c.2)) lf pr := by
  have := iG_setro (ad := ad) (g := g) (cn := cn) (ky := ky) (n := n) (m := m) (ln := ln) (md := md) (κ := κ) (X := X) (cs := upc cs q c) (lf := lf) (pr := pr) (r := r) h
  rw [upc_upc, upc_eq] at this; exact this
end IG
theorem und_4 {k o : Nat} (h : k < 10000) : und 4 k o = und 10 k o := by
  have e : ∀ f g k, k < 10 ^ f → k < 10 ^ g → und f k o = und g k o := by
    intro f
    induction f with
    | zero => intro g k h1 _; rw [und_le (by simp at h1; omega), und_le (by simp at h1; omega)]
    | succ f ih =>
      intro g k h1 h2
      by_cases hk : o < k
      · rw [(und_s hk h1).1, (und_s hk h2).1]; exact ih _ _ (by have := (und_s hk h1).2; exact this) (und_s hk h2).2
      · rw [und_le (by omega), und_le (by omega)]
  exact e 4 10 k (by show k < 10000; exact h) (by show k < 10000000000; omega)
/-- contracts that answer a certificate or none; what a chain says -/
abbrev CtQ (l : Launch) (D : va_G) (g : Nat → ClassId) (A : Nat → Prop) (y : MethodName) (cc : ByteArray) (nL : Nat) (rt : FieldType) (rm : Room) (av : List Value) (ws : va_W) (f : Option Nat) (ws' : va_W) : Prop := Met l y (wsA y cc nL (some rt)) rm (va_Pc av (PRE D g A ws)) (va_Qq (fun (r : Option Nat) (_ : Unit) => r = f) (fun _ => PO D A ws') A) 0 0 A
def atC (c : CT) (x : Int32) : Option Nat := if inR c.2.1 x then c.1 (xj x) else none
theorem atC_at {κ : CS} {c : CT} {r : Nat} (h : ShC κ c) (hr : r < c.2.1) : atC c (nI r) = some (wyO c r) := by
  have := h.1
  unfold atC; rw [inR_nI (by omega), if_pos (decide_eq_true hr), show xj (nI r) = r from nI_clamp (by omega)]; exact (wyO_at h hr).1
def lastC (c : CT) : Option Nat := if c.2.1 = 0 then none else c.1 (c.2.1 - 1)
def outB (κ : CS) (i : Nat) (d : Int32) : Bool := !decide (κ.1 9 i = -1) && !decide (d < κ.1 9 i)
def hasC (c : CT) (k : Nat) : Bool := anyN (inW (wyO c) k) c.2.1
def rfI (κ : CS) (i : Nat) (d : Int32) : Nat := if validB κ i d then (if outB κ i d then 114 else 111) else 116
def vaB (κ : CS) (i : Nat) (d : Int32) : Bool := !decide (d < κ.1 2 i) && !decide (κ.1 3 i < d)
theorem vaB_eq {κ : CS} {i : Nat} {d : Int32} : vaB κ i d = validB κ i d := by
  unfold vaB validB
  by_cases h1 : d < κ.1 2 i
  · rw [decide_eq_true h1, isInB_lo h1]; rfl
  · by_cases h2 : κ.1 3 i < d
    · rw [decide_eq_true h2, isInB_hi h2]; simp
    · rw [decide_eq_false h1, decide_eq_false h2, isInB_in h1 h2]; rfl
theorem upc_comm {cs : Nat → CT} {i j : Nat} {a b : CT} (h : i ≠ j) : upc (upc cs i a) j b = upc (upc cs j b) i a := by
  funext z; unfold upc
  by_cases h1 : z = i
  · by_cases h2 : z = j
    · exact absurd (h1.symm.trans h2) h
    · simp [h1, h]
  · by_cases h2 : z = j
    · simp [h2]; intro q; exact absurd q.symm h
    · simp [h1, h2]
theorem upc_self2 {cs : Nat → CT} {q : Nat} {c : CT} (h : cs q = c) : upc cs q c = cs := by rw [← h, upc_self]
