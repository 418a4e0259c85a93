/-! the class's ways through chains, as functions -/
def addC (t : CT) (k : Nat) : CT := (va_up t.1 t.2.1 (some k), t.2.1 + 1, t.2.2)
def popC (t : CT) : CT := (t.1, t.2.1 - 1, t.2.2)
def fbL (body : Nat → CT × CT → CT × CT) : Nat → Nat → CT × CT → CT × CT
  | 0, _, z => z
  | f + 1, r, z => fbL body f (r + 1) (body r z)
/-- one rank of the search: the candidate that fits is laid, searched from, and taken off -/
def fbB (κ : CS) (X : XT) (go : CT → CT → CT × CT) (i r : Nat) (z : CT × CT) : CT × CT := match cdC X i (nI r) with
  | none => z
  | some k => if decide (refC κ (wyO z.1) z.1.2.1 k z.1.2.2 = 111) then (popC (go (addC z.1 k) z.2).1, (go (addC z.1 k) z.2).2) else z
def fbK (κ : CS) (X : XT) : Nat → CT → CT → CT × CT
  | 0, t, b => (t, b)
  | d + 1, t, b => match lastC t with
    | none => (t, b)
    | some i => if decide (0 < b.2.1) && decide (b.2.1 ≤ t.2.1) then (t, b) else if thC κ X t then (t, cpC t b) else fbL (fbB κ X (fbK κ X d) i) 3 0 (t, b)
theorem addC_ok {κ : CS} {t : CT} {k : Nat} (h : ShC κ t) (h7 : t.2.1 < 7) (hk : k < κ.2.2.1 0) : ShC κ (addC t k) := by
  refine ⟨by show t.2.1 + 1 ≤ 7; omega, ?_, ?_⟩
  · intro r hr j hj
    have hj2 : (if r = t.2.1 then some k else t.1 r) = some j := hj
    split at hj2
    · cases hj2; exact hk
    · exact h.2.1 r hr j hj2
  · intro r hr
    have hr2 : r < t.2.1 + 1 := hr
    show (if r = t.2.1 then some k else t.1 r) ≠ none
    split
    · simp
    · exact h.2.2 r (by omega)
theorem popC_ok {κ : CS} {t : CT} (h : ShC κ t) : ShC κ (popC t) := ⟨Nat.le_trans (Nat.sub_le _ _) h.1, h.2.1, fun r hr => h.2.2 r (Nat.lt_of_lt_of_le hr (Nat.sub_le _ _))⟩
theorem cpC_ok {κ : CS} {t b : CT} (h : ShC κ t) (hb : ShC κ b) : ShC κ (cpC t b) := by
  refine ⟨h.1, ?_, ?_⟩
  · intro r hr j hj
    have hj2 : (if r < t.2.1 then t.1 r else b.1 r) = some j := hj
    split at hj2
    · exact h.2.1 r hr j hj2
    · exact hb.2.1 r hr j hj2
  · intro r hr
    have hr2 : r < t.2.1 := hr
    show (if r < t.2.1 then t.1 r else b.1 r) ≠ none
    rw [if_pos hr2]; exact h.2.2 r hr2
