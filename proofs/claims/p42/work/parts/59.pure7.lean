/-! the class's ways through chains, as functions -/
def addC (t : CT) (k : Nat) : CT := (va_up t.1 t.2.1 (some k), t.2.1 + 1, t.2.2)
def popC (t : CT) : CT := (t.1, t.2.1 - 1, t.2.2)
def fbL (body : Nat → CT × CT → CT × CT) : Nat → Nat → CT × CT → CT × CT
  | 0, _, z => z
  | f + 1, r, z => fbL body f (r + 1) (body r z)
/-- one rank of the search: the candidate that fits is laid, searched from, and taken off -/
def fbB (κ : CS) (X : XT) (go : CT → CT → CT × CT) (i r : Nat) (z : CT × CT) : CT × CT := match cdC X i (nI r) with
  | none => z
  | some k => if decide (refC κ (wyO z.1) z.1.2.1 k z.1.2.2 = 111) then (popC (go (addC z.1 k) z.2).1, (go (addC z.1 k) z.2).2) else z
def fbK (κ : CS) (X : XT) : Nat → CT → CT → CT × CT
  | 0, t, b => (t, b)
  | d + 1, t, b => match lastC t with
    | none => (t, b)
    | some i => if decide (0 < b.2.1) && decide (b.2.1 ≤ t.2.1) then (t, b) else if thC κ X t then (t, cpC t b) else fbL (fbB κ X (fbK κ X d) i) 3 0 (t, b)
theorem addC_ok {κ : CS} {t : CT} {k : Nat} (h : ShC κ t) (h7 : t.2.1 < 7) (hk : k < κ.2.2.1 0) : ShC κ (addC t k) := by
  refine ⟨by show t.2.1 + 1 ≤ 7; omega, ?_, ?_⟩
  · intro r hr j hj
    have hj2 : (if r = t.2.1 then some k else t.1 r) = some j := hj
    split at hj2
    · cases hj2; exact hk
    · exact h.2.1 r hr j hj2
  · intro r hr
    have hr2 : r < t.2.1 + 1 := hr
    show (if r = t.2.1 then some k else t.1 r) ≠ none
    split
    · simp
    · exact h.2.2 r (by omega)
theorem popC_ok {κ : CS} {t : CT} (h : ShC κ t) : ShC κ (popC t) := ⟨Nat.le_trans (Nat.sub_le _ _) h.1, h.2.1, fun r hr => h.2.2 r (Nat.lt_of_lt_of_le hr (Nat.sub_le _ _))⟩
theorem cpC_ok {κ : CS} {t b : CT} (h : ShC κ t) (hb : ShC κ b) : ShC κ (cpC t b) := by
  refine ⟨h.1, ?_, ?_⟩
  · intro r hr j hj
    have hj2 : (if r < t.2.1 then t.1 r else b.1 r) = some j := hj
    split at hj2
    · exact h.2.1 r hr j hj2
    · exact hb.2.1 r hr j hj2
  · intro r hr
    have hr2 : r < t.2.1 := hr
    show (if r < t.2.1 then t.1 r else b.1 r) ≠ none
    rw [if_pos hr2]; exact h.2.2 r hr2
/-- what a search keeps -/
def KeepC (κ : CS) (t : CT) (z : CT × CT) : Prop := ShC κ z.1 ∧ ShC κ z.2 ∧ z.1.2 = t.2 ∧ ∀ r, r < t.2.1 → z.1.1 r = t.1 r
theorem fbL_keep {κ : CS} {t : CT} {body : Nat → CT × CT → CT × CT} (hb : ∀ r z, KeepC κ t z → KeepC κ t (body r z)) : ∀ f r z, KeepC κ t z → KeepC κ t (fbL body f r z)
  | 0, _, _, h => h
  | f + 1, r, z, h => fbL_keep hb f (r + 1) (body r z) (hb r z h)
theorem fbB_keep {κ : CS} {X : XT} (hI : InvM κ) (hS : ShX κ X) {t : CT} {go : CT → CT → CT × CT} {i : Nat} (hi : i < κ.2.2.1 0) (h1 : 1 ≤ t.2.1) (hgo : t.2.1 < 7 → ∀ t' b, ShC κ t' → ShC κ b → t'.2.1 = t.2.1 + 1 → KeepC κ t' (go t' b)) : ∀ r z, KeepC κ t z → KeepC κ t (fbB κ X go i r z) := by
  intro r z hz
  obtain ⟨z1, z2, z3, z4⟩ := hz
  have zs : z.1.2.1 = t.2.1 := by rw [z3]
  unfold fbB
  cases hc : cdC X i (nI r) with
  | none => exact ⟨z1, z2, z3, z4⟩
  | some k =>
    show KeepC κ t (if decide (refC κ (wyO z.1) z.1.2.1 k z.1.2.2 = 111) then _ else z)
    by_cases hr : refC κ (wyO z.1) z.1.2.1 k z.1.2.2 = 111
    · have hk := (cdC_lt hS hi hc).1
      have h6 := refC_sz hI hk (by have := z1.1; omega) hr
      rw [decide_eq_true hr]
      obtain ⟨g1, g2, g3, g4⟩ := hgo (by omega) (addC z.1 k) z.2 (addC_ok z1 (by omega) hk) z2 (by show z.1.2.1 + 1 = _; omega)
      refine ⟨popC_ok g1, g2, ?_, ?_⟩
      · show ((go (addC z.1 k) z.2).1.2.1 - 1, (go (addC z.1 k) z.2).1.2.2) = t.2
        rw [g3]; show (z.1.2.1 + 1 - 1, z.1.2.2) = t.2
        rw [← z3]; rfl
      · intro r2 hr2
        show (go (addC z.1 k) z.2).1.1 r2 = t.1 r2
        rw [g4 r2 (by show r2 < z.1.2.1 + 1; omega)]
        show (if r2 = z.1.2.1 then some k else z.1.1 r2) = t.1 r2
        rw [if_neg (by omega)]; exact z4 r2 hr2
    · rw [decide_eq_false hr]; exact ⟨z1, z2, z3, z4⟩
theorem fbK_keep {κ : CS} {X : XT} (hI : InvM κ) (hS : ShX κ X) : ∀ d t b, ShC κ t → ShC κ b → 1 ≤ t.2.1 → KeepC κ t (fbK κ X d t b)
  | 0, t, b, h1, h2, _ => ⟨h1, h2, rfl, fun _ _ => rfl⟩
  | d + 1, t, b, h1, h2, h3 => by
    unfold fbK
    cases hl : lastC t with
    | none => exact ⟨h1, h2, rfl, fun _ _ => rfl⟩
    | some i =>
      show KeepC κ t (if decide (0 < b.2.1) && decide (b.2.1 ≤ t.2.1) then (t, b) else if thC κ X t then (t, cpC t b) else fbL (fbB κ X (fbK κ X d) i) 3 0 (t, b))
      split
      · exact ⟨h1, h2, rfl, fun _ _ => rfl⟩
      · split
        · exact ⟨h1, cpC_ok h1 h2, rfl, fun _ _ => rfl⟩
        · exact fbL_keep (fbB_keep hI hS (lastC_lt h1 hl) h3 (fun _ t' b' a c e => fbK_keep hI hS d t' b' a c (by omega))) 3 0 (t, b) ⟨h1, h2, rfl, fun _ _ => rfl⟩
