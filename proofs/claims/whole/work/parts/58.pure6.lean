/-! candidates by the held rows, and by all certificates -/
/-- a holder's row is the certificates of its key, in their order -/
def HLD (κ : CS) (X : XT) : Prop := ∀ h, h < κ.2.2.1 1 → ∃ a, a ≤ 3 ∧ X.2.2.2.1 h = a ∧ cnt (fun k => decide (X.1 k = h)) (κ.2.2.1 0) = a ∧ (∀ r, a ≤ r → X.2.2.2.2.1 h r = none) ∧ ∀ r, r < a → ∃ k, X.2.2.2.2.1 h r = some k ∧ k < κ.2.2.1 0 ∧ X.1 k = h ∧ cnt (fun z => decide (X.1 z = h)) k = r
theorem cand_sb {κ : CS} {X : XT} (hT : TIE κ X) (hS : ShX κ X) {i k : Nat} (hi : i < κ.2.2.1 0) (hk : k < κ.2.2.1 0) : candB κ i k = (!decide (k = i) && decide (X.1 k = X.2.1 i)) := by
  have h2 := hS.2.1
  have h3 := hS.is hi
  unfold candB
  rw [(hT i hi).2.2.2.2, key_eq1 hT hS hk (by omega)]
  by_cases e : X.1 k = X.2.1 i
  · have : κ.1 0 k = κ.1 4 i := by rw [(hT k hk).2.1, (hT i hi).2.2.2.1, e]
    rw [decide_eq_true this, decide_eq_true e]; simp
  · rw [decide_eq_false e]; simp
