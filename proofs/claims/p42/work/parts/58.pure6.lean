/-! candidates by the held rows, and by all certificates -/
/-- a holder's row is the certificates of its key, in their order -/
def HLD (κ : CS) (X : XT) : Prop := ∀ h, h < κ.2.2.1 1 → ∃ a, a ≤ 3 ∧ X.2.2.2.1 h = a ∧ cnt (fun k => decide (X.1 k = h)) (κ.2.2.1 0) = a ∧ (∀ r, a ≤ r → X.2.2.2.2.1 h r = none) ∧ ∀ r, r < a → ∃ k, X.2.2.2.2.1 h r = some k ∧ k < κ.2.2.1 0 ∧ X.1 k = h ∧ cnt (fun z => decide (X.1 z = h)) k = r
theorem cand_sb {κ : CS} {X : XT} (hT : TIE κ X) (hS : ShX κ X) {i k : Nat} (hi : i < κ.2.2.1 0) (hk : k < κ.2.2.1 0) : candB κ i k = (!decide (k = i) && decide (X.1 k = X.2.1 i)) := by
  have h2 := hS.2.1
  have h3 := hS.is hi
  unfold candB
  rw [(hT i hi).2.2.2.2, key_eq1 hT hS hk (by omega)]
  by_cases e : X.1 k = X.2.1 i
  · have : κ.1 0 k = κ.1 4 i := by rw [(hT k hk).2.1, (hT i hi).2.2.2.1, e]
    rw [decide_eq_true this, decide_eq_true e]; simp
  · rw [decide_eq_false e]; simp
theorem sd_eq {κ : CS} {X : XT} (hS : ShX κ X) (hE : ∀ i, i < κ.2.2.1 0 → κ.1 9 i ≤ nI (κ.2.2.1 2)) {k : Nat} (hk : k < κ.2.2.1 0) : sdB κ k = sndB κ k := by
  unfold sdB sndB beginB
  rw [vaB_eq]
  congr 1
  rcases hS.2.2.2.2.2 k hk with q | q
  · unfold offB; rw [q]; rfl
  · have h1 : ¬ κ.1 9 k = -1 := fun z => q (by rw [z]; decide)
    have h2 : ¬ nI (κ.2.2.1 2) < κ.1 9 k := Int32.not_lt.mpr (hE k hk)
    unfold offB; rw [decide_eq_false h1, decide_eq_false q, decide_eq_false h2]; rfl
