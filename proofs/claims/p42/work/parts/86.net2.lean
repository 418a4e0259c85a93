/-! a name that is set is a number; what fits, what is refused, by numbers -/
theorem nm7 {κ : CS} (hI : InvM κ) {i : Nat} (hi : i < κ.2.2.1 0) : ∃ b : Nat, b ≤ 9999 ∧ κ.1 7 i = nI b := by
  rcases hI.2.2.1 i hi with h | ⟨a, _, h2, h3⟩
  · exact ⟨0, by decide, h⟩
  · exact ⟨a, h2, h3⟩
theorem nm8 {κ : CS} (hI : InvM κ) {i : Nat} (hi : i < κ.2.2.1 0) : ∃ b : Nat, b ≤ 9999 ∧ κ.1 8 i = nI b := by
  rcases hI.2.2.2.1 i hi with h | ⟨a, _, h2, h3⟩
  · exact ⟨0, by decide, h⟩
  · exact ⟨a, h2, h3⟩
theorem okN_nI {κ : CS} {nx wi a b7 b8 : Nat} (ha : κ.1 0 wi = nI a) (ha2 : a ≤ 9999) (h7 : κ.1 7 nx = nI b7) (h72 : b7 ≤ 9999) (h8 : κ.1 8 nx = nI b8) (h82 : b8 ≤ 9999) : okN κ nx wi = ((decide (b7 = 0) || und 4 a b7) && (decide (b8 = 0) || !und 4 a b8)) := by
  unfold okN
  rw [ha, h7, h8, belowB_nI (by omega) (by omega), belowB_nI (by omega) (by omega), ← und_4 (show a < 10000 by omega), ← und_4 (show a < 10000 by omega)]
  rw [show decide (nI b7 = 0) = decide (b7 = 0) from by rw [decide_eq_decide]; exact nat_if_eq (by omega), show decide (nI b8 = 0) = decide (b8 = 0) from by rw [decide_eq_decide]; exact nat_if_eq (by omega)]
theorem allN_f {p : Nat → Bool} {n k : Nat} (hk : k < n) (h : p k = false) : allN p n = false := by
  induction n with
  | zero => omega
  | succ n ih =>
    show (allN p n && p n) = false
    by_cases e : k = n
    · subst e; rw [h]; simp
    · rw [ih (by omega)]; rfl
theorem allN_t {p : Nat → Bool} {k : Nat} (h : p k = true) (h2 : allN p k = true) : allN p (k + 1) = true := by show (allN p k && p k) = true; rw [h, h2]; rfl
theorem lenI_t {κ : CS} {i : Nat} (h : κ.2.1 0 i = true) : lenI κ i = κ.1 6 i := by unfold lenI; rw [if_pos h]
/-- the rows of new certificates: a root's, a child's -/
def rtN (N : Nat → Int32) (n k : Nat) (nm ds ln : Int32) : Nat → Int32 := upd (mkN (upd N 1 (nI (k + 1))) n nm (nI (k + 1)) nm (nI (k + 1)) ds ln) (10 + 14 * n + 13) (nI 1)
def chN (N : Nat → Int32) (n k c : Nat) (nm ds ln : Int32) : Nat → Int32 := mkN (upd N 1 (nI (k + 1))) n nm (nI (k + 1)) (N (10 + 14 * c)) (N (10 + 14 * c + 1)) ds ln
