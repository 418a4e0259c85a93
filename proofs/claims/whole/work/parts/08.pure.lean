/-! the mathematical state that both sides are tied to, and what the small methods answer -/
/-- certificates' ints (0 name, 1 key, 2 first, 3 last, 4 issuer's name, 5 issuer's key, 6 length, 7 permitted, 8 excluded, 9 effect) and booleans (0 authority, 1 root, 2 trusted, 3 marked); numbers (0 certificates, 1 keys, 2 day, 3 walked); the walk; its day -/
abbrev CS : Type := (Nat → Nat → Int32) × (Nat → Nat → Bool) × (Nat → Nat) × (Nat → Nat) × Int32
def upI (I : Nat → Nat → Int32) (f j : Nat) (x : Int32) : Nat → Nat → Int32 := fun f' => if f' = f then upd (I f) j x else I f'
def upb (f : Nat → Bool) (j : Nat) (x : Bool) : Nat → Bool := fun k => if k = j then x else f k
def upB (B : Nat → Nat → Bool) (f j : Nat) (x : Bool) : Nat → Nat → Bool := fun f' => if f' = f then upb (B f) j x else B f'
def upn (f : Nat → Nat) (j x : Nat) : Nat → Nat := fun k => if k = j then x else f k
theorem upn_nI (f : Nat → Nat) (j x : Nat) : upd (fun i => nI (f i)) j (nI x) = fun i => nI (upn f j x i) := by
  funext k; unfold upd upn; split <;> rfl
theorem upb_zb (f : Nat → Bool) (j : Nat) (x : Bool) : upd (fun i => zb (f i)) j (zb x) = fun i => zb (upb f j x i) := by
  funext k; unfold upd upb; split <;> rfl
/-- all digits of a number but the leading zeros are not 0 -/
def nz : Nat → Nat → Bool
  | 0, _ => true
  | f + 1, j => if j = 0 then true else decide (j % 10 ≠ 0) && nz f (j / 10)
theorem nz_0 (f : Nat) : nz f 0 = true := by cases f <;> rfl
theorem nz_s {f j : Nat} (hj : 0 < j) (h : j < 10 ^ f) : nz f j = (decide (j % 10 ≠ 0) && nz (f - 1) (j / 10)) ∧ j / 10 < 10 ^ (f - 1) := by
  cases f with
  | zero => simp at h; omega
  | succ f =>
    refine ⟨?_, ?_⟩
    · show (if j = 0 then true else decide (j % 10 ≠ 0) && nz f (j / 10)) = _
      rw [if_neg (by omega)]
      rfl
    · rw [Nat.pow_succ] at h
      show j / 10 < 10 ^ f
      omega
def nameB (x : Int32) : Bool := decide ((1 : Int32) ≤ x ∧ x ≤ 9999) && nz 10 x.toNatClampNeg
/-- a name is below another one -/
def und : Nat → Nat → Nat → Bool
  | 0, k, o => k == o
  | f + 1, k, o => if o < k then und f (k / 10) o else k == o
theorem und_le {f k o : Nat} (h : k ≤ o) : und f k o = (k == o) := by
  cases f with
  | zero => rfl
  | succ f => show (if o < k then _ else _) = _; rw [if_neg (by omega)]
theorem und_s {f k o : Nat} (h : o < k) (hk : k < 10 ^ f) : und f k o = und (f - 1) (k / 10) o ∧ k / 10 < 10 ^ (f - 1) := by
  cases f with
  | zero => simp at hk; omega
  | succ f =>
    refine ⟨?_, ?_⟩
    · show (if o < k then _ else _) = _
      rw [if_pos h]; rfl
    · rw [Nat.pow_succ] at hk
      show k / 10 < 10 ^ f
      omega
def belowB (x y : Int32) : Bool := und 10 x.toNatClampNeg y.toNatClampNeg
/-- a certificate's number of n -/
def inR (n : Nat) (c : Int32) : Bool := decide ((0 : Int32) ≤ c) && decide (c.toNatClampNeg < n)
theorem inR_nI {n j : Nat} (hj : j < 2147483648) : inR n (nI j) = decide (j < n) := by
  unfold inR; rw [nI_clamp hj, decide_eq_true (nI_pos' hj)]; rfl
theorem inR_neg {n : Nat} {x : Int32} (h : x < 0) : inR n x = false := by
  unfold inR; rw [decide_eq_false (fun q => Int32.lt_irrefl (Int32.lt_of_lt_of_le h q))]; rfl
theorem inR_spec {n : Nat} {c : Int32} (h : inR n c = true) (hn : n < 2147483648) : ∃ j, j < n ∧ c = nI j := by
  rcases i32_cases c with ⟨j, hj, rfl⟩ | h2
  · rw [inR_nI hj] at h; exact ⟨j, of_decide_eq_true h, rfl⟩
  · rw [inR_neg h2] at h; cases h
def dayB (x : Int32) : Bool := decide ((1 : Int32) ≤ x ∧ x ≤ 999)
def lenB (x : Int32) : Bool := decide ((0 : Int32) ≤ x ∧ x ≤ 5)
def isInB (v lo hi : Int32) : Bool := decide (lo ≤ v ∧ v ≤ hi)
theorem isInB_lo {v lo hi : Int32} (h : v < lo) : isInB v lo hi = false := decide_eq_false fun q => Int32.lt_irrefl (Int32.lt_of_lt_of_le h q.1)
theorem isInB_hi {v lo hi : Int32} (h : hi < v) : isInB v lo hi = false := decide_eq_false fun q => Int32.lt_irrefl (Int32.lt_of_lt_of_le h q.2)
theorem isInB_in {v lo hi : Int32} (h1 : ¬ v < lo) (h2 : ¬ hi < v) : isInB v lo hi = true := decide_eq_true ⟨Int32.not_lt.mp h1, Int32.not_lt.mp h2⟩
theorem isInB_nI {j a b : Nat} (hj : j < 2147483648) (ha : a < 2147483648) (hb : b < 2147483648) : isInB (nI j) (nI a) (nI b) = decide (a ≤ j ∧ j ≤ b) := by
  unfold isInB; rw [decide_eq_decide, nI_leI ha hj, nI_leI hj hb]
theorem isInB_neg {x b : Int32} {a : Nat} (h : x < 0) (ha : a < 2147483648) : isInB x (nI a) b = false := decide_eq_false fun q => Int32.lt_irrefl (Int32.lt_of_lt_of_le h (Int32.le_trans (nI_pos' ha) q.1))
theorem isInB_inR {n : Nat} {x : Int32} (hn : n ≤ 40) : isInB x (nI 0) (nI n - nI 1) = inR n x := by
  rcases i32_cases x with ⟨j, hj, rfl⟩ | h
  · rw [inR_nI hj]
    rcases Nat.eq_zero_or_pos n with h0 | h0
    · subst h0
      have e : nI 0 - nI 1 = -1 := by decide
      rw [e, decide_eq_false (by omega)]
      refine decide_eq_false fun q => ?_
      have h1 := Int32.le_trans (nI_pos' hj) q.2
      exact absurd h1 (by decide)
    · rw [pk_sub h0, isInB_nI hj (by omega) (by omega), decide_eq_decide]
      omega
  · rw [inR_neg h, isInB_neg h (by omega)]
theorem nameB_neg {x : Int32} (h : x < 0) : nameB x = false := by
  unfold nameB; rw [decide_eq_false (fun q => Int32.lt_irrefl (Int32.lt_of_lt_of_le h (Int32.le_trans (by decide) q.1)))]; rfl
theorem nameB_nI {j : Nat} (hj : j < 2147483648) : nameB (nI j) = (isInB (nI j) (nI 1) (nI 9999) && nz 10 j) := by
  unfold nameB isInB; rw [nI_clamp hj]; rfl
theorem nameB_le {x : Int32} (h : nameB x = true) : ∃ j, 1 ≤ j ∧ j ≤ 9999 ∧ x = nI j ∧ nz 10 j = true := by
  rcases i32_cases x with ⟨j, hj, rfl⟩ | h2
  · rw [nameB_nI hj, isInB_nI hj (by omega) (by omega)] at h
    simp at h
    exact ⟨j, h.1.1, h.1.2, rfl, h.2⟩
  · rw [nameB_neg h2] at h; cases h
theorem belowB_nI {a b : Nat} (ha : a < 2147483648) (hb : b < 2147483648) : belowB (nI a) (nI b) = und 10 a b := by
  unfold belowB; rw [nI_clamp ha, nI_clamp hb]
/-- a certificate is made: its row, one more of them -/
def mkK (κ : CS) (nm ky bn bk dy : Int32) : CS :=
  (upI (upI (upI (upI (upI (upI (upI κ.1 0 (κ.2.2.1 0) nm) 1 (κ.2.2.1 0) ky) 4 (κ.2.2.1 0) bn) 5 (κ.2.2.1 0) bk) 2 (κ.2.2.1 0) (nI (κ.2.2.1 2))) 3 (κ.2.2.1 0) (nI (κ.2.2.1 2) + dy - nI 1)) 9 (κ.2.2.1 0) (-1), κ.2.1, upn κ.2.2.1 0 (κ.2.2.1 0 + 1), κ.2.2.2)
/-- it is an authority -/
def auK (κ : CS) (i : Nat) (ln : Int32) : CS := (upI κ.1 6 i ln, upB κ.2.1 0 i true, κ.2.2)
/-- a key more -/
def kyK (κ : CS) : CS := (κ.1, κ.2.1, upn κ.2.2.1 1 (κ.2.2.1 1 + 1), κ.2.2.2)
def setB (κ : CS) (f i : Nat) (b : Bool) : CS := (κ.1, upB κ.2.1 f i b, κ.2.2)
def setI (κ : CS) (f i : Nat) (v : Int32) : CS := (upI κ.1 f i v, κ.2)
def setN (κ : CS) (j v : Nat) : CS := (κ.1, κ.2.1, upn κ.2.2.1 j v, κ.2.2.2)
/-- an operation's outcome: which exception of its list (0 none), the answer, the state behind -/
abbrev Out : Type := Nat × Int32 × CS
def opMakeRoot (κ : CS) (nm dy ln : Int32) : Out :=
  if nameB nm && isInB dy (nI 1) (nI 999) && isInB ln (nI 0) (nI 5) then
    if κ.2.2.1 0 = 40 then (2, nI 0, κ) else (0, nI (κ.2.2.1 0), setB (auK (mkK (kyK κ) nm (nI (κ.2.2.1 1 + 1)) nm (nI (κ.2.2.1 1 + 1)) dy) (κ.2.2.1 0) ln) 1 (κ.2.2.1 0) true)
  else (1, nI 0, κ)
