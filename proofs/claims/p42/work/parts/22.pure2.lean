/-! the log, shares and means: what the reference computes -/
def jn (a b : Int64) : Int64 := (1009 * a + 9176 * b + 31) - (1009 * a + 9176 * b + 31) / 1000000007 * 1000000007
def entX (x n k j : Int64) : Int64 := (131 * x + 8191 * n + 127 * k + 65537 * j + 11) - (131 * x + 8191 * n + 127 * k + 65537 * j + 11) / 1000000007 * 1000000007
def ent (κ : CS) (i : Nat) : Int64 := entX (nI i).toInt64 (κ.1 0 i).toInt64 (κ.1 1 i).toInt64 (κ.1 5 i).toInt64
def splF : Nat → Nat → Nat → Nat
  | 0, k, _ => k
  | f + 1, k, sz => if 2 * k < sz then splF f (k * 2) sz else k
theorem splF_s {f k sz : Nat} (h : 2 * k < sz) (hsz : sz ≤ 40) (hk : k * 2 ^ f = 64) : splF f k sz = splF (f - 1) (k * 2) sz ∧ (k * 2) * 2 ^ (f - 1) = 64 := by
  cases f with
  | zero => simp at hk; omega
  | succ f =>
    refine ⟨?_, ?_⟩
    · show (if 2 * k < sz then _ else _) = _
      rw [if_pos h]; rfl
    · rw [Nat.pow_succ] at hk
      show k * 2 * 2 ^ f = 64
      rw [← hk, Nat.mul_assoc, Nat.mul_comm 2]
theorem splF_e {f k sz : Nat} (h : sz ≤ 2 * k) : splF f k sz = k := by
  cases f with
  | zero => rfl
  | succ f => show (if 2 * k < sz then _ else _) = _; rw [if_neg (by omega)]
def spl (sz : Nat) : Nat := splF 6 1 sz
theorem spl_spec : ∀ sz, sz < 41 → 2 ≤ sz → 1 ≤ spl sz ∧ spl sz < sz ∧ sz ≤ 2 * spl sz ∧ ∀ d, d < 7 → sz ≤ 2 ^ (d + 1) → spl sz ≤ 2 ^ d := by decide +kernel
def rt (κ : CS) : Nat → Nat → Nat → Int64
  | 0, f, _ => ent κ f
  | d + 1, f, sz => if decide (sz = 1) then ent κ f else jn (rt κ d f (spl sz)) (rt κ d (f + spl sz) (sz - spl sz))
def ad1 (q : Nat × (Nat → Int64)) (h : Int64) : Nat × (Nat → Int64) := (q.1 + 1, vp_updL q.2 q.1 h)
def pvK (κ : CS) (en : Nat) : Nat → Nat → Nat → Nat × (Nat → Int64) → Nat × (Nat → Int64)
  | 0, _, _, q => q
  | d + 1, fr, sz, q => if decide (1 < sz) then (if decide (en < fr + spl sz) then ad1 (pvK κ en d fr (spl sz) q) (rt κ 6 (fr + spl sz) (sz - spl sz)) else ad1 (pvK κ en d (fr + spl sz) (sz - spl sz) q) (rt κ 6 fr (spl sz))) else q
theorem pvK_le (κ : CS) (en : Nat) : ∀ d fr sz q, (pvK κ en d fr sz q).1 ≤ q.1 + d
  | 0, _, _, _ => Nat.le_refl _
  | d + 1, fr, sz, q => by
    show (if decide (1 < sz) then (if decide (en < fr + spl sz) then ad1 (pvK κ en d fr (spl sz) q) _ else ad1 (pvK κ en d (fr + spl sz) (sz - spl sz) q) _) else q).1 ≤ _
    split
    · split
      · have := pvK_le κ en d fr (spl sz) q; show _ + 1 ≤ _; omega
      · have := pvK_le κ en d (fr + spl sz) (sz - spl sz) q; show _ + 1 ≤ _; omega
    · omega
def gwK (κ : CS) (sm : Nat) : Nat → Nat → Nat → Nat × (Nat → Int64) → Nat × (Nat → Int64)
  | 0, fr, sz, q => if decide (0 < fr) then ad1 q (rt κ 6 fr sz) else q
  | d + 1, fr, sz, q => if decide (sm = fr + sz) then (if decide (0 < fr) then ad1 q (rt κ 6 fr sz) else q)
    else if decide (fr + spl sz < sm) then ad1 (gwK κ sm d (fr + spl sz) (sz - spl sz) q) (rt κ 6 fr (spl sz)) else ad1 (gwK κ sm d fr (spl sz) q) (rt κ 6 (fr + spl sz) (sz - spl sz))
theorem gwK_le (κ : CS) (sm : Nat) : ∀ d fr sz q, (gwK κ sm d fr sz q).1 ≤ q.1 + (d + 1)
  | 0, fr, sz, q => by
    show (if decide (0 < fr) then ad1 q (rt κ 6 fr sz) else q).1 ≤ _
    split
    · show q.1 + 1 ≤ _; omega
    · omega
  | d + 1, fr, sz, q => by
    show (if decide (sm = fr + sz) then (if decide (0 < fr) then ad1 q (rt κ 6 fr sz) else q) else if decide (fr + spl sz < sm) then ad1 (gwK κ sm d (fr + spl sz) (sz - spl sz) q) (rt κ 6 fr (spl sz)) else ad1 (gwK κ sm d fr (spl sz) q) (rt κ 6 (fr + spl sz) (sz - spl sz))).1 ≤ _
    split
    · split
      · show q.1 + 1 ≤ _; omega
      · omega
    · split
      · have := gwK_le κ sm d (fr + spl sz) (sz - spl sz) q; show _ + 1 ≤ _; omega
      · have := gwK_le κ sm d fr (spl sz) q; show _ + 1 ≤ _; omega
def sizB (κ : CS) (x : Int32) : Bool := isInB x (nI 1) (nI (κ.2.2.1 0))
theorem sizB_ex {κ : CS} {x : Int32} (h : sizB κ x = true) (hn : κ.2.2.1 0 ≤ 40) : ∃ j, 1 ≤ j ∧ j ≤ κ.2.2.1 0 ∧ x = nI j := by
  unfold sizB at h
  rcases i32_cases x with ⟨j, hj, rfl⟩ | h2
  · rw [isInB_nI hj (by omega) (by omega)] at h
    have := of_decide_eq_true h
    exact ⟨j, this.1, this.2, rfl⟩
  · rw [isInB_neg h2 (by omega)] at h; cases h
def opRoot (κ : CS) (x : Int32) : Nat × Int64 := if sizB κ x then (0, rt κ 6 0 (xj x)) else (1, 0)
/-- proofs: which exception (0 none) -/
def prC (κ : CS) (xe xs : Int32) : Nat := if sizB κ xs then (if inR (xj xs) xe then 0 else 2) else 1
def prQ (κ : CS) (xe xs : Int32) (rm : Nat) (row : Nat → Int64) : Nat × (Nat → Int64) := if decide (prC κ xe xs = 0) then pvK κ (xj xe) 6 0 (xj xs) (0, row) else (rm, row)
def grC (κ : CS) (xe xs : Int32) : Nat := if sizB κ xs then (if isInB xe (nI 1) xs then 0 else 2) else 1
def grQ (κ : CS) (xe xs : Int32) (rm : Nat) (row : Nat → Int64) : Nat × (Nat → Int64) := if decide (grC κ xe xs = 0) then gwK κ (xj xe) 6 0 (xj xs) (0, row) else (rm, row)
theorem prC_0 {κ : CS} {xe xs : Int32} (h : prC κ xe xs = 0) (hn : κ.2.2.1 0 ≤ 40) : ∃ e s, e < s ∧ 1 ≤ s ∧ s ≤ κ.2.2.1 0 ∧ xe = nI e ∧ xs = nI s := by
  unfold prC at h
  by_cases h1 : sizB κ xs = true
  · obtain ⟨s, a, b, rfl⟩ := sizB_ex h1 hn
    rw [if_pos h1, show xj (nI s) = s from nI_clamp (by omega)] at h
    by_cases h2 : inR s xe = true
    · obtain ⟨e, c, rfl⟩ := inR_spec h2 (by omega)
      exact ⟨e, s, c, a, b, rfl, rfl⟩
    · simp [h2] at h
  · simp [h1] at h
theorem grC_0 {κ : CS} {xe xs : Int32} (h : grC κ xe xs = 0) (hn : κ.2.2.1 0 ≤ 40) : ∃ e s, 1 ≤ e ∧ e ≤ s ∧ 1 ≤ s ∧ s ≤ κ.2.2.1 0 ∧ xe = nI e ∧ xs = nI s := by
  unfold grC at h
  by_cases h1 : sizB κ xs = true
  · obtain ⟨s, a, b, rfl⟩ := sizB_ex h1 hn
    rw [if_pos h1] at h
    by_cases h2 : isInB xe (nI 1) (nI s) = true
    · rcases i32_cases xe with ⟨e, c, rfl⟩ | h3
      · rw [isInB_nI c (by omega) (by omega)] at h2
        have := of_decide_eq_true h2
        exact ⟨e, s, this.1, this.2, a, b, rfl, rfl⟩
      · rw [isInB_neg h3 (by omega)] at h2; cases h2
    · simp [h2] at h
  · simp [h1] at h
def opPrS (κ : CS) (xe xs : Int32) (rm : Nat) (row : Nat → Int64) : Nat × Int32 := (prC κ xe xs, if decide (prC κ xe xs = 0) then nI (prQ κ xe xs rm row).1 else nI 0)
def opPrA (κ : CS) (xe xs xi : Int32) (rm : Nat) (row : Nat → Int64) : Nat × Int64 := if decide (prC κ xe xs = 0) then (if inR (prQ κ xe xs rm row).1 xi then (0, (prQ κ xe xs rm row).2 (xj xi)) else (2, 0)) else (prC κ xe xs, 0)
def opPrR (κ : CS) (xe xs : Int32) : Nat × Int64 := (prC κ xe xs, if decide (prC κ xe xs = 0) then rt κ 6 0 (xj xs) else 0)
def opGrS (κ : CS) (xe xs : Int32) (rm : Nat) (row : Nat → Int64) : Nat × Int32 := (grC κ xe xs, if decide (grC κ xe xs = 0) then nI (grQ κ xe xs rm row).1 else nI 0)
def opGrA (κ : CS) (xe xs xi : Int32) (rm : Nat) (row : Nat → Int64) : Nat × Int64 := if decide (grC κ xe xs = 0) then (if inR (grQ κ xe xs rm row).1 xi then (0, (grQ κ xe xs rm row).2 (xj xi)) else (2, 0)) else (grC κ xe xs, 0)
def sndB (κ : CS) (k : Nat) : Bool := beginB κ k (nI (κ.2.2.1 2))
def opSound (κ : CS) : Nat × UInt32 := if decide (κ.2.2.1 0 = 0) then (1, 0) else (0, FP.fdiv (FP.i2f (nI (cnt (sndB κ) (κ.2.2.1 0)))) (FP.i2f (nI (κ.2.2.1 0))))
def mcK (κ : CS) (ch : Nat → Nat) : Nat → Nat × Nat × (Nat → Nat)
  | 0 => (0, 0, ch)
  | k + 1 => ((mcK κ ch k).1 + (bst κ k (nI (κ.2.2.1 2)) (mcK κ ch k).2.2).1, (mcK κ ch k).2.1 + (if decide (0 < (bst κ k (nI (κ.2.2.1 2)) (mcK κ ch k).2.2).1) then 1 else 0), (bst κ k (nI (κ.2.2.1 2)) (mcK κ ch k).2.2).2)
theorem mcK_le (κ : CS) (ch : Nat → Nat) : ∀ k, (mcK κ ch k).1 ≤ 7 * k ∧ (mcK κ ch k).2.1 ≤ k
  | 0 => ⟨Nat.le_refl _, Nat.le_refl _⟩
  | k + 1 => by
    obtain ⟨a, b⟩ := mcK_le κ ch k
    have c : (bst κ k (nI (κ.2.2.1 2)) (mcK κ ch k).2.2).1 ≤ 7 := bestK_le κ k _ 7 0 _
    refine ⟨?_, ?_⟩
    · show _ + _ ≤ _; omega
    · show _ + _ ≤ _; split <;> omega
def opMean (κ : CS) (ch : Nat → Nat) : Nat × UInt64 := if decide ((mcK κ ch (κ.2.2.1 0)).2.1 = 0) then (1, 0) else (0, FP.ddiv (FP.i2d (nI (mcK κ ch (κ.2.2.1 0)).1)) (FP.i2d (nI (mcK κ ch (κ.2.2.1 0)).2.1)))
theorem fdiv_ok : ∀ a, a < 41 → ∀ b, b < 41 → b ≠ 0 → vf_n32 (FP.fdiv (FP.i2f (nI a)) (FP.i2f (nI b))) := by
  have h : ∀ a : Fin 41, ∀ b : Fin 41, b.val ≠ 0 → (FP.fdiv (FP.i2f (nI a.val)) (FP.i2f (nI b.val))) &&& 0x7fffffff ≤ 0x7f800000 := by decide +kernel
  exact fun a ha b hb h0 => h ⟨a, ha⟩ ⟨b, hb⟩ h0
theorem ddiv_ok : ∀ a, a < 281 → ∀ b, b < 41 → b ≠ 0 → vf_n64 (FP.ddiv (FP.i2d (nI a)) (FP.i2d (nI b))) := by
  have h : ∀ a : Fin 281, ∀ b : Fin 41, b.val ≠ 0 → (FP.ddiv (FP.i2d (nI a.val)) (FP.i2d (nI b.val))) &&& 0x7fffffffffffffff ≤ 0x7ff0000000000000 := by decide +kernel
  exact fun a ha b hb h0 => h ⟨a, ha⟩ ⟨b, hb⟩ h0
