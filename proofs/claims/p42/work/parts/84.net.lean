/-! the law's book: an array of 700 ints, and the mathematical state that it tells -/
/-- a certificate's 14 places -/
def colv (κ : CS) (c : Nat) : Nat → Int32
  | 0 => κ.1 0 c
  | 1 => κ.1 1 c
  | 2 => κ.1 4 c
  | 3 => κ.1 5 c
  | 4 => κ.1 2 c
  | 5 => κ.1 3 c
  | 6 => zb (κ.2.1 0 c)
  | 7 => lenI κ c
  | 8 => κ.1 7 c
  | 9 => κ.1 8 c
  | 10 => κ.1 9 c
  | 11 => zb (κ.2.1 3 c)
  | 12 => zb (κ.2.1 2 c)
  | _ => zb (κ.2.1 1 c)
def NT (N : Nat → Int32) (κ : CS) : Prop := N 0 = nI (κ.2.2.1 0) ∧ N 1 = nI (κ.2.2.1 1) ∧ N 2 = nI (κ.2.2.1 2) ∧ N 3 = nI (κ.2.2.1 3) ∧ (∀ c, c < κ.2.2.1 0 → ∀ f, f < 14 → N (10 + 14 * c + f) = colv κ c f) ∧ (∀ c, κ.2.2.1 0 ≤ c → c < 40 → ∀ f, f < 14 → N (10 + 14 * c + f) = nI 0) ∧ (κ.2.2.1 3 ≠ 0 → N 4 = κ.2.2.2.2) ∧ ∀ k, k < κ.2.2.1 3 → N (600 + k) = nI (κ.2.2.2.1 k)
section NTS
variable {N : Nat → Int32} {κ : CS} {c k : Nat}
theorem NT.n0 (h : NT N κ) : N 0 = nI (κ.2.2.1 0) := h.1
theorem NT.n1 (h : NT N κ) : N 1 = nI (κ.2.2.1 1) := h.2.1
theorem NT.n2 (h : NT N κ) : N 2 = nI (κ.2.2.1 2) := h.2.2.1
theorem NT.n3 (h : NT N κ) : N 3 = nI (κ.2.2.1 3) := h.2.2.2.1
theorem NT.n4 (h : NT N κ) (hw : κ.2.2.1 3 ≠ 0) : N 4 = κ.2.2.2.2 := h.2.2.2.2.2.2.1 hw
theorem NT.wk (h : NT N κ) (hk : k < κ.2.2.1 3) : N (600 + k) = nI (κ.2.2.2.1 k) := h.2.2.2.2.2.2.2 k hk
theorem NT.c0 (h : NT N κ) (hc : c < κ.2.2.1 0) : N (10 + 14 * c) = κ.1 0 c := h.2.2.2.2.1 c hc 0 (by decide)
theorem NT.c1 (h : NT N κ) (hc : c < κ.2.2.1 0) : N (10 + 14 * c + 1) = κ.1 1 c := h.2.2.2.2.1 c hc 1 (by decide)
theorem NT.c2 (h : NT N κ) (hc : c < κ.2.2.1 0) : N (10 + 14 * c + 2) = κ.1 4 c := h.2.2.2.2.1 c hc 2 (by decide)
theorem NT.c3 (h : NT N κ) (hc : c < κ.2.2.1 0) : N (10 + 14 * c + 3) = κ.1 5 c := h.2.2.2.2.1 c hc 3 (by decide)
theorem NT.c4 (h : NT N κ) (hc : c < κ.2.2.1 0) : N (10 + 14 * c + 4) = κ.1 2 c := h.2.2.2.2.1 c hc 4 (by decide)
theorem NT.c5 (h : NT N κ) (hc : c < κ.2.2.1 0) : N (10 + 14 * c + 5) = κ.1 3 c := h.2.2.2.2.1 c hc 5 (by decide)
theorem NT.c6 (h : NT N κ) (hc : c < κ.2.2.1 0) : N (10 + 14 * c + 6) = zb (κ.2.1 0 c) := h.2.2.2.2.1 c hc 6 (by decide)
theorem NT.c7 (h : NT N κ) (hc : c < κ.2.2.1 0) : N (10 + 14 * c + 7) = lenI κ c := h.2.2.2.2.1 c hc 7 (by decide)
theorem NT.c8 (h : NT N κ) (hc : c < κ.2.2.1 0) : N (10 + 14 * c + 8) = κ.1 7 c := h.2.2.2.2.1 c hc 8 (by decide)
theorem NT.c9 (h : NT N κ) (hc : c < κ.2.2.1 0) : N (10 + 14 * c + 9) = κ.1 8 c := h.2.2.2.2.1 c hc 9 (by decide)
theorem NT.c10 (h : NT N κ) (hc : c < κ.2.2.1 0) : N (10 + 14 * c + 10) = κ.1 9 c := h.2.2.2.2.1 c hc 10 (by decide)
theorem NT.c11 (h : NT N κ) (hc : c < κ.2.2.1 0) : N (10 + 14 * c + 11) = zb (κ.2.1 3 c) := h.2.2.2.2.1 c hc 11 (by decide)
theorem NT.c12 (h : NT N κ) (hc : c < κ.2.2.1 0) : N (10 + 14 * c + 12) = zb (κ.2.1 2 c) := h.2.2.2.2.1 c hc 12 (by decide)
theorem NT.c13 (h : NT N κ) (hc : c < κ.2.2.1 0) : N (10 + 14 * c + 13) = zb (κ.2.1 1 c) := h.2.2.2.2.1 c hc 13 (by decide)
theorem NT.fr (h : NT N κ) (hc : κ.2.2.1 0 ≤ c) (hc4 : c < 40) {f : Nat} (hf : f < 14) : N (10 + 14 * c + f) = nI 0 := h.2.2.2.2.2.1 c hc hc4 f hf
end NTS
/-- a cell's bits stirred, a number below n out of them -/
def cellA (i : Nat) (v : Int32) : Int32 := nI 69069 * (v + nI (1009 * i)) + nI 12345
def cellB (a : Int32) : Int32 := (a ^^^ (a.toUInt32 >>> ((nI 13).toUInt32 &&& Int32.toUInt32 31)).toInt32) * nI 1103515245
def cellC (b : Int32) : Int32 := b ^^^ (b.toUInt32 >>> ((nI 16).toUInt32 &&& Int32.toUInt32 31)).toInt32
def cellF (g : Nat → ClassId) (i : Nat) : Int32 := cellC (cellB (cellA i (if i < g 11 then scX g i else nI 0)))
def inM (x : Int32) : Nat := (x.toBitVec &&& 2147483647#32).toNat
theorem inM_lt (x : Int32) : inM x < 2147483648 := by
  unfold inM
  rw [BitVec.toNat_and]
  exact Nat.lt_of_le_of_lt Nat.and_le_right (by decide)
theorem inM_eq (x : Int32) : x &&& nI 2147483647 = nI (inM x) := by
  apply Int32.toBitVec_inj.mp
  show x.toBitVec &&& 2147483647#32 = BitVec.ofNat 32 _
  unfold inM
  simp
def inN (g : Nat → ClassId) (i n : Nat) : Nat := inM (cellF g i) % n
theorem inN_lt {g : Nat → ClassId} {i n : Nat} (h : 0 < n) : inN g i n < n := Nat.mod_lt _ h
theorem inN_eq {g : Nat → ClassId} {i n : Nat} (h0 : 0 < n) (hn : n < 2147483648) : (cellF g i &&& nI 2147483647) - (cellF g i &&& nI 2147483647) / nI n * nI n = nI (inN g i n) := by
  rw [inM_eq]
  exact pk_rem (inM_lt _) h0 hn
theorem nI_n0 {n : Nat} (h0 : 0 < n) (hn : n < 2147483648) : ¬ nI n = 0 := fun q => by rw [nat_if_eq hn] at q; omega
/-- a name grown by digits 1 and 2 -/
def nmL (g : Nat → ClassId) (i : Nat) : Nat → Nat → Nat
  | 0, nm => nm
  | k + 1, nm => if nm < 1000 then nmL g i k (10 * nm + 1 + inN g (i + 1 + k) 2) else nm
def nmG (g : Nat → ClassId) (i ab : Nat) : Nat := nmL g i (inN g i 3 + 1) ab
theorem nz_grow {nm d : Nat} (hn : nm < 1000) (h : nz 10 nm = true) (hd : d < 2) : nz 10 (10 * nm + 1 + d) = true := by
  have h9 : ∀ a : Fin 1000, ∀ b : Fin 2, nz 10 a.val = true → nz 10 (10 * a.val + 1 + b.val) = true := by decide +kernel
  exact h9 ⟨nm, hn⟩ ⟨d, hd⟩ h
theorem nmL_ok {g : Nat → ClassId} {i : Nat} : ∀ k nm, nm ≤ 9999 → nz 10 nm = true → (1 ≤ nm ∨ 1 ≤ k) → 1 ≤ nmL g i k nm ∧ nmL g i k nm ≤ 9999 ∧ nz 10 (nmL g i k nm) = true
  | 0, nm, h1, h2, h3 => ⟨by show 1 ≤ nm; omega, h1, h2⟩
  | k + 1, nm, h1, h2, h3 => by
    show 1 ≤ (if nm < 1000 then _ else nm) ∧ (if nm < 1000 then _ else nm) ≤ 9999 ∧ nz 10 (if nm < 1000 then _ else nm) = true
    by_cases h : nm < 1000
    · have hd := inN_lt (g := g) (i := i + 1 + k) (n := 2) (by decide)
      rw [if_pos h]
      exact nmL_ok k _ (by omega) (nz_grow h h2 hd) (by omega)
    · rw [if_neg h]; exact ⟨by omega, h1, h2⟩
theorem nmG_ok {g : Nat → ClassId} {i ab : Nat} (h : ab = 0 ∨ nameB (nI ab) = true) (h2 : ab ≤ 9999) : 1 ≤ nmG g i ab ∧ nmG g i ab ≤ 9999 ∧ nameB (nI (nmG g i ab)) = true := by
  have hz : nz 10 ab = true := by
    rcases h with h | h
    · subst h; rfl
    · rw [nameB_nI (by omega)] at h; rw [Bool.and_eq_true] at h; exact h.2
  have k : 1 ≤ nmG g i ab ∧ nmG g i ab ≤ 9999 ∧ nz 10 (nmG g i ab) = true := nmL_ok (g := g) (i := i) (inN g i 3 + 1) ab h2 hz (by omega)
  obtain ⟨a, b, c⟩ := k
  refine ⟨a, b, ?_⟩
  rw [nameB_nI (by omega), isInB_nI (by omega) (by decide) (by decide), c, decide_eq_true (show 1 ≤ nmG g i ab ∧ nmG g i ab ≤ 9999 from ⟨a, b⟩)]; rfl
theorem nI_dec {m : Nat} (h : 0 < m) : nI m + (-1) = nI (m - 1) := by
  have e : nI m - nI 1 = nI m + (-1) := Int32.sub_eq_add_neg _ _
  rw [← e]; exact pk_sub h
theorem nI_inc (m : Nat) : nI m = nI (m + 1) + (-1) := (nI_dec (Nat.succ_pos m)).symm
/-- the row that makes a certificate -/
def mkN (N : Nat → Int32) (n : Nat) (nm ky bn bk ds ln : Int32) : Nat → Int32 :=
  upd (upd (upd (upd (upd (upd (upd (upd (upd (upd N (10 + 14 * n) nm) (10 + 14 * n + 1) ky) (10 + 14 * n + 2) bn) (10 + 14 * n + 3) bk) (10 + 14 * n + 4) (N 2)) (10 + 14 * n + 5) (N 2 + ds - nI 1)) (10 + 14 * n + 6) (if ln < 0 then nI 0 else nI 1)) (10 + 14 * n + 7) ln) (10 + 14 * n + 10) (-1)) 0 (nI (n + 1))
/-- places of a column that hold a value -/
def mnB (N : Nat → Int32) (col : Nat) (v : Int32) (c : Nat) : Bool := decide (N (10 + 14 * c + col) = v)
theorem cnt_up {p : Nat → Bool} {k n : Nat} (h : k ≤ n) : cnt p k ≤ cnt p n := by
  induction n with
  | zero => rw [show k = 0 from by omega]; exact Nat.le_refl _
  | succ n ih =>
    by_cases e : k = n + 1
    · rw [e]; exact Nat.le_refl _
    · have := ih (by omega)
      show _ ≤ cnt p n + _
      omega
theorem cnt_imp {p q : Nat → Bool} (h : ∀ k, p k = true → q k = true) : ∀ n, cnt p n ≤ cnt q n
  | 0 => Nat.le_refl _
  | n + 1 => by
    have := cnt_imp h n
    show cnt p n + (if p n then 1 else 0) ≤ cnt q n + (if q n then 1 else 0)
    cases hp : p n with
    | false => simp; omega
    | true => rw [h n hp]; simp; exact this
theorem cnt_split {p r : Nat → Bool} : ∀ n, cnt p n = cnt (fun c => p c && r c) n + cnt (fun c => p c && !r c) n
  | 0 => rfl
  | n + 1 => by
    have := cnt_split (p := p) (r := r) n
    show cnt p n + (if p n then 1 else 0) = (cnt (fun c => p c && r c) n + (if p n && r n then 1 else 0)) + (cnt (fun c => p c && !r c) n + (if p n && !r n then 1 else 0))
    cases p n <;> cases r n <;> simp <;> omega
theorem cnt_any {p : Nat → Bool} : ∀ n, anyN p n = decide (0 < cnt p n)
  | 0 => rfl
  | n + 1 => by
    show (anyN p n || p n) = decide (0 < cnt p n + (if p n then 1 else 0))
    rw [cnt_any n]
    cases p n <;> simp
def kyB (κ : CS) (ky : Int32) (k : Nat) : Bool := decide (κ.1 5 k = ky)
def kyR (κ : CS) (ky : Int32) (k : Nat) : Bool := kyB κ ky k && κ.2.1 1 k
theorem kyR_le (κ : CS) (ky : Int32) {k n : Nat} (h : k ≤ n) : cnt (kyR κ ky) k ≤ cnt (kyB κ ky) n := Nat.le_trans (cnt_imp (fun c hc => by unfold kyR at hc; rw [Bool.and_eq_true] at hc; exact hc.1) k) (cnt_up h)
theorem iss_cnt (κ : CS) (ky : Int32) (n : Nat) : anyN (issB κ ky) n = decide (0 < cnt (kyB κ ky) n - cnt (kyR κ ky) n) := by
  rw [cnt_any]
  have := cnt_split (p := kyB κ ky) (r := κ.2.1 1) n
  have e1 : cnt (fun c => kyB κ ky c && κ.2.1 1 c) n = cnt (kyR κ ky) n := rfl
  have e2 : cnt (fun c => kyB κ ky c && !κ.2.1 1 c) n = cnt (issB κ ky) n := rfl
  rw [e1, e2] at this
  rw [decide_eq_decide]; omega
theorem zb1 (b : Bool) : zb b = nI 1 ↔ b = true := by cases b <;> decide
theorem zb1n (b : Bool) : ¬ zb b = nI 1 ↔ b = false := by cases b <;> decide
/-- the candidate of a rank, or none of them -/
def rkI (κ : CS) (i r : Nat) : Int32 := cdI (fstN (nthB κ i (nI r)) (κ.2.2.1 0))
theorem rk_hit {κ : CS} {i r c : Nat} (hn : κ.2.2.1 0 ≤ 40) (hr : r < 100) (hc : c < κ.2.2.1 0) (h1 : candB κ i c = true) (h2 : cnt (candB κ i) c = r) : rkI κ i r = nI c := by
  unfold rkI
  rw [fstN_some hc (k := c) (by unfold nthB; rw [h1, h2, decide_eq_true rfl]; rfl) (fun j hj => ?_)]
  · rfl
  · unfold nthB
    cases hp : candB κ i j with
    | false => rfl
    | true =>
      have h3 := cnt_lt hp c hj
      have h4 := cnt_le (candB κ i) j
      rw [decide_eq_false (fun q => by have := (nat_ic_eq (by omega) (by omega)).mp q; omega)]; rfl
theorem rk_none {κ : CS} {i r : Nat} (hn : κ.2.2.1 0 ≤ 40) (hr : r < 100) (h : cnt (candB κ i) (κ.2.2.1 0) ≤ r) : rkI κ i r = -1 := by
  unfold rkI
  rw [fstN_none (fun k hk => ?_)]
  · rfl
  · unfold nthB
    cases hp : candB κ i k with
    | false => rfl
    | true =>
      have h3 := cnt_lt hp (κ.2.2.1 0) hk
      have h4 := cnt_le (candB κ i) k
      rw [decide_eq_false (fun q => by have := (nat_ic_eq (by omega) (by omega)).mp q; omega)]; rfl
