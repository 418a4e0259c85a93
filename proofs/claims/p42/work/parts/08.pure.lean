/-! the mathematical state that both sides are tied to, and what the small methods answer -/
/-- certificates' ints (0 name, 1 key, 2 first, 3 last, 4 issuer's name, 5 issuer's key, 6 length, 7 permitted, 8 excluded, 9 effect) and booleans (0 authority, 1 root, 2 trusted, 3 marked); numbers (0 certificates, 1 keys, 2 day, 3 walked); the walk; its day -/
abbrev CS : Type := (Nat → Nat → Int32) × (Nat → Nat → Bool) × (Nat → Nat) × (Nat → Nat) × Int32
def upI (I : Nat → Nat → Int32) (f j : Nat) (x : Int32) : Nat → Nat → Int32 := fun f' => if f' = f then upd (I f) j x else I f'
def upb (f : Nat → Bool) (j : Nat) (x : Bool) : Nat → Bool := fun k => if k = j then x else f k
def upB (B : Nat → Nat → Bool) (f j : Nat) (x : Bool) : Nat → Nat → Bool := fun f' => if f' = f then upb (B f) j x else B f'
def upn (f : Nat → Nat) (j x : Nat) : Nat → Nat := fun k => if k = j then x else f k
theorem upn_nI (f : Nat → Nat) (j x : Nat) : upd (fun i => nI (f i)) j (nI x) = fun i => nI (upn f j x i) := by
  funext k; unfold upd upn; split <;> rfl
theorem upb_zb (f : Nat → Bool) (j : Nat) (x : Bool) : upd (fun i => zb (f i)) j (zb x) = fun i => zb (upb f j x i) := by
  funext k; unfold upd upb; split <;> rfl
/-- all digits of a number but the leading zeros are not 0 -/
def nz : Nat → Nat → Bool
  | 0, _ => true
  | f + 1, j => if j = 0 then true else decide (j % 10 ≠ 0) && nz f (j / 10)
theorem nz_0 (f : Nat) : nz f 0 = true := by cases f <;> rfl
theorem nz_s {f j : Nat} (hj : 0 < j) (h : j < 10 ^ f) : nz f j = (decide (j % 10 ≠ 0) && nz (f - 1) (j / 10)) ∧ j / 10 < 10 ^ (f - 1) := by
  cases f with
  | zero => simp at h; omega
  | succ f =>
    refine ⟨?_, ?_⟩
    · show (if j = 0 then true else decide (j % 10 ≠ 0) && nz f (j / 10)) = _
      rw [if_neg (by omega)]
      rfl
    · rw [Nat.pow_succ] at h
      show j / 10 < 10 ^ f
      omega
def nameB (x : Int32) : Bool := decide ((1 : Int32) ≤ x ∧ x ≤ 9999) && nz 10 x.toNatClampNeg
/-- a name is below another one -/
def und : Nat → Nat → Nat → Bool
  | 0, k, o => k == o
  | f + 1, k, o => if o < k then und f (k / 10) o else k == o
theorem und_le {f k o : Nat} (h : k ≤ o) : und f k o = (k == o) := by
  cases f with
  | zero => rfl
  | succ f => show (if o < k then _ else _) = _; rw [if_neg (by omega)]
theorem und_s {f k o : Nat} (h : o < k) (hk : k < 10 ^ f) : und f k o = und (f - 1) (k / 10) o ∧ k / 10 < 10 ^ (f - 1) := by
  cases f with
  | zero => simp at hk; omega
  | succ f =>
    refine ⟨?_, ?_⟩
    · show (if o < k then _ else _) = _
      rw [if_pos h]; rfl
    · rw [Nat.pow_succ] at hk
      show k / 10 < 10 ^ f
      omega
def belowB (x y : Int32) : Bool := und 10 x.toNatClampNeg y.toNatClampNeg
/-- a certificate's number of n -/
def inR (n : Nat) (c : Int32) : Bool := decide ((0 : Int32) ≤ c) && decide (c.toNatClampNeg < n)
theorem inR_nI {n j : Nat} (hj : j < 2147483648) : inR n (nI j) = decide (j < n) := by
  unfold inR; rw [nI_clamp hj, decide_eq_true (nI_pos' hj)]; rfl
theorem inR_neg {n : Nat} {x : Int32} (h : x < 0) : inR n x = false := by
  unfold inR; rw [decide_eq_false (fun q => Int32.lt_irrefl (Int32.lt_of_lt_of_le h q))]; rfl
theorem inR_spec {n : Nat} {c : Int32} (h : inR n c = true) (hn : n < 2147483648) : ∃ j, j < n ∧ c = nI j := by
  rcases i32_cases c with ⟨j, hj, rfl⟩ | h2
  · rw [inR_nI hj] at h; exact ⟨j, of_decide_eq_true h, rfl⟩
  · rw [inR_neg h2] at h; cases h
def dayB (x : Int32) : Bool := decide ((1 : Int32) ≤ x ∧ x ≤ 999)
def lenB (x : Int32) : Bool := decide ((0 : Int32) ≤ x ∧ x ≤ 5)
def isInB (v lo hi : Int32) : Bool := decide (lo ≤ v ∧ v ≤ hi)
theorem isInB_lo {v lo hi : Int32} (h : v < lo) : isInB v lo hi = false := decide_eq_false fun q => Int32.lt_irrefl (Int32.lt_of_lt_of_le h q.1)
theorem isInB_hi {v lo hi : Int32} (h : hi < v) : isInB v lo hi = false := decide_eq_false fun q => Int32.lt_irrefl (Int32.lt_of_lt_of_le h q.2)
theorem isInB_in {v lo hi : Int32} (h1 : ¬ v < lo) (h2 : ¬ hi < v) : isInB v lo hi = true := decide_eq_true ⟨Int32.not_lt.mp h1, Int32.not_lt.mp h2⟩
theorem isInB_nI {j a b : Nat} (hj : j < 2147483648) (ha : a < 2147483648) (hb : b < 2147483648) : isInB (nI j) (nI a) (nI b) = decide (a ≤ j ∧ j ≤ b) := by
  unfold isInB; rw [decide_eq_decide, nI_leI ha hj, nI_leI hj hb]
theorem isInB_neg {x b : Int32} {a : Nat} (h : x < 0) (ha : a < 2147483648) : isInB x (nI a) b = false := decide_eq_false fun q => Int32.lt_irrefl (Int32.lt_of_lt_of_le h (Int32.le_trans (nI_pos' ha) q.1))
theorem isInB_inR {n : Nat} {x : Int32} (hn : n ≤ 40) : isInB x (nI 0) (nI n - nI 1) = inR n x := by
  rcases i32_cases x with ⟨j, hj, rfl⟩ | h
  · rw [inR_nI hj]
    rcases Nat.eq_zero_or_pos n with h0 | h0
    · subst h0
      have e : nI 0 - nI 1 = -1 := by decide
      rw [e, decide_eq_false (by omega)]
      refine decide_eq_false fun q => ?_
      have h1 := Int32.le_trans (nI_pos' hj) q.2
      exact absurd h1 (by decide)
    · rw [pk_sub h0, isInB_nI hj (by omega) (by omega), decide_eq_decide]
      omega
  · rw [inR_neg h, isInB_neg h (by omega)]
theorem nameB_neg {x : Int32} (h : x < 0) : nameB x = false := by
  unfold nameB; rw [decide_eq_false (fun q => Int32.lt_irrefl (Int32.lt_of_lt_of_le h (Int32.le_trans (by decide) q.1)))]; rfl
theorem nameB_nI {j : Nat} (hj : j < 2147483648) : nameB (nI j) = (isInB (nI j) (nI 1) (nI 9999) && nz 10 j) := by
  unfold nameB isInB; rw [nI_clamp hj]; rfl
theorem nameB_le {x : Int32} (h : nameB x = true) : ∃ j, 1 ≤ j ∧ j ≤ 9999 ∧ x = nI j ∧ nz 10 j = true := by
  rcases i32_cases x with ⟨j, hj, rfl⟩ | h2
  · rw [nameB_nI hj, isInB_nI hj (by omega) (by omega)] at h
    simp at h
    exact ⟨j, h.1.1, h.1.2, rfl, h.2⟩
  · rw [nameB_neg h2] at h; cases h
theorem belowB_nI {a b : Nat} (ha : a < 2147483648) (hb : b < 2147483648) : belowB (nI a) (nI b) = und 10 a b := by
  unfold belowB; rw [nI_clamp ha, nI_clamp hb]
/-- a certificate is made: its row, one more of them -/
def mkK (κ : CS) (nm ky bn bk dy : Int32) : CS :=
  (upI (upI (upI (upI (upI (upI (upI κ.1 0 (κ.2.2.1 0) nm) 1 (κ.2.2.1 0) ky) 4 (κ.2.2.1 0) bn) 5 (κ.2.2.1 0) bk) 2 (κ.2.2.1 0) (nI (κ.2.2.1 2))) 3 (κ.2.2.1 0) (nI (κ.2.2.1 2) + dy - nI 1)) 9 (κ.2.2.1 0) (-1), κ.2.1, upn κ.2.2.1 0 (κ.2.2.1 0 + 1), κ.2.2.2)
/-- it is an authority -/
def auK (κ : CS) (i : Nat) (ln : Int32) : CS := (upI κ.1 6 i ln, upB κ.2.1 0 i true, κ.2.2)
/-- a key more -/
def kyK (κ : CS) : CS := (κ.1, κ.2.1, upn κ.2.2.1 1 (κ.2.2.1 1 + 1), κ.2.2.2)
def setB (κ : CS) (f i : Nat) (b : Bool) : CS := (κ.1, upB κ.2.1 f i b, κ.2.2)
def setI (κ : CS) (f i : Nat) (v : Int32) : CS := (upI κ.1 f i v, κ.2)
def setN (κ : CS) (j v : Nat) : CS := (κ.1, κ.2.1, upn κ.2.2.1 j v, κ.2.2.2)
/-- an operation's outcome: which exception of its list (0 none), the answer, the state behind -/
abbrev Out : Type := Nat × Int32 × CS
def opMakeRoot (κ : CS) (nm dy ln : Int32) : Out :=
  if nameB nm && isInB dy (nI 1) (nI 999) && isInB ln (nI 0) (nI 5) then
    if decide (κ.2.2.1 0 = 40) then (2, nI 0, κ) else (0, nI (κ.2.2.1 0), setB (auK (mkK (kyK κ) nm (nI (κ.2.2.1 1 + 1)) nm (nI (κ.2.2.1 1 + 1)) dy) (κ.2.2.1 0) ln) 1 (κ.2.2.1 0) true)
  else (1, nI 0, κ)
/-- how many of the first k numbers are so; whether one is -/
def cnt (p : Nat → Bool) : Nat → Nat
  | 0 => 0
  | k + 1 => cnt p k + (if p k then 1 else 0)
theorem cnt_le (p : Nat → Bool) : ∀ k, cnt p k ≤ k
  | 0 => Nat.le_refl _
  | k + 1 => by have := cnt_le p k; show cnt p k + _ ≤ k + 1; split <;> omega
theorem cnt_t {p : Nat → Bool} {k : Nat} (h : p k = true) : cnt p k + 1 = cnt p (k + 1) := by show _ = cnt p k + _; rw [if_pos h]
theorem cnt_f {p : Nat → Bool} {k : Nat} (h : p k = false) : cnt p k + 0 = cnt p (k + 1) := by show _ = cnt p k + _; rw [if_neg (by rw [h]; decide)]
theorem cnt_congr {p q : Nat → Bool} {n : Nat} (h : ∀ k, k < n → p k = q k) : cnt p n = cnt q n := by
  induction n with
  | zero => rfl
  | succ n ih => show cnt p n + _ = cnt q n + _; rw [ih (fun k hk => h k (by omega)), h n (by omega)]
def anyN (p : Nat → Bool) : Nat → Bool
  | 0 => false
  | k + 1 => anyN p k || p k
theorem anyN_congr {p q : Nat → Bool} {n : Nat} (h : ∀ k, k < n → p k = q k) : anyN p n = anyN q n := by
  induction n with
  | zero => rfl
  | succ n ih => show (anyN p n || _) = (anyN q n || _); rw [ih (fun k hk => h k (by omega)), h n (by omega)]
/-- the first of n numbers that is so -/
def fstN (q : Nat → Bool) : Nat → Option Nat
  | 0 => none
  | k + 1 => match fstN q k with | some j => some j | none => if q k then some k else none
theorem fstN_none {q : Nat → Bool} {n : Nat} (h : ∀ k, k < n → q k = false) : fstN q n = none := by
  induction n with
  | zero => rfl
  | succ n ih => show (match fstN q n with | some j => some j | none => if q n then some n else none) = none; rw [ih (fun k hk => h k (by omega))]; simp [h n (by omega)]
theorem fstN_some {q : Nat → Bool} {n k : Nat} (hk : k < n) (hq : q k = true) (h : ∀ j, j < k → q j = false) : fstN q n = some k := by
  induction n with
  | zero => omega
  | succ n ih =>
    show (match fstN q n with | some j => some j | none => if q n then some n else none) = some k
    rcases Nat.lt_or_ge k n with h1 | h1
    · rw [ih h1]
    · have e : k = n := by omega
      subst e
      rw [fstN_none h]; simp [hq]
theorem fstN_spec {q : Nat → Bool} {n k : Nat} (h : fstN q n = some k) : k < n ∧ q k = true ∧ ∀ j, j < k → q j = false := by
  induction n with
  | zero => cases h
  | succ n ih =>
    have h1 : (match fstN q n with | some j => some j | none => if q n then some n else none) = some k := h
    cases hf : fstN q n with
    | some j =>
      rw [hf] at h1
      obtain ⟨a, b, c⟩ := ih (by rw [hf]; exact h1)
      exact ⟨by omega, b, c⟩
    | none =>
      rw [hf] at h1
      by_cases hq : q n = true
      · simp [hq] at h1
        subst h1
        refine ⟨by omega, hq, fun j hj => ?_⟩
        cases hqj : q j with
        | false => rfl
        | true =>
          exfalso
          obtain ⟨k', hk', hm⟩ := pk_least (fun z => q z = true) ⟨j, hqj⟩
          have hlt : k' < n := Nat.lt_of_le_of_lt (Nat.le_of_not_lt fun hc => hm j hc hqj) hj
          have := fstN_some (n := n) hlt hk' (fun z hz => by cases hz2 : q z with | false => rfl | true => exact absurd hz2 (hm z hz))
          rw [hf] at this; cases this
      · simp [hq] at h1
def offB (κ : CS) (i : Nat) (on : Int32) : Bool := !decide (κ.1 9 i < 0) && !decide (on < κ.1 9 i)
def validB (κ : CS) (i : Nat) (on : Int32) : Bool := isInB on (κ.1 2 i) (κ.1 3 i)
def candB (κ : CS) (i k : Nat) : Bool := !decide (k = i) && (decide (κ.1 1 k = κ.1 5 i) && decide (κ.1 0 k = κ.1 4 i))
def pendF (i5 i9 : Nat → Int32) (b3 : Nat → Bool) (ky : Int32) (k : Nat) : Bool := decide (i5 k = ky) && (b3 k && decide (i9 k < 0))
abbrev pendB (κ : CS) (ky : Int32) : Nat → Bool := pendF (κ.1 5) (κ.1 9) (κ.2.1 3) ky
def issB (κ : CS) (ky : Int32) (k : Nat) : Bool := decide (κ.1 5 k = ky) && !κ.2.1 1 k
/-- the effects after the first j certificates, when a list is published -/
def pubI (κ : CS) (ky : Int32) : Nat → Nat → Nat → Int32
  | 0 => κ.1
  | j + 1 => upI (pubI κ ky j) 9 j (if pendB κ ky j then nI (κ.2.2.1 2) else κ.1 9 j)
theorem pubI_ge (κ : CS) (ky : Int32) : ∀ (j k : Nat), j ≤ k → ∀ f, pubI κ ky j f k = κ.1 f k
  | 0, _, _, _ => rfl
  | j + 1, k, h, f => by
    show (if f = 9 then upd (pubI κ ky j 9) j _ else pubI κ ky j f) k = _
    by_cases h9 : f = 9
    · subst h9
      rw [if_pos rfl, pk_un (by omega)]
      exact pubI_ge κ ky j k (by omega) 9
    · rw [if_neg h9]
      exact pubI_ge κ ky j k (by omega) f
theorem pubI_ne (κ : CS) (ky : Int32) (f : Nat) (h : f ≠ 9) : ∀ j, pubI κ ky j f = κ.1 f
  | 0 => rfl
  | j + 1 => by
    show (if f = 9 then upd (pubI κ ky j 9) j _ else pubI κ ky j f) = _
    rw [if_neg h]; exact pubI_ne κ ky f h j
/-- why a certificate cannot be issued (0: it can) -/
def canI (κ : CS) (xc : Int32) (is : Bool) : Nat :=
  if inR (κ.2.2.1 0) xc then (if is then (if κ.2.1 0 xc.toNatClampNeg && !decide (κ.2.2.1 0 = 40) then 0 else 3) else 2) else 1
theorem canI_0 {κ : CS} {xc : Int32} {is : Bool} (h : canI κ xc is = 0) (hn : κ.2.2.1 0 ≤ 40) : ∃ j, j < κ.2.2.1 0 ∧ xc = nI j ∧ is = true ∧ κ.2.1 0 j = true ∧ κ.2.2.1 0 < 40 := by
  unfold canI at h
  by_cases h1 : inR (κ.2.2.1 0) xc = true
  · obtain ⟨j, hj, rfl⟩ := inR_spec h1 (by omega)
    rw [if_pos h1, nI_clamp (by omega)] at h
    cases is
    · simp at h
    · cases hb : κ.2.1 0 j
      · simp [hb] at h
      · simp [hb] at h
        refine ⟨j, hj, rfl, rfl, hb, ?_⟩
        by_cases h4 : κ.2.2.1 0 = 40
        · simp [h4] at h
        · omega
  · rw [if_neg h1] at h; cases h
abbrev xj (x : Int32) : Nat := x.toNatClampNeg
def opIssue (κ : CS) (xc nm dy : Int32) : Out :=
  if canI κ xc (nameB nm && isInB dy (nI 1) (nI 999)) = 0 then (0, nI (κ.2.2.1 0), mkK (kyK κ) nm (nI (κ.2.2.1 1 + 1)) (κ.1 0 (xj xc)) (κ.1 1 (xj xc)) dy) else (canI κ xc (nameB nm && isInB dy (nI 1) (nI 999)), nI 0, κ)
def opIssueA (κ : CS) (xc nm dy ln : Int32) : Out :=
  if canI κ xc (nameB nm && (isInB dy (nI 1) (nI 999) && isInB ln (nI 0) (nI 5))) = 0 then (0, nI (κ.2.2.1 0), auK (mkK (kyK κ) nm (nI (κ.2.2.1 1 + 1)) (κ.1 0 (xj xc)) (κ.1 1 (xj xc)) dy) (κ.2.2.1 0) ln) else (canI κ xc (nameB nm && (isInB dy (nI 1) (nI 999) && isInB ln (nI 0) (nI 5))), nI 0, κ)
def wkB (κ : CS) (ky : Int32) (k : Nat) : Bool := decide (κ.1 1 k = ky)
def opCross (κ : CS) (xc xs dy ln : Int32) : Out :=
  if inR (κ.2.2.1 0) xc && inR (κ.2.2.1 0) xs then
    if isInB dy (nI 1) (nI 999) && isInB ln (nI 0) (nI 5) then
      if κ.2.1 0 (xj xc) && (κ.2.1 0 (xj xs) && (!decide (κ.1 1 (xj xc) = κ.1 1 (xj xs)) && (!decide (2 < cnt (wkB κ (κ.1 1 (xj xs))) (κ.2.2.1 0)) && !decide (κ.2.2.1 0 = 40)))) then
        (0, nI (κ.2.2.1 0), auK (mkK κ (κ.1 0 (xj xs)) (κ.1 1 (xj xs)) (κ.1 0 (xj xc)) (κ.1 1 (xj xc)) dy) (κ.2.2.1 0) ln)
      else (3, nI 0, κ)
    else (2, nI 0, κ)
  else (1, nI 0, κ)
def nm0 (x : Int32) : Bool := decide (x = 0) || nameB x
def opSetNames (κ : CS) (xc xp xe : Int32) : Out :=
  if inR (κ.2.2.1 0) xc then
    if nm0 xp && nm0 xe then
      if κ.2.1 0 (xj xc) && !anyN (issB κ (κ.1 1 (xj xc))) (κ.2.2.1 0) then
        (0, nI ((if decide (xp = 0) then 0 else 1) + (if decide (xe = 0) then 0 else 1)), setI (setI κ 7 (xj xc) xp) 8 (xj xc) xe)
      else (3, nI 0, κ)
    else (2, nI 0, κ)
  else (1, nI 0, κ)
def opTrust (κ : CS) (xc : Int32) (b : Bool) : Out :=
  if inR (κ.2.2.1 0) xc then
    if κ.2.1 1 (xj xc) then (0, nI (cnt (upB κ.2.1 2 (xj xc) b 2) (κ.2.2.1 0)), setB κ 2 (xj xc) b) else (2, nI 0, κ)
  else (1, nI 0, κ)
def opRevoke (κ : CS) (xc : Int32) : Out :=
  if inR (κ.2.2.1 0) xc then
    if κ.2.1 1 (xj xc) || κ.2.1 3 (xj xc) then (2, nI 0, κ) else (0, nI (cnt (pendF (κ.1 5) (κ.1 9) (upB κ.2.1 3 (xj xc) true 3) (κ.1 5 (xj xc))) (κ.2.2.1 0)), setB κ 3 (xj xc) true)
  else (1, nI 0, κ)
def opPublish (κ : CS) (xc : Int32) : Out :=
  if inR (κ.2.2.1 0) xc then
    if κ.2.1 0 (xj xc) then (0, nI (cnt (pendB κ (κ.1 1 (xj xc))) (κ.2.2.1 0)), (pubI κ (κ.1 1 (xj xc)) (κ.2.2.1 0), κ.2)) else (2, nI 0, κ)
  else (1, nI 0, κ)
def opPass (κ : CS) (dy : Int32) : Out :=
  if isInB dy (nI 1) (nI 999) then (0, nI (κ.2.2.1 2 + xj dy), setN κ 2 (κ.2.2.1 2 + xj dy)) else (1, nI 0, κ)
theorem any_t {p : Nat → Bool} {k : Nat} (h : p k = true) : (anyN p k || true) = anyN p (k + 1) := by show _ = (anyN p k || p k); rw [h]
theorem any_f {p : Nat → Bool} {k : Nat} (h : p k = false) : (anyN p k || false) = anyN p (k + 1) := by show _ = (anyN p k || p k); rw [h]
def nthB (κ : CS) (i : Nat) (rk : Int32) (k : Nat) : Bool := candB κ i k && decide (nI (cnt (candB κ i) k) = rk)
def cdI : Option Nat → Int32
  | some k => nI k
  | none => -1
def opCandidates (κ : CS) (xc : Int32) : Nat × Int32 := if inR (κ.2.2.1 0) xc then (0, nI (cnt (candB κ (xj xc)) (κ.2.2.1 0))) else (1, nI 0)
def opCandidateAt (κ : CS) (xc rk : Int32) : Nat × Int32 :=
  if inR (κ.2.2.1 0) xc then (match fstN (nthB κ (xj xc) rk) (κ.2.2.1 0) with | some k => (0, nI k) | none => (2, nI 0)) else (1, nI 0)
def opGet (κ : CS) (f : Nat) (xc : Int32) : Nat × Int32 := if inR (κ.2.2.1 0) xc then (0, κ.1 f (xj xc)) else (1, nI 0)
def opKind (κ : CS) (xc : Int32) : Nat × Int32 := if inR (κ.2.2.1 0) xc then (0, if κ.2.1 1 (xj xc) then nI 114 else if κ.2.1 0 (xj xc) then nI 97 else nI 101) else (1, nI 0)
def opBelow (x y : Int32) : Nat × Bool := if nameB x && nameB y then (0, belowB x y) else (1, false)
def wrongC (κ : CS) (xc dy : Int32) : Nat := if inR (κ.2.2.1 0) xc then (if decide (dy < 0) then 2 else 0) else 1
def opRevoked (κ : CS) (xc dy : Int32) : Nat × Bool := if decide (wrongC κ xc dy = 0) then (0, offB κ (xj xc) dy) else (wrongC κ xc dy, false)
theorem isInB_ex {x : Int32} (h : isInB x (nI 1) (nI 999) = true) : ∃ j : Nat, 1 ≤ j ∧ j ≤ 999 ∧ x = nI j := by
  rcases i32_cases x with ⟨j, hj, rfl⟩ | h2
  · rw [isInB_nI hj (by omega) (by omega)] at h
    have := of_decide_eq_true h
    exact ⟨j, this.1, this.2, rfl⟩
  · rw [isInB_neg h2 (by omega)] at h; cases h
theorem wrong_0 {κ : CS} {xc dy : Int32} (h : wrongC κ xc dy = 0) (hn : κ.2.2.1 0 ≤ 40) : ∃ j, j < κ.2.2.1 0 ∧ xc = nI j ∧ ¬ dy < 0 := by
  unfold wrongC at h
  by_cases h1 : inR (κ.2.2.1 0) xc = true
  · obtain ⟨j, hj, rfl⟩ := inR_spec h1 (by omega)
    refine ⟨j, hj, rfl, fun h2 => ?_⟩
    rw [if_pos h1, decide_eq_true h2] at h
    cases h
  · rw [if_neg h1] at h; cases h
def nmI (x : Int32) : Prop := ∃ a : Nat, 1 ≤ a ∧ a ≤ 9999 ∧ x = nI a
/-- what the reference's methods need of the state -/
def InvM (κ : CS) : Prop := κ.2.2.1 0 ≤ 40 ∧ (∀ i, i < κ.2.2.1 0 → nmI (κ.1 0 i)) ∧ (∀ i, i < κ.2.2.1 0 → κ.1 7 i = 0 ∨ nmI (κ.1 7 i)) ∧ (∀ i, i < κ.2.2.1 0 → κ.1 8 i = 0 ∨ nmI (κ.1 8 i)) ∧ (∀ i, i < κ.2.2.1 0 → ∃ a : Nat, a ≤ 5 ∧ κ.1 6 i = nI a) ∧ κ.2.2.1 3 ≤ 7 ∧ ∀ j, j < κ.2.2.1 3 → κ.2.2.2.1 j < κ.2.2.1 0
def allN (p : Nat → Bool) : Nat → Bool
  | 0 => true
  | k + 1 => allN p k && p k
theorem allN_congr {p q : Nat → Bool} {n : Nat} (h : ∀ k, k < n → p k = q k) : allN p n = allN q n := by
  induction n with
  | zero => rfl
  | succ n ih => show (allN p n && _) = (allN q n && _); rw [ih (fun k hk => h k (by omega)), h n (by omega)]
/-- a certificate's name is as the names of the next one ask -/
def okN (κ : CS) (nx wi : Nat) : Bool := (decide (κ.1 7 nx = 0) || belowB (κ.1 0 wi) (κ.1 7 nx)) && (decide (κ.1 8 nx = 0) || !belowB (κ.1 0 wi) (κ.1 8 nx))
def fitsB (κ : CS) (wy : Nat → Nat) (sz nx : Nat) : Bool := allN (fun k => okN κ nx (wy k)) sz
def inW (wy : Nat → Nat) (nx k : Nat) : Bool := decide (wy k = nx)
/-- why a certificate can't follow a way ('o': it can) -/
def refC (κ : CS) (wy : Nat → Nat) (sz nx : Nat) (on : Int32) : Nat :=
  if anyN (inW wy nx) sz then 120
  else if validB κ nx on then (if offB κ nx on then 114 else if κ.2.1 0 nx then (if decide (κ.1 6 nx < nI (sz - 1)) then 108 else if fitsB κ wy sz nx then 111 else 110) else 97)
  else 116
theorem refC_le (κ : CS) (wy : Nat → Nat) (sz nx : Nat) (on : Int32) : refC κ wy sz nx on ≤ 120 := by
  unfold refC; repeat (first | omega | split)
def beginB (κ : CS) (i : Nat) (on : Int32) : Bool := validB κ i on && !offB κ i on
def thrB (κ : CS) : Bool := !decide (κ.2.2.1 3 = 0) && (κ.2.1 1 (κ.2.2.2.1 (κ.2.2.1 3 - 1)) && κ.2.1 2 (κ.2.2.2.1 (κ.2.2.1 3 - 1)))
def opReached (κ : CS) : Nat × Int32 := if decide (κ.2.2.1 3 = 0) then (1, nI 0) else (0, nI (κ.2.2.2.1 (κ.2.2.1 3 - 1)))
def opBegin (κ : CS) (xc dy : Int32) : Out :=
  if decide (wrongC κ xc dy = 0) then
    if beginB κ (xj xc) dy then (0, nI 111, (κ.1, κ.2.1, upn κ.2.2.1 3 1, upn κ.2.2.2.1 0 (xj xc), dy)) else (0, if validB κ (xj xc) dy then nI 114 else nI 116, κ)
  else (wrongC κ xc dy, nI 0, κ)
def opStep (κ : CS) (rk : Int32) : Out :=
  if decide (κ.2.2.1 3 = 0) then (1, nI 0, κ)
  else match fstN (nthB κ (κ.2.2.2.1 (κ.2.2.1 3 - 1)) rk) (κ.2.2.1 0) with
    | none => (2, nI 0, κ)
    | some k => if decide (refC κ κ.2.2.2.1 (κ.2.2.1 3) k κ.2.2.2.2 = 111) then (0, nI 111, (κ.1, κ.2.1, upn κ.2.2.1 3 (κ.2.2.1 3 + 1), upn κ.2.2.2.1 (κ.2.2.1 3) k, κ.2.2.2.2)) else (0, nI (refC κ κ.2.2.2.1 (κ.2.2.1 3) k κ.2.2.2.2), κ)
theorem anyN_true {p : Nat → Bool} {n k : Nat} (hk : k < n) (h : p k = true) : anyN p n = true := by
  induction n with
  | zero => omega
  | succ n ih =>
    show (anyN p n || p n) = true
    rcases Nat.lt_or_ge k n with h1 | h1
    · rw [ih h1]; rfl
    · rw [show n = k from by omega, h]; simp
theorem anyN_ex {p : Nat → Bool} {n : Nat} (h : anyN p n = true) : ∃ k, k < n ∧ p k = true := by
  induction n with
  | zero => cases h
  | succ n ih =>
    have h1 : (anyN p n || p n) = true := h
    rw [Bool.or_eq_true] at h1
    rcases h1 with h1 | h1
    · obtain ⟨k, a, b⟩ := ih h1; exact ⟨k, by omega, b⟩
    · exact ⟨n, by omega, h1⟩
/-- the reference's search: the first of the numbers from k on (m of them) at which the body finds -/
def fndL (body : Nat → (Nat → Nat) → Bool × (Nat → Nat)) : Nat → Nat → (Nat → Nat) → Bool × (Nat → Nat)
  | 0, _, ch => (false, ch)
  | m + 1, k, ch => if (body k ch).1 then (true, (body k ch).2) else fndL body m (k + 1) (body k ch).2
def fndK (κ : CS) (on : Int32) : Nat → Nat → (Nat → Nat) → Bool × (Nat → Nat)
  | 0, laid, ch => (κ.2.1 1 (ch (laid - 1)) && κ.2.1 2 (ch (laid - 1)), ch)
  | d + 1, laid, ch => fndL (fun k c => if candB κ (ch (laid - 1)) k && decide (refC κ c laid k on = 111) then fndK κ on d (laid + 1) (upn c laid k) else (false, c)) (κ.2.2.1 0) 0 ch
theorem fndL_pre {body : Nat → (Nat → Nat) → Bool × (Nat → Nat)} {laid : Nat} (hb : ∀ k c j, j < laid → (body k c).2 j = c j) : ∀ m k ch j, j < laid → (fndL body m k ch).2 j = ch j
  | 0, _, _, _, _ => rfl
  | m + 1, k, ch, j, hj => by
    show (if (body k ch).1 then (true, (body k ch).2) else fndL body m (k + 1) (body k ch).2).2 j = _
    split
    · exact hb k ch j hj
    · rw [fndL_pre hb m (k + 1) _ j hj]; exact hb k ch j hj
theorem upn_ne {f : Nat → Nat} {j x k : Nat} (h : k ≠ j) : upn f j x k = f k := by unfold upn; rw [if_neg h]
theorem upn_eq {f : Nat → Nat} {j x : Nat} : upn f j x j = x := by unfold upn; rw [if_pos rfl]
theorem fndK_pre (κ : CS) (on : Int32) : ∀ d laid ch j, j < laid → (fndK κ on d laid ch).2 j = ch j
  | 0, _, _, _, _ => rfl
  | d + 1, laid, ch, j, hj => by
    refine fndL_pre (fun k c j hj => ?_) _ _ _ j hj
    split
    · rw [fndK_pre κ on d (laid + 1) _ j (by omega)]; exact upn_ne (by omega)
    · rfl
/-- .. its count of good chains -/
def cntL (body : Nat → (Nat → Nat) → Nat × (Nat → Nat)) : Nat → Nat → (Nat → Nat) → Nat × (Nat → Nat)
  | 0, _, ch => (0, ch)
  | m + 1, k, ch => ((body k ch).1 + (cntL body m (k + 1) (body k ch).2).1, (cntL body m (k + 1) (body k ch).2).2)
def cntK (κ : CS) (on : Int32) : Nat → Nat → (Nat → Nat) → Nat × (Nat → Nat)
  | 0, _, ch => (0, ch)
  | d + 1, laid, ch =>
    ((if κ.2.1 1 (ch (laid - 1)) && κ.2.1 2 (ch (laid - 1)) then 1 else 0) + (cntL (fun k c => if candB κ (ch (laid - 1)) k && decide (refC κ c laid k on = 111) then cntK κ on d (laid + 1) (upn c laid k) else (0, c)) (κ.2.2.1 0) 0 ch).1,
     (cntL (fun k c => if candB κ (ch (laid - 1)) k && decide (refC κ c laid k on = 111) then cntK κ on d (laid + 1) (upn c laid k) else (0, c)) (κ.2.2.1 0) 0 ch).2)
theorem cntL_pre {body : Nat → (Nat → Nat) → Nat × (Nat → Nat)} {laid : Nat} (hb : ∀ k c j, j < laid → (body k c).2 j = c j) : ∀ m k ch j, j < laid → (cntL body m k ch).2 j = ch j
  | 0, _, _, _, _ => rfl
  | m + 1, k, ch, j, hj => by
    show (cntL body m (k + 1) (body k ch).2).2 j = _
    rw [cntL_pre hb m (k + 1) _ j hj]; exact hb k ch j hj
theorem cntK_pre (κ : CS) (on : Int32) : ∀ d laid ch j, j < laid → (cntK κ on d laid ch).2 j = ch j
  | 0, _, _, _, _ => rfl
  | d + 1, laid, ch, j, hj => by
    refine cntL_pre (fun k c j hj => ?_) _ _ _ j hj
    split
    · rw [cntK_pre κ on d (laid + 1) _ j (by omega)]; exact upn_ne (by omega)
    · rfl
/-- a certificate that can follow a way of a size is an authority of a length that lets it -/
theorem refC_len {κ : CS} {wy : Nat → Nat} {sz nx : Nat} {on : Int32} (h : refC κ wy sz nx on = 111) : κ.2.1 0 nx = true ∧ ¬ κ.1 6 nx < nI (sz - 1) ∧ validB κ nx on = true ∧ offB κ nx on = false ∧ anyN (inW wy nx) sz = false ∧ fitsB κ wy sz nx = true := by
  unfold refC at h
  by_cases h1 : anyN (inW wy nx) sz = true
  · rw [if_pos h1] at h; cases h
  · rw [if_neg h1] at h
    by_cases h2 : validB κ nx on = true
    · rw [if_pos h2] at h
      by_cases h3 : offB κ nx on = true
      · rw [if_pos h3] at h; cases h
      · rw [if_neg h3] at h
        by_cases h4 : κ.2.1 0 nx = true
        · rw [if_pos h4] at h
          by_cases h5 : κ.1 6 nx < nI (sz - 1)
          · rw [decide_eq_true h5] at h; simp at h
          · rw [decide_eq_false h5] at h
            by_cases h6 : fitsB κ wy sz nx = true
            · exact ⟨h4, h5, h2, by simpa using h3, by simpa using h1, h6⟩
            · simp [h6] at h
        · rw [if_neg h4] at h; cases h
    · rw [if_neg h2] at h; cases h
theorem refC_sz {κ : CS} (hI : InvM κ) {wy : Nat → Nat} {sz nx : Nat} {on : Int32} (hx : nx < κ.2.2.1 0) (hs : sz ≤ 40) (h : refC κ wy sz nx on = 111) : sz ≤ 6 := by
  obtain ⟨a, ha, hae⟩ := hI.2.2.2.2.1 nx hx
  have h1 := (refC_len h).2.1
  rw [hae, nI_ltI (by omega) (by omega)] at h1
  omega
/-- the best chain's size -/
def bestK (κ : CS) (i : Nat) (on : Int32) : Nat → Nat → (Nat → Nat) → Nat × (Nat → Nat)
  | 0, _, ch => (0, ch)
  | m + 1, d, ch => if beginB κ i on then (if (fndK κ on d 1 ch).1 then (1 + d, (fndK κ on d 1 ch).2) else bestK κ i on m (d + 1) (fndK κ on d 1 ch).2) else (0, ch)
theorem bestK_le (κ : CS) (i : Nat) (on : Int32) : ∀ m d ch, (bestK κ i on m d ch).1 ≤ m + d
  | 0, d, _ => Nat.zero_le _
  | m + 1, d, ch => by
    show (if beginB κ i on then (if (fndK κ on d 1 ch).1 then (1 + d, (fndK κ on d 1 ch).2) else bestK κ i on m (d + 1) (fndK κ on d 1 ch).2) else (0, ch)).1 ≤ _
    split
    · split
      · show 1 + d ≤ _; omega
      · have := bestK_le κ i on m (d + 1) (fndK κ on d 1 ch).2; omega
    · exact Nat.zero_le _
abbrev bst (κ : CS) (i : Nat) (on : Int32) (ch : Nat → Nat) : Nat × (Nat → Nat) := bestK κ i on 7 0 (upn ch 0 i)
def opChainSize (κ : CS) (ch : Nat → Nat) (xc dy : Int32) : Nat × Int32 := if decide (wrongC κ xc dy = 0) then (0, nI (bst κ (xj xc) dy ch).1) else (wrongC κ xc dy, nI 0)
def chCh (κ : CS) (ch : Nat → Nat) (xc dy : Int32) : Nat → Nat := if decide (wrongC κ xc dy = 0) then (bst κ (xj xc) dy ch).2 else ch
def opChainAt (κ : CS) (ch : Nat → Nat) (xc dy xi : Int32) : Nat × Int32 :=
  if decide (wrongC κ xc dy = 0) then (if inR (bst κ (xj xc) dy ch).1 xi then (0, nI ((bst κ (xj xc) dy ch).2 (xj xi))) else (3, nI 0)) else (wrongC κ xc dy, nI 0)
def gdK (κ : CS) (i : Nat) (on : Int32) (ch : Nat → Nat) : Nat × (Nat → Nat) := if beginB κ i on then cntK κ on 7 1 (upn ch 0 i) else (0, upn ch 0 i)
def opGood (κ : CS) (ch : Nat → Nat) (xc dy : Int32) : Nat × Int32 := if decide (wrongC κ xc dy = 0) then (0, nI (gdK κ (xj xc) dy ch).1) else (wrongC κ xc dy, nI 0)
def chGd (κ : CS) (ch : Nat → Nat) (xc dy : Int32) : Nat → Nat := if decide (wrongC κ xc dy = 0) then (gdK κ (xj xc) dy ch).2 else ch
def cmGd (κ : CS) (ch : Nat → Nat) (cm : Nat) (xc dy : Int32) : Nat := if decide (wrongC κ xc dy = 0) then (gdK κ (xj xc) dy ch).1 else cm
