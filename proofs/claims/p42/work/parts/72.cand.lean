/-! candidates as lists: the class's held rows and all certificates give the same -/
def flt (p : Nat → Bool) (n : Nat) : List Nat := (List.range n).filter p
theorem flt_s {p : Nat → Bool} {n : Nat} : flt p (n + 1) = flt p n ++ (if p n then [n] else []) := by
  unfold flt; rw [List.range_succ, List.filter_append]; cases h : p n <;> simp [h]
theorem flt_len {p : Nat → Bool} : ∀ n, (flt p n).length = cnt p n
  | 0 => rfl
  | n + 1 => by
    rw [flt_s, List.length_append, flt_len n]
    show _ = cnt p n + _
    cases p n <;> rfl
theorem flt_mem {p : Nat → Bool} {n k : Nat} : k ∈ flt p n ↔ k < n ∧ p k = true := by simp [flt]
theorem fstN_congr {p q : Nat → Bool} {n : Nat} (h : ∀ k, k < n → p k = q k) : fstN p n = fstN q n := by
  induction n with
  | zero => rfl
  | succ n ih =>
    show (match fstN p n with | some j => some j | none => if p n then some n else none) = (match fstN q n with | some j => some j | none => if q n then some n else none)
    rw [ih (fun k hk => h k (by omega)), h n (by omega)]
theorem flt_get {p : Nat → Bool} : ∀ n r, (flt p n)[r]? = fstN (fun k => p k && decide (cnt p k = r)) n
  | 0, r => by unfold flt; simp; rfl
  | n + 1, r => by
    rw [flt_s]
    show _ = (match fstN (fun k => p k && decide (cnt p k = r)) n with | some j => some j | none => if p n && decide (cnt p n = r) then some n else none)
    rw [← flt_get n r]
    by_cases h : r < cnt p n
    · rw [List.getElem?_append_left (by rw [flt_len]; exact h)]
      have h2 : (flt p n)[r]? = some ((flt p n)[r]'(by rw [flt_len]; exact h)) := List.getElem?_eq_getElem _
      rw [h2]
    · rw [List.getElem?_append_right (by rw [flt_len]; omega), show (flt p n)[r]? = none from List.getElem?_eq_none (by rw [flt_len]; omega), flt_len]
      cases hp : p n with
      | false => simp
      | true =>
        by_cases e : cnt p n = r
        · rw [decide_eq_true e, e]; simp
        · rw [decide_eq_false e]
          have : r - cnt p n ≠ 0 := by omega
          simp; omega
def lkp : List Nat → Int32 → Nat → Option Nat
  | [], _, _ => none
  | k :: t, rk, fd => if nI fd = rk then some k else lkp t rk (fd + 1)
theorem cdF_lkp {f : Nat → Option Nat} {i : Nat} {rk : Int32} : ∀ m j fd (l : List Nat), l.length ≤ m → (∀ r, r < m → f (j + r) = l[r]?) → cdF f i rk m j fd = lkp (l.filter (fun k => !decide (k = i))) rk fd
  | 0, j, fd, l, h, _ => by
    have : l = [] := List.length_eq_zero_iff.mp (by omega)
    rw [this]; rfl
  | m + 1, j, fd, [], h, hf => by
    rw [cdF_none (by rw [show j = j + 0 from rfl, hf 0 (by omega)]; rfl)]
    exact cdF_lkp m (j + 1) fd [] (Nat.zero_le _) (fun r hr => by rw [show j + 1 + r = j + (r + 1) from by omega, hf (r + 1) (by omega)]; simp)
  | m + 1, j, fd, k :: t, h, hf => by
    have h0 : f j = some k := by rw [show j = j + 0 from rfl, hf 0 (by omega)]; rfl
    have hr : ∀ r, r < m → f (j + 1 + r) = t[r]? := fun r hr => by rw [show j + 1 + r = j + (r + 1) from by omega, hf (r + 1) (by omega)]; simp
    have hl : t.length ≤ m := by simp at h; exact h
    rw [cdF_some h0]
    by_cases e : k = i
    · rw [if_pos e, cdF_lkp m (j + 1) fd t hl hr, List.filter_cons]
      simp [e]
    · rw [if_neg e, cdF_lkp m (j + 1) (fd + 1) t hl hr, List.filter_cons]
      simp [e, lkp]
theorem lkp_nI {r : Nat} (hr : r < 2147483648) : ∀ (l : List Nat) fd, fd + l.length < 2147483648 → lkp l (nI r) fd = if fd ≤ r then l[r - fd]? else none
  | [], fd, _ => by simp [lkp]
  | k :: t, fd, h => by
    simp at h
    show (if nI fd = nI r then some k else lkp t (nI r) (fd + 1)) = _
    rw [lkp_nI hr t (fd + 1) (by omega)]
    by_cases e : fd = r
    · subst e; simp
    · rw [if_neg (fun q => e ((nat_ic_eq (by omega) hr).mp q))]
      by_cases h1 : fd ≤ r
      · rw [if_pos h1, if_pos (by omega), show r - fd = (r - (fd + 1)) + 1 from by omega]; simp
      · rw [if_neg h1, if_neg (by omega)]
theorem lkp_neg {rk : Int32} (hr : rk < 0) : ∀ (l : List Nat) fd, fd + l.length < 2147483648 → lkp l rk fd = none
  | [], fd, _ => rfl
  | k :: t, fd, h => by
    simp at h
    show (if nI fd = rk then some k else lkp t rk (fd + 1)) = _
    have hne : ¬ nI fd = rk := fun q => nI_pos (show fd < 2147483648 by omega) (by rw [q]; exact hr)
    rw [if_neg hne, lkp_neg hr t (fd + 1) (by omega)]
def cl (κ : CS) (i : Nat) : List Nat := flt (candB κ i) (κ.2.2.1 0)
theorem cnt_lt {p : Nat → Bool} {j : Nat} (hp : p j = true) : ∀ k, j < k → cnt p j < cnt p k
  | 0, h => by omega
  | k + 1, h => by
    show cnt p j < cnt p k + _
    by_cases e : j = k
    · subst e; rw [if_pos hp]; omega
    · have := cnt_lt hp k (by omega); split <;> omega
theorem hld_get {κ : CS} {X : XT} (hH : HLD κ X) {h : Nat} (hh : h < κ.2.2.1 1) : (flt (fun k => decide (X.1 k = h)) (κ.2.2.1 0)).length ≤ 3 ∧ ∀ r, X.2.2.2.2.1 h r = (flt (fun k => decide (X.1 k = h)) (κ.2.2.1 0))[r]? := by
  obtain ⟨a, h1, _, h3, h4, h5⟩ := hH h hh
  rw [flt_len, h3]
  refine ⟨h1, fun r => ?_⟩
  by_cases hr : r < a
  · obtain ⟨k, k1, k2, k3, k4⟩ := h5 r hr
    rw [k1, flt_get]
    symm
    refine fstN_some k2 (by rw [decide_eq_true k3, decide_eq_true k4]; rfl) (fun j hj => ?_)
    by_cases hp : X.1 j = h
    · have := cnt_lt (p := fun k => decide (X.1 k = h)) (decide_eq_true hp) k hj
      rw [decide_eq_true hp, decide_eq_false (by omega)]; rfl
    · rw [decide_eq_false hp]; rfl
  · rw [h4 r (by omega), List.getElem?_eq_none (by rw [flt_len, h3]; omega)]
theorem cl_hld {κ : CS} {X : XT} (hT : TIE κ X) (hS : ShX κ X) {i : Nat} (hi : i < κ.2.2.1 0) : cl κ i = (flt (fun k => decide (X.1 k = X.2.1 i)) (κ.2.2.1 0)).filter (fun k => !decide (k = i)) := by
  unfold cl flt
  rw [List.filter_filter]
  exact List.filter_congr fun k hk => cand_sb hT hS hi (List.mem_range.mp hk)
theorem cl_len {κ : CS} {X : XT} (hT : TIE κ X) (hS : ShX κ X) (hH : HLD κ X) {i : Nat} (hi : i < κ.2.2.1 0) : (cl κ i).length ≤ 3 := by
  rw [cl_hld hT hS hi]
  exact Nat.le_trans (List.length_filter_le _ _) (hld_get hH (hS.is hi)).1
theorem cd_lkp {κ : CS} {X : XT} (hT : TIE κ X) (hS : ShX κ X) (hH : HLD κ X) {i : Nat} (hi : i < κ.2.2.1 0) (rk : Int32) : cdC X i rk = lkp (cl κ i) rk 0 := by
  obtain ⟨h1, h2⟩ := hld_get hH (hS.is hi)
  rw [cl_hld hT hS hi]
  exact cdF_lkp 3 0 0 _ h1 (fun r _ => by rw [Nat.zero_add]; exact h2 r)
theorem cd_get {κ : CS} {X : XT} (hT : TIE κ X) (hS : ShX κ X) (hH : HLD κ X) {i r : Nat} (hi : i < κ.2.2.1 0) (hr : r < 2147483648) : cdC X i (nI r) = (cl κ i)[r]? := by
  have := cl_len hT hS hH hi
  rw [cd_lkp hT hS hH hi, lkp_nI hr _ _ (by omega), if_pos (Nat.zero_le _), Nat.sub_zero]
theorem cd_nth {κ : CS} {X : XT} (hT : TIE κ X) (hS : ShX κ X) (hH : HLD κ X) : ∀ i, i < κ.2.2.1 0 → ∀ rk, cdC X i rk = fstN (nthB κ i rk) (κ.2.2.1 0) := by
  intro i hi rk
  have hl := cl_len hT hS hH hi
  have hn := hS.1
  rcases i32_cases rk with ⟨r, hr, rfl⟩ | hneg
  · rw [cd_get hT hS hH hi hr]
    unfold cl
    rw [flt_get]
    refine fstN_congr fun k hk => ?_
    have hc := cnt_le (candB κ i) k
    unfold nthB
    congr 1
    rw [decide_eq_decide]
    exact (nat_ic_eq (by omega) hr).symm
  · rw [cd_lkp hT hS hH hi, lkp_neg hneg _ _ (by omega)]
    symm
    refine fstN_none fun k hk => ?_
    have hc := cnt_le (candB κ i) k
    unfold nthB
    have hne : ¬ nI (cnt (candB κ i) k) = rk := fun q => nI_pos (show cnt (candB κ i) k < 2147483648 by omega) (by rw [q]; exact hneg)
    rw [decide_eq_false hne]; simp
theorem cnt_hP {f : Nat → Option Nat} {i : Nat} {l : List Nat} (hl : l.length ≤ 3) (h : ∀ r, r < 3 → f r = l[r]?) : cnt (hP f i) 3 = (l.filter (fun k => !decide (k = i))).length := by
  have e : cnt (hP f i) 3 = ((0 + (if hP f i 0 then 1 else 0)) + (if hP f i 1 then 1 else 0)) + (if hP f i 2 then 1 else 0) := rfl
  have hs : ∀ r k, f r = some k → (if hP f i r then 1 else 0) = (if !decide (k = i) then 1 else 0) := fun r k hk => by rw [hP_some hk]
  have hn : ∀ r, f r = none → (if hP f i r then 1 else 0) = 0 := fun r hk => by rw [hP_none hk]; rfl
  have h0 := h 0 (by decide); have h1 := h 1 (by decide); have h2 := h 2 (by decide)
  rw [e]
  match l, hl with
  | [], _ => rw [hn 0 h0, hn 1 h1, hn 2 h2]; rfl
  | [x], _ => rw [hs 0 x h0, hn 1 h1, hn 2 h2, List.filter_cons]; cases decide (x = i) <;> rfl
  | [x, y], _ => rw [hs 0 x h0, hs 1 y h1, hn 2 h2, List.filter_cons, List.filter_cons]; cases decide (x = i) <;> cases decide (y = i) <;> rfl
  | [x, y, z], _ => rw [hs 0 x h0, hs 1 y h1, hs 2 z h2, List.filter_cons, List.filter_cons, List.filter_cons]; cases decide (x = i) <;> cases decide (y = i) <;> cases decide (z = i) <;> rfl
  | x :: y :: z :: w :: t, h => simp at h
theorem oc_C {κ : CS} {X : XT} (hT : TIE κ X) (hS : ShX κ X) (hH : HLD κ X) (xc : Int32) : ocC κ X xc = opCandidates κ xc := by
  unfold ocC opCandidates
  cases h : inR (κ.2.2.1 0) xc with
  | false => rfl
  | true =>
    have hn := hS.1
    obtain ⟨i, hi, rfl⟩ := inR_spec h (by omega)
    obtain ⟨h1, h2⟩ := hld_get hH (hS.is hi)
    rw [show xj (nI i) = i from nI_clamp (by omega), cnt_hP h1 (fun r _ => h2 r), ← cl_hld hT hS hi, cl, flt_len]
theorem oc_A {κ : CS} {X : XT} (hT : TIE κ X) (hS : ShX κ X) (hH : HLD κ X) (xc rk : Int32) : ocA κ X xc rk = opCandidateAt κ xc rk := by
  unfold ocA opCandidateAt
  cases h : inR (κ.2.2.1 0) xc with
  | false => rfl
  | true =>
    have hn := hS.1
    obtain ⟨i, hi, rfl⟩ := inR_spec h (by omega)
    rw [show xj (nI i) = i from nI_clamp (by omega), cd_nth hT hS hH i hi]
    rfl
