/-! searches and counts over chains: what the class's methods answer, in its own rows -/
theorem fbL_step {body : Nat → CT × CT → CT × CT} {r : Nat} {z z' : CT × CT} (h : r < 3) (e : body r z = z') : fbL body (3 - r) r z = fbL body (3 - (r + 1)) (r + 1) z' := by
  rw [show 3 - r = (3 - (r + 1)) + 1 from by omega, ← e]; rfl
theorem fbB_none {κ : CS} {X : XT} {go : CT → CT → CT × CT} {i r : Nat} {z : CT × CT} (h : cdC X i (nI r) = none) : fbB κ X go i r z = z := by unfold fbB; rw [h]
theorem fbB_some {κ : CS} {X : XT} {go : CT → CT → CT × CT} {i r k : Nat} {z : CT × CT} (h : cdC X i (nI r) = some k) (hr : refC κ (wyO z.1) z.1.2.1 k z.1.2.2 = 111) : fbB κ X go i r z = (popC (go (addC z.1 k) z.2).1, (go (addC z.1 k) z.2).2) := by
  unfold fbB; rw [h]
  show (if decide (refC κ (wyO z.1) z.1.2.1 k z.1.2.2 = 111) then _ else z) = _
  rw [decide_eq_true hr]; rfl
theorem fbB_no {κ : CS} {X : XT} {go : CT → CT → CT × CT} {i r k : Nat} {z : CT × CT} (h : cdC X i (nI r) = some k) (hr : ¬ refC κ (wyO z.1) z.1.2.1 k z.1.2.2 = 111) : fbB κ X go i r z = z := by
  unfold fbB; rw [h]
  show (if decide (refC κ (wyO z.1) z.1.2.1 k z.1.2.2 = 111) then _ else z) = _
  rw [decide_eq_false hr]; rfl
theorem fbK_s {κ : CS} {X : XT} {d i : Nat} {t b : CT} (h : lastC t = some i) : fbK κ X (d + 1) t b = (if decide (0 < b.2.1) && decide (b.2.1 ≤ t.2.1) then (t, b) else if thC κ X t then (t, cpC t b) else fbL (fbB κ X (fbK κ X d) i) 3 0 (t, b)) := by
  show (match lastC t with | none => (t, b) | some i => _) = _
  rw [h]
theorem fbK_n {κ : CS} {X : XT} {d : Nat} {t b : CT} (h : lastC t = none) : fbK κ X (d + 1) t b = (t, b) := by
  show (match lastC t with | none => (t, b) | some i => _) = _
  rw [h]
theorem fbK_p {κ : CS} {X : XT} {d i : Nat} {t b : CT} (h : lastC t = some i) (h1 : 0 < b.2.1) (h2 : b.2.1 ≤ t.2.1) : fbK κ X (d + 1) t b = (t, b) := by
  rw [fbK_s h, decide_eq_true h1, decide_eq_true h2]; rfl
theorem fbK_t {κ : CS} {X : XT} {d i : Nat} {t b : CT} (h : lastC t = some i) (h1 : ¬ (0 < b.2.1 ∧ b.2.1 ≤ t.2.1)) (h2 : thC κ X t = true) : fbK κ X (d + 1) t b = (t, cpC t b) := by
  rw [fbK_s h, if_neg (by rw [Bool.and_eq_true, decide_eq_true_eq, decide_eq_true_eq]; exact h1), if_pos h2]
theorem fbK_g {κ : CS} {X : XT} {d i : Nat} {t b : CT} (h : lastC t = some i) (h1 : ¬ (0 < b.2.1 ∧ b.2.1 ≤ t.2.1)) (h2 : thC κ X t = false) : fbK κ X (d + 1) t b = fbL (fbB κ X (fbK κ X d) i) 3 0 (t, b) := by
  rw [fbK_s h, if_neg (by rw [Bool.and_eq_true, decide_eq_true_eq, decide_eq_true_eq]; exact h1), if_neg (by rw [h2]; decide)]
/-- the search from a certificate on a day -/
def sbK (κ : CS) (X : XT) (i : Nat) (d : Int32) (t b : CT) : CT × CT := if decide (rfI κ i d = 111) then fbK κ X 7 (va_up t.1 0 (some i), 1, d) (b.1, 0, b.2.2) else (t, (b.1, 0, b.2.2))
theorem sbK_y {κ : CS} {X : XT} {i : Nat} {d : Int32} {t b : CT} (h : rfI κ i d = 111) : sbK κ X i d t b = fbK κ X 7 (va_up t.1 0 (some i), 1, d) (b.1, 0, b.2.2) := by unfold sbK; rw [decide_eq_true h]; rfl
theorem sbK_n {κ : CS} {X : XT} {i : Nat} {d : Int32} {t b : CT} (h : ¬ rfI κ i d = 111) : sbK κ X i d t b = (t, (b.1, 0, b.2.2)) := by unfold sbK; rw [decide_eq_false h]; rfl
theorem restart_ok {κ : CS} {t : CT} {i : Nat} {d : Int32} (h : ShC κ t) (hi : i < κ.2.2.1 0) : ShC κ (va_up t.1 0 (some i), 1, d) := by
  refine ⟨by show 1 ≤ 7; omega, ?_, ?_⟩
  · intro r hr j hj
    have hj2 : (if r = 0 then some i else t.1 r) = some j := hj
    split at hj2
    · cases hj2; exact hi
    · exact h.2.1 r hr j hj2
  · intro r hr
    have hr2 : r < 1 := hr
    show (if r = 0 then some i else t.1 r) ≠ none
    rw [if_pos (by omega)]; simp
theorem clear_ok {κ : CS} {b : CT} (h : ShC κ b) : ShC κ (b.1, 0, b.2.2) := ⟨Nat.zero_le _, h.2.1, fun r hr => absurd hr (Nat.not_lt_zero r)⟩
theorem sbK_ok {κ : CS} {X : XT} (hI : InvM κ) (hS : ShX κ X) {i : Nat} {d : Int32} {t b : CT} (hi : i < κ.2.2.1 0) (ht : ShC κ t) (hb : ShC κ b) : ShC κ (sbK κ X i d t b).1 ∧ ShC κ (sbK κ X i d t b).2 := by
  by_cases h : rfI κ i d = 111
  · rw [sbK_y h]
    have k := fbK_keep hI hS 7 _ _ (restart_ok (d := d) ht hi) (clear_ok hb) (Nat.le_refl 1)
    exact ⟨k.1, k.2.1⟩
  · rw [sbK_n h]; exact ⟨ht, clear_ok hb⟩
/-- chain sizes of the first certificates: their sum, how many there are, the rows behind -/
def mcC (κ : CS) (X : XT) (t b : CT) : Nat → Nat × Nat × CT × CT
  | 0 => (0, 0, t, b)
  | k + 1 => ((mcC κ X t b k).1 + (sbK κ X k (nI (κ.2.2.1 2)) (mcC κ X t b k).2.2.1 (mcC κ X t b k).2.2.2).2.2.1, (mcC κ X t b k).2.1 + (if decide (0 < (sbK κ X k (nI (κ.2.2.1 2)) (mcC κ X t b k).2.2.1 (mcC κ X t b k).2.2.2).2.2.1) then 1 else 0), sbK κ X k (nI (κ.2.2.1 2)) (mcC κ X t b k).2.2.1 (mcC κ X t b k).2.2.2)
theorem mcC_ok {κ : CS} {X : XT} (hI : InvM κ) (hS : ShX κ X) {t b : CT} (ht : ShC κ t) (hb : ShC κ b) : ∀ k, k ≤ κ.2.2.1 0 → ShC κ (mcC κ X t b k).2.2.1 ∧ ShC κ (mcC κ X t b k).2.2.2 ∧ (mcC κ X t b k).1 ≤ 7 * k ∧ (mcC κ X t b k).2.1 ≤ k
  | 0, _ => ⟨ht, hb, Nat.le_refl _, Nat.le_refl _⟩
  | k + 1, hk => by
    obtain ⟨a1, a2, a3, a4⟩ := mcC_ok hI hS ht hb k (by omega)
    obtain ⟨b1, b2⟩ := sbK_ok (X := X) (d := nI (κ.2.2.1 2)) hI hS (show k < κ.2.2.1 0 by omega) a1 a2
    have b3 := b2.1
    refine ⟨b1, b2, ?_, ?_⟩
    · show (mcC κ X t b k).1 + (sbK κ X k (nI (κ.2.2.1 2)) (mcC κ X t b k).2.2.1 (mcC κ X t b k).2.2.2).2.2.1 ≤ _
      omega
    · show (mcC κ X t b k).2.1 + (if decide (0 < (sbK κ X k (nI (κ.2.2.1 2)) (mcC κ X t b k).2.2.1 (mcC κ X t b k).2.2.2).2.2.1) then 1 else 0) ≤ _
      split <;> omega
theorem mcC_f {κ : CS} {X : XT} {t b : CT} {k : Nat} (h : κ.2.2.1 0 ≤ k) : mcC κ X t b (min k (κ.2.2.1 0)) = mcC κ X t b (min (k + 1) (κ.2.2.1 0)) := by
  rw [show min (k + 1) (κ.2.2.1 0) = min k (κ.2.2.1 0) from by omega]
theorem mcC_t {κ : CS} {X : XT} {t b : CT} {k : Nat} (h : k < κ.2.2.1 0) : mcC κ X t b (min (k + 1) (κ.2.2.1 0)) = ((mcC κ X t b (min k (κ.2.2.1 0))).1 + (sbK κ X k (nI (κ.2.2.1 2)) (mcC κ X t b (min k (κ.2.2.1 0))).2.2.1 (mcC κ X t b (min k (κ.2.2.1 0))).2.2.2).2.2.1, (mcC κ X t b (min k (κ.2.2.1 0))).2.1 + (if decide (0 < (sbK κ X k (nI (κ.2.2.1 2)) (mcC κ X t b (min k (κ.2.2.1 0))).2.2.1 (mcC κ X t b (min k (κ.2.2.1 0))).2.2.2).2.2.1) then 1 else 0), sbK κ X k (nI (κ.2.2.1 2)) (mcC κ X t b (min k (κ.2.2.1 0))).2.2.1 (mcC κ X t b (min k (κ.2.2.1 0))).2.2.2) := by
  rw [show min (k + 1) (κ.2.2.1 0) = k + 1 from by omega, show min k (κ.2.2.1 0) = k from by omega]; rfl
/-- the counts: over ways that fit, and over all ways that are judged -/
def ctL (body : Nat → Nat × CT → Nat × CT) : Nat → Nat → Nat × CT → Nat × CT
  | 0, _, z => z
  | f + 1, r, z => ctL body f (r + 1) (body r z)
def ctB (ok : CT → Nat → Bool) (X : XT) (go : CT → Nat × CT) (i r : Nat) (z : Nat × CT) : Nat × CT := match cdC X i (nI r) with
  | none => z
  | some k => if ok z.2 k then (z.1 + (go (addC z.2 k)).1, popC (go (addC z.2 k)).2) else z
def okL (κ : CS) (t : CT) (k : Nat) : Bool := decide (refC κ (wyO t) t.2.1 k t.2.2 = 111)
def okJ (t : CT) (k : Nat) : Bool := !hasC t k && decide (t.2.1 < 7)
def ctK (th : CT → Bool) (ok : CT → Nat → Bool) (X : XT) : Nat → CT → Nat × CT
  | 0, t => (0, t)
  | d + 1, t => match lastC t with
    | none => (0, t)
    | some i => ctL (ctB ok X (ctK th ok X d) i) 3 0 (if th t then 1 else 0, t)
abbrev clK (κ : CS) (X : XT) : Nat → CT → Nat × CT := ctK (thC κ X) (okL κ) X
abbrev cjK (κ : CS) (X : XT) : Nat → CT → Nat × CT := ctK (goodC κ X) okJ X
theorem ctL_step {body : Nat → Nat × CT → Nat × CT} {r : Nat} {z z' : Nat × CT} (h : r < 3) (e : body r z = z') : ctL body (3 - r) r z = ctL body (3 - (r + 1)) (r + 1) z' := by
  rw [show 3 - r = (3 - (r + 1)) + 1 from by omega, ← e]; rfl
theorem ctB_none {ok : CT → Nat → Bool} {X : XT} {go : CT → Nat × CT} {i r : Nat} {z : Nat × CT} (h : cdC X i (nI r) = none) : ctB ok X go i r z = z := by unfold ctB; rw [h]
theorem ctB_some {ok : CT → Nat → Bool} {X : XT} {go : CT → Nat × CT} {i r k : Nat} {z : Nat × CT} (h : cdC X i (nI r) = some k) (hr : ok z.2 k = true) : ctB ok X go i r z = (z.1 + (go (addC z.2 k)).1, popC (go (addC z.2 k)).2) := by
  unfold ctB; rw [h]
  show (if ok z.2 k then _ else z) = _
  rw [if_pos hr]
theorem ctB_no {ok : CT → Nat → Bool} {X : XT} {go : CT → Nat × CT} {i r k : Nat} {z : Nat × CT} (h : cdC X i (nI r) = some k) (hr : ok z.2 k = false) : ctB ok X go i r z = z := by
  unfold ctB; rw [h]
  show (if ok z.2 k then _ else z) = _
  rw [if_neg (by rw [hr]; decide)]
theorem ctK_n {th : CT → Bool} {ok : CT → Nat → Bool} {X : XT} {d : Nat} {t : CT} (h : lastC t = none) : ctK th ok X (d + 1) t = (0, t) := by
  show (match lastC t with | none => (0, t) | some i => _) = _
  rw [h]
theorem ctK_s {th : CT → Bool} {ok : CT → Nat → Bool} {X : XT} {d i : Nat} {t : CT} (h : lastC t = some i) : ctK th ok X (d + 1) t = ctL (ctB ok X (ctK th ok X d) i) 3 0 (if th t then 1 else 0, t) := by
  show (match lastC t with | none => (0, t) | some i => _) = _
  rw [h]
def KeepT (κ : CS) (t z : CT) : Prop := ShC κ z ∧ z.2 = t.2 ∧ ∀ r, r < t.2.1 → z.1 r = t.1 r
theorem ctL_keep {κ : CS} {t : CT} {body : Nat → Nat × CT → Nat × CT} (hb : ∀ r z, KeepT κ t z.2 → KeepT κ t (body r z).2) : ∀ f r z, KeepT κ t z.2 → KeepT κ t (ctL body f r z).2
  | 0, _, _, h => h
  | f + 1, r, z, h => ctL_keep hb f (r + 1) (body r z) (hb r z h)
theorem ctB_keep {κ : CS} {X : XT} {ok : CT → Nat → Bool} (hok : ∀ z k, ShC κ z → k < κ.2.2.1 0 → ok z k = true → z.2.1 < 7) (hS : ShX κ X) {t : CT} {go : CT → Nat × CT} {i : Nat} (hi : i < κ.2.2.1 0) (h1 : 1 ≤ t.2.1) (hgo : t.2.1 < 7 → ∀ t', ShC κ t' → t'.2.1 = t.2.1 + 1 → KeepT κ t' (go t').2) : ∀ r z, KeepT κ t z.2 → KeepT κ t (ctB ok X go i r z).2 := by
  intro r z hz
  obtain ⟨z1, z3, z4⟩ := hz
  have zs : z.2.2.1 = t.2.1 := by rw [z3]
  cases hc : cdC X i (nI r) with
  | none => rw [ctB_none hc]; exact ⟨z1, z3, z4⟩
  | some k =>
    cases hr : ok z.2 k with
    | false => rw [ctB_no hc hr]; exact ⟨z1, z3, z4⟩
    | true =>
      have hk := (cdC_lt hS hi hc).1
      have h6 := hok z.2 k z1 hk hr
      rw [ctB_some hc hr]
      obtain ⟨g1, g3, g4⟩ := hgo (by omega) (addC z.2 k) (addC_ok z1 (by omega) hk) (by show z.2.2.1 + 1 = _; omega)
      refine ⟨popC_ok g1, ?_, ?_⟩
      · show ((go (addC z.2 k)).2.2.1 - 1, (go (addC z.2 k)).2.2.2) = t.2
        rw [g3]; show (z.2.2.1 + 1 - 1, z.2.2.2) = t.2
        rw [← z3]; rfl
      · intro r2 hr2
        show (go (addC z.2 k)).2.1 r2 = t.1 r2
        rw [g4 r2 (by show r2 < z.2.2.1 + 1; omega)]
        show (if r2 = z.2.2.1 then some k else z.2.1 r2) = t.1 r2
        rw [if_neg (by omega)]; exact z4 r2 hr2
theorem ctK_keep {κ : CS} {X : XT} {th : CT → Bool} {ok : CT → Nat → Bool} (hok : ∀ z k, ShC κ z → k < κ.2.2.1 0 → ok z k = true → z.2.1 < 7) (hS : ShX κ X) : ∀ d t, ShC κ t → 1 ≤ t.2.1 → KeepT κ t (ctK th ok X d t).2
  | 0, t, h1, _ => ⟨h1, rfl, fun _ _ => rfl⟩
  | d + 1, t, h1, h3 => by
    cases hl : lastC t with
    | none => rw [ctK_n hl]; exact ⟨h1, rfl, fun _ _ => rfl⟩
    | some i =>
      rw [ctK_s hl]
      exact ctL_keep (ctB_keep hok hS (lastC_lt h1 hl) h3 (fun _ t' a e => ctK_keep hok hS d t' a (by omega))) 3 0 _ ⟨h1, rfl, fun _ _ => rfl⟩
theorem okL_7 {κ : CS} (hI : InvM κ) : ∀ z k, ShC κ z → k < κ.2.2.1 0 → okL κ z k = true → z.2.1 < 7 := fun z k hz hk h => by
  have h1 := refC_sz hI hk (by have := hz.1; omega) (of_decide_eq_true h); omega
theorem okJ_7 {κ : CS} : ∀ z k, ShC κ z → k < κ.2.2.1 0 → okJ z k = true → z.2.1 < 7 := fun z k _ _ h => by
  unfold okJ at h; rw [Bool.and_eq_true] at h; exact of_decide_eq_true h.2
