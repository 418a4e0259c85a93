/-! a proof from the top down is the proof from the bottom up, read backwards -/
def RelP (q res : PT) (a : Nat × (Nat → Int64)) : Prop := res.2.2 = q.2.2 + a.1 ∧ (∀ i, i < a.1 → res.1 (q.2.2 + a.1 - 1 - i) = a.2 i) ∧ ∀ i, i < q.2.2 → res.1 i = q.1 i
theorem RelP_0 (q : PT) (row : Nat → Int64) : RelP q q (0, row) := ⟨rfl, fun i h => absurd h (Nat.not_lt_zero i), fun _ _ => rfl⟩
theorem RelP_push {q res : PT} {h : Int64} {b : Bool} {a : Nat × (Nat → Int64)} (hr : RelP (puP q h b) res a) : RelP q res (ad1 a h) := by
  obtain ⟨h1, h2, h3⟩ := hr
  have e1 : (puP q h b).2.2 = q.2.2 + 1 := rfl
  rw [e1] at h1 h2 h3
  refine ⟨?_, ?_, ?_⟩
  · show res.2.2 = q.2.2 + (a.1 + 1); omega
  · intro i hi
    have hi2 : i < a.1 + 1 := hi
    show res.1 (q.2.2 + (a.1 + 1) - 1 - i) = vp_updL a.2 a.1 h i
    by_cases e : i = a.1
    · subst e
      rw [show q.2.2 + (a.1 + 1) - 1 - a.1 = q.2.2 from by omega, h3 _ (by omega)]
      show vp_updL q.1 q.2.2 h q.2.2 = vp_updL a.2 a.1 h a.1
      simp [vp_updL]
    · rw [show q.2.2 + (a.1 + 1) - 1 - i = q.2.2 + 1 + a.1 - 1 - i from by omega, h2 i (by omega)]
      simp [vp_updL, e]
  · intro i hi
    rw [h3 i (by omega)]
    show vp_updL q.1 q.2.2 h i = q.1 i
    simp [vp_updL, show i ≠ q.2.2 from by omega]
theorem dsK_pv {κ : CS} {en : Nat} (row : Nat → Int64) : ∀ d fr sz q, RelP q (dsK κ (en + 1) false d fr sz q) (pvK κ en d fr sz (0, row))
  | 0, fr, sz, q => RelP_0 q row
  | d + 1, fr, sz, q => by
    show RelP q (if decide (sz ≤ 1) then fiP κ false fr sz q else if false && decide (en + 1 = fr + sz) then fiP κ false fr sz q else if decide (en + 1 ≤ fr + spl sz) then dsK κ (en + 1) false d fr (spl sz) (puP q (rt κ 6 (fr + spl sz) (sz - spl sz)) false) else dsK κ (en + 1) false d (fr + spl sz) (sz - spl sz) (puP q (rt κ 6 fr (spl sz)) true)) (if decide (1 < sz) then (if decide (en < fr + spl sz) then ad1 (pvK κ en d fr (spl sz) (0, row)) (rt κ 6 (fr + spl sz) (sz - spl sz)) else ad1 (pvK κ en d (fr + spl sz) (sz - spl sz) (0, row)) (rt κ 6 fr (spl sz))) else (0, row))
    by_cases h1 : sz ≤ 1
    · rw [decide_eq_true h1, decide_eq_false (show ¬ 1 < sz by omega)]; exact RelP_0 q row
    · rw [decide_eq_false h1, decide_eq_true (show 1 < sz by omega)]
      by_cases h2 : en < fr + spl sz
      · rw [decide_eq_true (show en + 1 ≤ fr + spl sz by omega), decide_eq_true h2]; exact RelP_push (dsK_pv row d _ _ _)
      · rw [decide_eq_false (show ¬ en + 1 ≤ fr + spl sz by omega), decide_eq_false h2]; exact RelP_push (dsK_pv row d _ _ _)
theorem fiP_gw {κ : CS} {fr sz : Nat} {q : PT} (row : Nat → Int64) : RelP q (fiP κ true fr sz q) (if decide (0 < fr) then ad1 (0, row) (rt κ 6 fr sz) else (0, row)) := by
  unfold fiP
  by_cases h : 0 < fr
  · rw [decide_eq_true h]; exact RelP_push (RelP_0 _ row)
  · rw [decide_eq_false h]; exact RelP_0 q row
theorem dsK_gw {κ : CS} {sm : Nat} (row : Nat → Int64) : ∀ d fr sz q, sz ≤ 2 ^ d → sz ≤ 40 → fr < sm → sm ≤ fr + sz → RelP q (dsK κ sm true d fr sz q) (gwK κ sm d fr sz (0, row))
  | 0, fr, sz, q, _, _, _, _ => fiP_gw row
  | d + 1, fr, sz, q, hp, h40, ha, hb => by
    show RelP q (if decide (sz ≤ 1) then fiP κ true fr sz q else if true && decide (sm = fr + sz) then fiP κ true fr sz q else if decide (sm ≤ fr + spl sz) then dsK κ sm true d fr (spl sz) (puP q (rt κ 6 (fr + spl sz) (sz - spl sz)) false) else dsK κ sm true d (fr + spl sz) (sz - spl sz) (puP q (rt κ 6 fr (spl sz)) true)) (if decide (sm = fr + sz) then (if decide (0 < fr) then ad1 (0, row) (rt κ 6 fr sz) else (0, row)) else if decide (fr + spl sz < sm) then ad1 (gwK κ sm d (fr + spl sz) (sz - spl sz) (0, row)) (rt κ 6 fr (spl sz)) else ad1 (gwK κ sm d fr (spl sz) (0, row)) (rt κ 6 (fr + spl sz) (sz - spl sz)))
    by_cases h2 : sm = fr + sz
    · rw [decide_eq_true h2]
      by_cases h1 : sz ≤ 1
      · rw [decide_eq_true h1]; exact fiP_gw row
      · rw [decide_eq_false h1]; exact fiP_gw row
    · have h1 : ¬ sz ≤ 1 := by omega
      obtain ⟨hs1, hs2, hs3, hs4⟩ := spl_spec sz (by omega) (by omega)
      by_cases h3 : d < 7
      · have hs5 := hs4 d h3 hp
        rw [decide_eq_false h1, decide_eq_false h2]
        by_cases h4 : sm ≤ fr + spl sz
        · rw [decide_eq_true h4, decide_eq_false (show ¬ fr + spl sz < sm by omega)]; exact RelP_push (dsK_gw row d _ _ _ hs5 (by omega) ha (by omega))
        · rw [decide_eq_false h4, decide_eq_true (show fr + spl sz < sm by omega)]; exact RelP_push (dsK_gw row d _ _ _ (by omega) (by omega) (by omega) (by omega))
      · have h64 : 2 ^ 7 ≤ 2 ^ d := Nat.pow_le_pow_right (by decide) (by omega)
        have h128 : (2 : Nat) ^ 7 = 128 := by decide
        rw [decide_eq_false h1, decide_eq_false h2]
        by_cases h4 : sm ≤ fr + spl sz
        · rw [decide_eq_true h4, decide_eq_false (show ¬ fr + spl sz < sm by omega)]; exact RelP_push (dsK_gw row d _ _ _ (by omega) (by omega) ha (by omega))
        · rw [decide_eq_false h4, decide_eq_true (show fr + spl sz < sm by omega)]; exact RelP_push (dsK_gw row d _ _ _ (by omega) (by omega) (by omega) (by omega))
