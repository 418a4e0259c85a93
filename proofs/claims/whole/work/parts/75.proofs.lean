/-! the class's answers of proofs are the reference's -/
theorem pr_eq {κ : CS} {xe xs : Int32} (pr : PT) (rm : Nat) (row : Nat → Int64) (h : prC κ xe xs = 0) (hn : κ.2.2.1 0 ≤ 40) : (dsP κ xe xs pr).2.2 = (prQ κ xe xs rm row).1 ∧ ∀ i, i < (prQ κ xe xs rm row).1 → (dsP κ xe xs pr).1 ((dsP κ xe xs pr).2.2 - 1 - i) = (prQ κ xe xs rm row).2 i := by
  unfold dsP prQ
  rw [decide_eq_true h]
  obtain ⟨r1, r2, _⟩ := dsK_pv (κ := κ) (en := xj xe) row 6 0 (xj xs) (pr.1, pr.2.1, 0)
  have e : (dsK κ (xj xe + 1) false 6 0 (xj xs) (pr.1, pr.2.1, 0)).2.2 = (pvK κ (xj xe) 6 0 (xj xs) (0, row)).1 := r1.trans (Nat.zero_add _)
  refine ⟨e, fun i hi => ?_⟩
  have := r2 i hi
  rw [show ((pr.1, pr.2.1, 0) : PT).2.2 + (pvK κ (xj xe) 6 0 (xj xs) (0, row)).1 = (dsK κ (xj xe + 1) false 6 0 (xj xs) (pr.1, pr.2.1, 0)).2.2 from r1.symm] at this
  exact this
theorem gr_eq {κ : CS} {xe xs : Int32} (pr : PT) (rm : Nat) (row : Nat → Int64) (h : grC κ xe xs = 0) (hn : κ.2.2.1 0 ≤ 40) : (dsG κ xe xs pr).2.2 = (grQ κ xe xs rm row).1 ∧ ∀ i, i < (grQ κ xe xs rm row).1 → (dsG κ xe xs pr).1 ((dsG κ xe xs pr).2.2 - 1 - i) = (grQ κ xe xs rm row).2 i := by
  unfold dsG grQ
  rw [decide_eq_true h]
  obtain ⟨e0, s0, g1, g2, g3, g4, rfl, rfl⟩ := grC_0 h hn
  have x1 : xj (nI e0) = e0 := nI_clamp (by omega)
  have x2 : xj (nI s0) = s0 := nI_clamp (by omega)
  rw [x1, x2]
  obtain ⟨r1, r2, _⟩ := dsK_gw (κ := κ) (sm := e0) row 6 0 s0 (pr.1, pr.2.1, 0) (by show s0 ≤ 64; omega) (by omega) (by omega) (by omega)
  have e : (dsK κ e0 true 6 0 s0 (pr.1, pr.2.1, 0)).2.2 = (gwK κ e0 6 0 s0 (0, row)).1 := r1.trans (Nat.zero_add _)
  refine ⟨e, fun i hi => ?_⟩
  have := r2 i hi
  rw [show ((pr.1, pr.2.1, 0) : PT).2.2 + (gwK κ e0 6 0 s0 (0, row)).1 = (dsK κ e0 true 6 0 s0 (pr.1, pr.2.1, 0)).2.2 from r1.symm] at this
  exact this
theorem pr_root {κ : CS} {xe xs : Int32} (pr : PT) (h : prC κ xe xs = 0) (hn : κ.2.2.1 0 ≤ 40) : rfP jn (dsP κ xe xs pr) (dsP κ xe xs pr).2.2 (ent κ (xj xe)) = rt κ 6 0 (xj xs) := by
  unfold dsP
  rw [decide_eq_true h]
  obtain ⟨e0, s0, g1, g2, g3, rfl, rfl⟩ := prC_0 h hn
  have x1 : xj (nI e0) = e0 := nI_clamp (by omega)
  have x2 : xj (nI s0) = s0 := nI_clamp (by omega)
  rw [x1, x2]
  have := rfP_ds (κ := κ) (en := e0) 6 0 s0 (pr.1, pr.2.1, 0) (by show s0 ≤ 64; omega) g2 (by omega) (by omega) (by omega) (by omega)
  exact this.trans rfP_0
/-- what the class answers of proofs, in one form with the reference's -/
theorem oc_PA {κ : CS} {xe xs xi : Int32} (pr : PT) (rm : Nat) (row : Nat → Int64) (hn : κ.2.2.1 0 ≤ 40) : (if decide (prC κ xe xs = 0) then (if inR (dsP κ xe xs pr).2.2 xi then 0 else 2) else prC κ xe xs) = (opPrA κ xe xs xi rm row).1 ∧ ((opPrA κ xe xs xi rm row).1 = 0 → (dsP κ xe xs pr).1 ((dsP κ xe xs pr).2.2 - 1 - xj xi) = (opPrA κ xe xs xi rm row).2) := by
  unfold opPrA
  by_cases h : prC κ xe xs = 0
  · obtain ⟨a, b⟩ := pr_eq pr rm row h hn
    have h40 := prQ_le (rm := rm) (row := row) h
    rw [decide_eq_true h]
    cases hr : inR (prQ κ xe xs rm row).1 xi with
    | false => rw [a, hr]; exact ⟨rfl, fun q => by cases q⟩
    | true =>
      refine ⟨by rw [a, hr]; rfl, fun _ => ?_⟩
      obtain ⟨j, hj, rfl⟩ := inR_spec hr (by omega)
      rw [show xj (nI j) = j from nI_clamp (by omega)]
      exact b j hj
  · rw [decide_eq_false h]; exact ⟨rfl, fun q => absurd q h⟩
theorem oc_GA {κ : CS} {xe xs xi : Int32} (pr : PT) (rm : Nat) (row : Nat → Int64) (hn : κ.2.2.1 0 ≤ 40) : (if decide (grC κ xe xs = 0) then (if inR (dsG κ xe xs pr).2.2 xi then 0 else 2) else grC κ xe xs) = (opGrA κ xe xs xi rm row).1 ∧ ((opGrA κ xe xs xi rm row).1 = 0 → (dsG κ xe xs pr).1 ((dsG κ xe xs pr).2.2 - 1 - xj xi) = (opGrA κ xe xs xi rm row).2) := by
  unfold opGrA
  by_cases h : grC κ xe xs = 0
  · obtain ⟨a, b⟩ := gr_eq pr rm row h hn
    have h40 := grQ_le (rm := rm) (row := row) h
    rw [decide_eq_true h]
    cases hr : inR (grQ κ xe xs rm row).1 xi with
    | false => rw [a, hr]; exact ⟨rfl, fun q => by cases q⟩
    | true =>
      refine ⟨by rw [a, hr]; rfl, fun _ => ?_⟩
      obtain ⟨j, hj, rfl⟩ := inR_spec hr (by omega)
      rw [show xj (nI j) = j from nI_clamp (by omega)]
      exact b j hj
  · rw [decide_eq_false h]; exact ⟨rfl, fun q => absurd q h⟩
