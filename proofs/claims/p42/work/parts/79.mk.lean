theorem lnI {ln : Int32} (h : isInB ln (nI 0) (nI 5) = true) : ∃ a : Nat, a ≤ 5 ∧ ln = nI a := by
  rcases i32_cases ln with ⟨j, hj, rfl⟩ | h2
  · rw [isInB_nI hj (by omega) (by omega)] at h
    exact ⟨j, (of_decide_eq_true h).2, rfl⟩
  · rw [isInB_neg h2 (by omega)] at h; cases h
theorem nmI_of {nm : Int32} (h : nameB nm = true) : nmI nm := by
  obtain ⟨j, a, b, c, _⟩ := nameB_le h; exact ⟨j, a, b, c⟩
/-- what a maker leaves -/
def MV (κ : CS) (cs : Nat → CT) (κ1 : CS) (X1 : XT) : Prop := IV κ1 X1 ∧ WV κ1 (fun q => nrC (cs q)) ∧ κ1.2.2.1 1 ≤ κ1.2.2.1 0 ∧ κ1.2.2.1 2 = κ.2.2.1 2
theorem WV_ky {κ : CS} {cs : Nat → CT} (h : WV κ cs) : WV (kyK κ) cs := h
theorem MV_hl {κ κ1 : CS} {X : XT} {cs : Nat → CT} {nm bn bk dy ln : Int32} {rt : Bool} {h2 : Nat} (h : IV κ X) (hw : WV κ cs) (hk : κ.2.2.1 1 ≤ κ.2.2.1 0) (hd : κ.2.2.1 2 < 2147483648) (hn4 : κ.2.2.1 0 < 40) (hnm : nmI nm) (hh2 : h2 < κ.2.2.1 1 + 1)
    (hN : NEW (kyK κ) κ1 dy ln) (hW : NW2 (kyK κ) κ1 nm (nI (κ.2.2.1 1 + 1)) bn bk rt) (hbn : bn = upd X.2.2.1 (κ.2.2.1 1) nm h2) (hbk : bk = nI (h2 + 1)) (hrt : rt = decide (κ.2.2.1 1 = h2)) : MV κ cs κ1 (enX (hlX X (κ.2.2.1 1) nm) (κ.2.2.1 0) (κ.2.2.1 1) h2) := by
  have hm1 : (kyK κ).2.2.1 1 = κ.2.2.1 1 + 1 := by show upn κ.2.2.1 1 (κ.2.2.1 1 + 1) 1 = _; exact upn_eq
  have e1 : (hlX X (κ.2.2.1 1) nm).2.2.1 (κ.2.2.1 1) = nm := by show upd X.2.2.1 (κ.2.2.1 1) nm (κ.2.2.1 1) = nm; exact if_pos rfl
  have hv := IV_new (κ := kyK κ) (κ1 := κ1) (X := hlX X (κ.2.2.1 1) nm) (h1 := κ.2.2.1 1) (h2 := h2) (dy := dy) (ln := ln) (IV_hl h (by omega) nm) hn4 (by rw [hm1]; omega) (by rw [hm1]; exact hh2) (by show upn X.2.2.2.1 (κ.2.2.1 1) 0 (κ.2.2.1 1) < 3; rw [upn_eq]; decide) hN (by rw [e1, show (hlX X (κ.2.2.1 1) nm).2.2.1 h2 = bn from hbn.symm, ← hbk, ← hrt]; exact hW) (by rw [e1]; exact hnm) hd
  have b0 : κ1.2.2.1 0 = κ.2.2.1 0 + 1 := hN.1
  have b1 : κ1.2.2.1 1 = κ.2.2.1 1 + 1 := hN.2.1.trans hm1
  exact ⟨hv, WV_new (WV_ky hw) hN.1 hW.2.2.2.2.2.2.2.2.1 hW.2.2.2.2.2.2.2.2.2, by omega, hN.2.2.1⟩
theorem FRS_ky {κ : CS} (h : FRS κ) : FRS (kyK κ) := h
theorem mk_root {κ : CS} {X : XT} {cs : Nat → CT} (h : IV κ X) (hw : WV κ cs) (hk : κ.2.2.1 1 ≤ κ.2.2.1 0) (hd : κ.2.2.1 2 < 2147483648) {nm dy ln : Int32} (hc : (opMakeRoot κ nm dy ln).1 = 0) : MV κ cs (opMakeRoot κ nm dy ln).2.2 (enX (hlX X (κ.2.2.1 1) nm) (κ.2.2.1 0) (κ.2.2.1 1) (κ.2.2.1 1)) := by
  unfold opMakeRoot at hc ⊢
  cases hb : (nameB nm && isInB dy (nI 1) (nI 999) && isInB ln (nI 0) (nI 5)) with
  | false => rw [hb] at hc; cases hc
  | true =>
    rw [hb] at hc
    by_cases h4 : κ.2.2.1 0 = 40
    · rw [decide_eq_true h4] at hc; cases hc
    · rw [decide_eq_false h4]
      rw [Bool.and_eq_true, Bool.and_eq_true] at hb
      have hn := h.1.1
      have f6 := h.2.2.2.2.2.1
      exact MV_hl (nm := nm) (bn := nm) (bk := nI (κ.2.2.1 1 + 1)) (dy := dy) (ln := ln) (rt := true) h hw hk hd (by omega) (nmI_of hb.1.1) (by omega)
        (NEW_rt (NEW_au (NEW_mk (FRS_ky h.2.2.2.2.1) nm (nI (κ.2.2.1 1 + 1)) nm (nI (κ.2.2.1 1 + 1)) dy)))
        (NW2_rt (NW2_au (NW2_mk (κ := kyK κ) (FRS_ky h.2.2.2.2.1) f6 nm (nI (κ.2.2.1 1 + 1)) nm (nI (κ.2.2.1 1 + 1)) dy) (lnI hb.2)))
        (show nm = upd X.2.2.1 (κ.2.2.1 1) nm (κ.2.2.1 1) from (if_pos rfl).symm) rfl (decide_eq_true rfl).symm
theorem mk_issue {κ : CS} {X : XT} {cs : Nat → CT} (h : IV κ X) (hw : WV κ cs) (hk : κ.2.2.1 1 ≤ κ.2.2.1 0) (hd : κ.2.2.1 2 < 2147483648) {xc nm dy : Int32} (hc : (opIssue κ xc nm dy).1 = 0) : MV κ cs (opIssue κ xc nm dy).2.2 (enX (hlX X (κ.2.2.1 1) nm) (κ.2.2.1 0) (κ.2.2.1 1) (X.1 (xj xc))) := by
  unfold opIssue at hc ⊢
  by_cases hq : canI κ xc (nameB nm && isInB dy (nI 1) (nI 999)) = 0
  · rw [if_pos hq]
    obtain ⟨j, hj, rfl, hb, hau, hn4⟩ := canI_0 hq h.1.1
    rw [Bool.and_eq_true] at hb
    have hx : xj (nI j) = j := nI_clamp (by omega)
    rw [hx]
    have f6 := h.2.2.2.2.2.1
    have ht := h.2.1 j hj
    have hsb := h.1.sb hj
    exact MV_hl (nm := nm) (bn := κ.1 0 j) (bk := κ.1 1 j) (dy := dy) (ln := -1) (rt := false) h hw hk hd hn4 (nmI_of hb.1) (by omega)
      (NEW_mk (FRS_ky h.2.2.2.2.1) nm (nI (κ.2.2.1 1 + 1)) (κ.1 0 j) (κ.1 1 j) dy)
      (NW2_mk (κ := kyK κ) (FRS_ky h.2.2.2.2.1) f6 nm (nI (κ.2.2.1 1 + 1)) (κ.1 0 j) (κ.1 1 j) dy)
      (by rw [ht.2.1]; exact (show upd X.2.2.1 (κ.2.2.1 1) nm (X.1 j) = X.2.2.1 (X.1 j) from if_neg (by omega)).symm) ht.2.2.1 (decide_eq_false (by omega)).symm
  · rw [if_neg hq] at hc; exact absurd hc hq
theorem mk_issueA {κ : CS} {X : XT} {cs : Nat → CT} (h : IV κ X) (hw : WV κ cs) (hk : κ.2.2.1 1 ≤ κ.2.2.1 0) (hd : κ.2.2.1 2 < 2147483648) {xc nm dy ln : Int32} (hc : (opIssueA κ xc nm dy ln).1 = 0) : MV κ cs (opIssueA κ xc nm dy ln).2.2 (enX (hlX X (κ.2.2.1 1) nm) (κ.2.2.1 0) (κ.2.2.1 1) (X.1 (xj xc))) := by
  unfold opIssueA at hc ⊢
  by_cases hq : canI κ xc (nameB nm && (isInB dy (nI 1) (nI 999) && isInB ln (nI 0) (nI 5))) = 0
  · rw [if_pos hq]
    obtain ⟨j, hj, rfl, hb, hau, hn4⟩ := canI_0 hq h.1.1
    rw [Bool.and_eq_true, Bool.and_eq_true] at hb
    have hx : xj (nI j) = j := nI_clamp (by omega)
    rw [hx]
    have f6 := h.2.2.2.2.2.1
    have ht := h.2.1 j hj
    have hsb := h.1.sb hj
    exact MV_hl (nm := nm) (bn := κ.1 0 j) (bk := κ.1 1 j) (dy := dy) (ln := ln) (rt := false) h hw hk hd hn4 (nmI_of hb.1) (by omega)
      (NEW_au (NEW_mk (FRS_ky h.2.2.2.2.1) nm (nI (κ.2.2.1 1 + 1)) (κ.1 0 j) (κ.1 1 j) dy))
      (NW2_au (NW2_mk (κ := kyK κ) (FRS_ky h.2.2.2.2.1) f6 nm (nI (κ.2.2.1 1 + 1)) (κ.1 0 j) (κ.1 1 j) dy) (lnI hb.2.2))
      (by rw [ht.2.1]; exact (show upd X.2.2.1 (κ.2.2.1 1) nm (X.1 j) = X.2.2.1 (X.1 j) from if_neg (by omega)).symm) ht.2.2.1 (decide_eq_false (by omega)).symm
  · rw [if_neg hq] at hc; exact absurd hc hq
theorem mk_cross {κ : CS} {X : XT} {cs : Nat → CT} (h : IV κ X) (hw : WV κ cs) (hk : κ.2.2.1 1 ≤ κ.2.2.1 0) (hd : κ.2.2.1 2 < 2147483648) {xc xs dy ln : Int32} (hc : (opCross κ xc xs dy ln).1 = 0) : MV κ cs (opCross κ xc xs dy ln).2.2 (enX X (κ.2.2.1 0) (X.1 (xj xs)) (X.1 (xj xc))) := by
  unfold opCross at hc ⊢
  cases h1 : (inR (κ.2.2.1 0) xc && inR (κ.2.2.1 0) xs) with
  | false => rw [h1] at hc; cases hc
  | true =>
    cases h2 : (isInB dy (nI 1) (nI 999) && isInB ln (nI 0) (nI 5)) with
    | false => rw [h1, h2] at hc; cases hc
    | true =>
      rw [h1, h2] at hc
      cases h3 : (κ.2.1 0 (xj xc) && (κ.2.1 0 (xj xs) && (!decide (κ.1 1 (xj xc) = κ.1 1 (xj xs)) && (!decide (2 < cnt (wkB κ (κ.1 1 (xj xs))) (κ.2.2.1 0)) && !decide (κ.2.2.1 0 = 40))))) with
      | false => rw [h3] at hc; cases hc
      | true =>
        rw [Bool.and_eq_true] at h1 h2
        simp only [Bool.and_eq_true, Bool.not_eq_true', decide_eq_false_iff_not] at h3
        obtain ⟨hau, hai, hke, hw2, h40⟩ := h3
        have hn := h.1.1
        have hj := inR_lt h1.1
        have hi := inR_lt h1.2
        have tj := h.2.1 _ hj
        have ti := h.2.1 _ hi
        have hwk := wk_cnt h.2.1 h.1 h.2.2.1 hi
        have hne : ¬ X.1 (xj xs) = X.1 (xj xc) := fun q => hke (by rw [tj.2.2.1, ti.2.2.1, q])
        have hN := NEW_au (ln := ln) (NEW_mk h.2.2.2.2.1 (κ.1 0 (xj xs)) (κ.1 1 (xj xs)) (κ.1 0 (xj xc)) (κ.1 1 (xj xc)) dy)
        have hW := NW2_au (NW2_mk h.2.2.2.2.1 h.2.2.2.2.2.1 (κ.1 0 (xj xs)) (κ.1 1 (xj xs)) (κ.1 0 (xj xc)) (κ.1 1 (xj xc)) dy) (lnI h2.2)
        have hv := IV_new (h1 := X.1 (xj xs)) (h2 := X.1 (xj xc)) h (by omega) (h.1.sb hi) (h.1.sb hj) (by rw [← hwk.1]; omega) hN (by rw [← ti.2.1, ← tj.2.1, ← ti.2.2.1, ← tj.2.2.1, decide_eq_false hne]; exact hW) (by rw [← ti.2.1]; exact h.2.2.2.1.2.1 _ hi) hd
        have b0 := hN.1
        have b1 := hN.2.1
        have b2 : (auK (mkK κ (κ.1 0 (xj xs)) (κ.1 1 (xj xs)) (κ.1 0 (xj xc)) (κ.1 1 (xj xc)) dy) (κ.2.2.1 0) ln).2.2.1 1 ≤ (auK (mkK κ (κ.1 0 (xj xs)) (κ.1 1 (xj xs)) (κ.1 0 (xj xc)) (κ.1 1 (xj xc)) dy) (κ.2.2.1 0) ln).2.2.1 0 := by rw [b0, b1]; omega
        exact ⟨hv, WV_new hw hN.1 hW.2.2.2.2.2.2.2.2.1 hW.2.2.2.2.2.2.2.2.2, b2, hN.2.2.1⟩
/-! a call that throws leaves the state -/
theorem no_root {κ : CS} {nm dy ln : Int32} (h : (opMakeRoot κ nm dy ln).1 ≠ 0) : (opMakeRoot κ nm dy ln).2.2 = κ := by
  unfold opMakeRoot at h ⊢
  split
  · rename_i h1
    rw [if_pos h1] at h
    split
    · rfl
    · rename_i h2; rw [if_neg h2] at h; exact absurd rfl h
  · rfl
theorem no_issue {κ : CS} {xc nm dy : Int32} (h : (opIssue κ xc nm dy).1 ≠ 0) : (opIssue κ xc nm dy).2.2 = κ := by
  unfold opIssue at h ⊢
  split
  · rename_i h1; rw [if_pos h1] at h; exact absurd rfl h
  · rfl
theorem no_issueA {κ : CS} {xc nm dy ln : Int32} (h : (opIssueA κ xc nm dy ln).1 ≠ 0) : (opIssueA κ xc nm dy ln).2.2 = κ := by
  unfold opIssueA at h ⊢
  split
  · rename_i h1; rw [if_pos h1] at h; exact absurd rfl h
  · rfl
theorem no_cross {κ : CS} {xc xs dy ln : Int32} (h : (opCross κ xc xs dy ln).1 ≠ 0) : (opCross κ xc xs dy ln).2.2 = κ := by
  unfold opCross at h ⊢
  split
  · rename_i h1
    rw [if_pos h1] at h
    split
    · rename_i h2
      rw [if_pos h2] at h
      split
      · rename_i h3; rw [if_pos h3] at h; exact absurd rfl h
      · rfl
    · rfl
  · rfl
theorem no_setNames {κ : CS} {xc xp xe : Int32} (h : (opSetNames κ xc xp xe).1 ≠ 0) : (opSetNames κ xc xp xe).2.2 = κ := by
  unfold opSetNames at h ⊢
  split
  · rename_i h1
    rw [if_pos h1] at h
    split
    · rename_i h2
      rw [if_pos h2] at h
      split
      · rename_i h3; rw [if_pos h3] at h; exact absurd rfl h
      · rfl
    · rfl
  · rfl
theorem no_trust {κ : CS} {xc : Int32} {b : Bool} (h : (opTrust κ xc b).1 ≠ 0) : (opTrust κ xc b).2.2 = κ := by
  unfold opTrust at h ⊢
  split
  · rename_i h1
    rw [if_pos h1] at h
    split
    · rename_i h2; rw [if_pos h2] at h; exact absurd rfl h
    · rfl
  · rfl
theorem no_revoke {κ : CS} {xc : Int32} (h : (opRevoke κ xc).1 ≠ 0) : (opRevoke κ xc).2.2 = κ := by
  unfold opRevoke at h ⊢
  split
  · rename_i h1
    rw [if_pos h1] at h
    split
    · rfl
    · rename_i h2; rw [if_neg h2] at h; exact absurd rfl h
  · rfl
theorem no_publish {κ : CS} {xc : Int32} (h : (opPublish κ xc).1 ≠ 0) : (opPublish κ xc).2.2 = κ := by
  unfold opPublish at h ⊢
  split
  · rename_i h1
    rw [if_pos h1] at h
    split
    · rename_i h2; rw [if_pos h2] at h; exact absurd rfl h
    · rfl
  · rfl
theorem no_pass {κ : CS} {dy : Int32} (h : (opPass κ dy).1 ≠ 0) : (opPass κ dy).2.2 = κ := by
  unfold opPass at h ⊢
  split
  · rename_i h1; rw [if_pos h1] at h; exact absurd rfl h
  · rfl
theorem no_begin {κ : CS} {xc dy : Int32} (h : (opBegin κ xc dy).1 ≠ 0) : (opBegin κ xc dy).2.2 = κ := by
  unfold opBegin at h ⊢
  split
  · rename_i h1
    rw [if_pos h1] at h
    split
    · rename_i h2; rw [if_pos h2] at h; exact absurd rfl h
    · rfl
  · rfl
theorem no_step {κ : CS} {rk : Int32} (h : (opStep κ rk).1 ≠ 0) : (opStep κ rk).2.2 = κ := by
  rcases opStep_c (κ := κ) (rk := rk) with ⟨e, _⟩ | ⟨k, hk, h0, hr, e, _⟩
  · exact e
  · exfalso
    apply h
    cases hf : fstN (nthB κ (κ.2.2.2.1 (κ.2.2.1 3 - 1)) rk) (κ.2.2.1 0) with
    | none => rw [opStep_n h0 hf] at e; have := congrArg (fun z : CS => z.2.2.1 3) e; dsimp only at this; rw [upn_eq] at this; omega
    | some z => rw [opStep_k h0 hf]; split <;> rfl
