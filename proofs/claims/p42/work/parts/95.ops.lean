/-! each deed: what the class answers where the law foresees it, and the book behind it -/
section OPS
variable {N : Nat → Int32} {κ : CS}
/-- what holds between the law's deeds, beside the class's own invariant -/
def LAW (N : Nat → Int32) (κ : CS) : Prop := NT N κ ∧ 1 ≤ κ.2.2.1 0 ∧ κ.2.1 1 0 = true ∧ (∀ i, i < κ.2.2.1 0 → κ.2.1 2 i = true → κ.2.1 1 i = true) ∧ ∀ i, i < κ.2.2.1 0 → nameB (κ.1 0 i) = true
theorem n40 (hn : κ.2.2.1 0 ≤ 40) (h : κ.2.2.1 0 = 40) : decide (κ.2.2.1 0 = 40) = true := decide_eq_true h
theorem op_root_full {nm ds ln : Int32} (h1 : nameB nm = true) (h2 : isInB ds (nI 1) (nI 999) = true) (h3 : isInB ln (nI 0) (nI 5) = true) (h : κ.2.2.1 0 = 40) : opMakeRoot κ nm ds ln = (2, nI 0, κ) := by
  unfold opMakeRoot; rw [h1, h2, h3, decide_eq_true h]; rfl
theorem op_root_ok {nm ds ln : Int32} (h1 : nameB nm = true) (h2 : isInB ds (nI 1) (nI 999) = true) (h3 : isInB ln (nI 0) (nI 5) = true) (h : κ.2.2.1 0 ≠ 40) : opMakeRoot κ nm ds ln = (0, nI (κ.2.2.1 0), setB (auK (mkK (kyK κ) nm (nI (κ.2.2.1 1 + 1)) nm (nI (κ.2.2.1 1 + 1)) ds) (κ.2.2.1 0) ln) 1 (κ.2.2.1 0) true) := by
  unfold opMakeRoot; rw [h1, h2, h3, decide_eq_false h]; rfl
theorem can_eq {ci : Nat} (hc : ci < κ.2.2.1 0) (hn : κ.2.2.1 0 ≤ 40) : canI κ (nI ci) true = if κ.2.1 0 ci && decide (κ.2.2.1 0 < 40) then 0 else 3 := by
  unfold canI
  rw [inR_nI (by omega), decide_eq_true hc, show (nI ci).toNatClampNeg = ci from nI_clamp (by omega)]
  by_cases h : κ.2.2.1 0 = 40
  · rw [decide_eq_true h, decide_eq_false (show ¬ κ.2.2.1 0 < 40 by omega)]; rfl
  · rw [decide_eq_false h, decide_eq_true (show κ.2.2.1 0 < 40 by omega)]; rfl
theorem op_issueA_ok {ci : Nat} {nm ds ln : Int32} (hc : ci < κ.2.2.1 0) (hn : κ.2.2.1 0 ≤ 40) (h1 : nameB nm = true) (h2 : isInB ds (nI 1) (nI 999) = true) (h3 : isInB ln (nI 0) (nI 5) = true) (h : (κ.2.1 0 ci && decide (κ.2.2.1 0 < 40)) = true) : opIssueA κ (nI ci) nm ds ln = (0, nI (κ.2.2.1 0), auK (mkK (kyK κ) nm (nI (κ.2.2.1 1 + 1)) (κ.1 0 ci) (κ.1 1 ci) ds) (κ.2.2.1 0) ln) := by
  unfold opIssueA; rw [h1, h2, h3, show (true && (true && true)) = true from rfl, can_eq hc hn, if_pos h, show xj (nI ci) = ci from nI_clamp (by omega)]; rfl
theorem op_issueA_no {ci : Nat} {nm ds ln : Int32} (hc : ci < κ.2.2.1 0) (hn : κ.2.2.1 0 ≤ 40) (h1 : nameB nm = true) (h2 : isInB ds (nI 1) (nI 999) = true) (h3 : isInB ln (nI 0) (nI 5) = true) (h : (κ.2.1 0 ci && decide (κ.2.2.1 0 < 40)) = false) : opIssueA κ (nI ci) nm ds ln = (3, nI 0, κ) := by
  unfold opIssueA; rw [h1, h2, h3, show (true && (true && true)) = true from rfl, can_eq hc hn, h]; rfl
theorem op_issue_ok {ci : Nat} {nm ds : Int32} (hc : ci < κ.2.2.1 0) (hn : κ.2.2.1 0 ≤ 40) (h1 : nameB nm = true) (h2 : isInB ds (nI 1) (nI 999) = true) (h : (κ.2.1 0 ci && decide (κ.2.2.1 0 < 40)) = true) : opIssue κ (nI ci) nm ds = (0, nI (κ.2.2.1 0), mkK (kyK κ) nm (nI (κ.2.2.1 1 + 1)) (κ.1 0 ci) (κ.1 1 ci) ds) := by
  unfold opIssue; rw [h1, h2, show (true && true) = true from rfl, can_eq hc hn, if_pos h, show xj (nI ci) = ci from nI_clamp (by omega)]; rfl
theorem op_issue_no {ci : Nat} {nm ds : Int32} (hc : ci < κ.2.2.1 0) (hn : κ.2.2.1 0 ≤ 40) (h1 : nameB nm = true) (h2 : isInB ds (nI 1) (nI 999) = true) (h : (κ.2.1 0 ci && decide (κ.2.2.1 0 < 40)) = false) : opIssue κ (nI ci) nm ds = (3, nI 0, κ) := by
  unfold opIssue; rw [h1, h2, show (true && true) = true from rfl, can_eq hc hn, h]; rfl
def crB (κ : CS) (ci oi : Nat) : Bool := (κ.2.1 0 ci && decide (κ.2.2.1 0 < 40)) && (κ.2.1 0 oi && (!decide (κ.1 1 ci = κ.1 1 oi) && decide (cnt (wkB κ (κ.1 1 oi)) (κ.2.2.1 0) < 3)))
theorem cr_eq {ci oi : Nat} (hn : κ.2.2.1 0 ≤ 40) : (κ.2.1 0 ci && (κ.2.1 0 oi && (!decide (κ.1 1 ci = κ.1 1 oi) && (!decide (2 < cnt (wkB κ (κ.1 1 oi)) (κ.2.2.1 0)) && !decide (κ.2.2.1 0 = 40))))) = crB κ ci oi := by
  unfold crB
  have e1 : (!decide (2 < cnt (wkB κ (κ.1 1 oi)) (κ.2.2.1 0))) = decide (cnt (wkB κ (κ.1 1 oi)) (κ.2.2.1 0) < 3) := by
    by_cases q : 2 < cnt (wkB κ (κ.1 1 oi)) (κ.2.2.1 0)
    · rw [decide_eq_true q, decide_eq_false (by omega)]; rfl
    · rw [decide_eq_false q, decide_eq_true (by omega)]; rfl
  have e2 : (!decide (κ.2.2.1 0 = 40)) = decide (κ.2.2.1 0 < 40) := by
    by_cases q : κ.2.2.1 0 = 40
    · rw [decide_eq_true q, decide_eq_false (by omega)]; rfl
    · rw [decide_eq_false q, decide_eq_true (by omega)]; rfl
  rw [e1, e2]
  cases κ.2.1 0 ci <;> cases κ.2.1 0 oi <;> cases decide (κ.1 1 ci = κ.1 1 oi) <;> cases decide (cnt (wkB κ (κ.1 1 oi)) (κ.2.2.1 0) < 3) <;> cases decide (κ.2.2.1 0 < 40) <;> rfl
theorem op_cross_ok {ci oi : Nat} {ds ln : Int32} (hc : ci < κ.2.2.1 0) (ho : oi < κ.2.2.1 0) (hn : κ.2.2.1 0 ≤ 40) (h2 : isInB ds (nI 1) (nI 999) = true) (h3 : isInB ln (nI 0) (nI 5) = true) (h : crB κ ci oi = true) : opCross κ (nI ci) (nI oi) ds ln = (0, nI (κ.2.2.1 0), auK (mkK κ (κ.1 0 oi) (κ.1 1 oi) (κ.1 0 ci) (κ.1 1 ci) ds) (κ.2.2.1 0) ln) := by
  unfold opCross
  rw [inR_nI (by omega), inR_nI (by omega), decide_eq_true hc, decide_eq_true ho, h2, h3, show xj (nI ci) = ci from nI_clamp (by omega), show xj (nI oi) = oi from nI_clamp (by omega), cr_eq hn, h]; rfl
theorem op_cross_no {ci oi : Nat} {ds ln : Int32} (hc : ci < κ.2.2.1 0) (ho : oi < κ.2.2.1 0) (hn : κ.2.2.1 0 ≤ 40) (h2 : isInB ds (nI 1) (nI 999) = true) (h3 : isInB ln (nI 0) (nI 5) = true) (h : crB κ ci oi = false) : opCross κ (nI ci) (nI oi) ds ln = (3, nI 0, κ) := by
  unfold opCross
  rw [inR_nI (by omega), inR_nI (by omega), decide_eq_true hc, decide_eq_true ho, h2, h3, show xj (nI ci) = ci from nI_clamp (by omega), show xj (nI oi) = oi from nI_clamp (by omega), cr_eq hn, h]; rfl
theorem if0 {x : Nat} (h : x ≤ 9999) : (if decide (nI x = 0) then 0 else 1) = if x = 0 then 0 else 1 := by
  by_cases q : x = 0
  · subst q; rfl
  · rw [if_neg q, decide_eq_false (fun z => q ((nat_if_eq (by omega)).mp z))]; rfl
theorem op_set_ok {ci : Nat} {xp xe : Nat} (hp9 : xp ≤ 9999) (he9 : xe ≤ 9999) (hc : ci < κ.2.2.1 0) (hn : κ.2.2.1 0 ≤ 40) (h1 : nm0 (nI xp) = true) (h2 : nm0 (nI xe) = true) (h : (κ.2.1 0 ci && !anyN (issB κ (κ.1 1 ci)) (κ.2.2.1 0)) = true) : opSetNames κ (nI ci) (nI xp) (nI xe) = (0, nI ((if xp = 0 then 0 else 1) + (if xe = 0 then 0 else 1)), setI (setI κ 7 ci (nI xp)) 8 ci (nI xe)) := by
  unfold opSetNames
  rw [inR_nI (by omega), decide_eq_true hc, h1, h2, show xj (nI ci) = ci from nI_clamp (by omega), h, if0 hp9, if0 he9]; rfl
theorem op_set_no {ci : Nat} {xp xe : Int32} (hc : ci < κ.2.2.1 0) (hn : κ.2.2.1 0 ≤ 40) (h1 : nm0 xp = true) (h2 : nm0 xe = true) (h : (κ.2.1 0 ci && !anyN (issB κ (κ.1 1 ci)) (κ.2.2.1 0)) = false) : opSetNames κ (nI ci) xp xe = (3, nI 0, κ) := by
  unfold opSetNames
  rw [inR_nI (by omega), decide_eq_true hc, h1, h2, show xj (nI ci) = ci from nI_clamp (by omega), h]; rfl
theorem op_trust_ok {ci : Nat} {b : Bool} (hc : ci < κ.2.2.1 0) (hn : κ.2.2.1 0 ≤ 40) (h : κ.2.1 1 ci = true) : opTrust κ (nI ci) b = (0, nI (cnt (upB κ.2.1 2 ci b 2) (κ.2.2.1 0)), setB κ 2 ci b) := by
  unfold opTrust; rw [inR_nI (by omega), decide_eq_true hc, show xj (nI ci) = ci from nI_clamp (by omega), h]; rfl
theorem op_trust_no {ci : Nat} {b : Bool} (hc : ci < κ.2.2.1 0) (hn : κ.2.2.1 0 ≤ 40) (h : κ.2.1 1 ci = false) : opTrust κ (nI ci) b = (2, nI 0, κ) := by
  unfold opTrust; rw [inR_nI (by omega), decide_eq_true hc, show xj (nI ci) = ci from nI_clamp (by omega), h]; rfl
theorem op_revoke_ok {ci : Nat} (hc : ci < κ.2.2.1 0) (hn : κ.2.2.1 0 ≤ 40) (h : (κ.2.1 1 ci || κ.2.1 3 ci) = false) : opRevoke κ (nI ci) = (0, nI (cnt (pendF (κ.1 5) (κ.1 9) (upB κ.2.1 3 ci true 3) (κ.1 5 ci)) (κ.2.2.1 0)), setB κ 3 ci true) := by
  unfold opRevoke; rw [inR_nI (by omega), decide_eq_true hc, show xj (nI ci) = ci from nI_clamp (by omega), h]; rfl
theorem op_revoke_no {ci : Nat} (hc : ci < κ.2.2.1 0) (hn : κ.2.2.1 0 ≤ 40) (h : (κ.2.1 1 ci || κ.2.1 3 ci) = true) : opRevoke κ (nI ci) = (2, nI 0, κ) := by
  unfold opRevoke; rw [inR_nI (by omega), decide_eq_true hc, show xj (nI ci) = ci from nI_clamp (by omega), h]; rfl
theorem op_publish_ok {ci : Nat} (hc : ci < κ.2.2.1 0) (hn : κ.2.2.1 0 ≤ 40) (h : κ.2.1 0 ci = true) : opPublish κ (nI ci) = (0, nI (cnt (pendB κ (κ.1 1 ci)) (κ.2.2.1 0)), (pubI κ (κ.1 1 ci) (κ.2.2.1 0), κ.2)) := by
  unfold opPublish; rw [inR_nI (by omega), decide_eq_true hc, show xj (nI ci) = ci from nI_clamp (by omega), h]; rfl
theorem op_publish_no {ci : Nat} (hc : ci < κ.2.2.1 0) (hn : κ.2.2.1 0 ≤ 40) (h : κ.2.1 0 ci = false) : opPublish κ (nI ci) = (2, nI 0, κ) := by
  unfold opPublish; rw [inR_nI (by omega), decide_eq_true hc, show xj (nI ci) = ci from nI_clamp (by omega), h]; rfl
theorem op_pass_ok {j : Nat} (h1 : 1 ≤ j) (h2 : j ≤ 999) : opPass κ (nI j) = (0, nI (κ.2.2.1 2 + j), setN κ 2 (κ.2.2.1 2 + j)) := by
  unfold opPass; rw [isInB_nI (by omega) (by decide) (by decide), decide_eq_true ⟨h1, h2⟩, show xj (nI j) = j from nI_clamp (by omega)]; rfl
theorem can_lt {b : Bool} {n : Nat} (h : (b && decide (n < 40)) = true) : n < 40 := by rw [Bool.and_eq_true] at h; exact of_decide_eq_true h.2
theorem FR0 (h : LAW N κ) (hn4 : κ.2.2.1 0 < 40) : ∀ f, f < 14 → N (10 + 14 * κ.2.2.1 0 + f) = nI 0 := fun f hf => h.1.fr (Nat.le_refl _) hn4 hf
end OPS
