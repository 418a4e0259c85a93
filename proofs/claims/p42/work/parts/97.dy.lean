/-! how far a deed lets the day go; the law's state -/
section DY
variable {κ : CS} {X : XT} {cs : Nat → CT}
theorem dy_root (h : IV κ X) (hw : WV κ cs) (hk : κ.2.2.1 1 ≤ κ.2.2.1 0) (hd : κ.2.2.1 2 + 999 < 2147483648) {nm dy ln : Int32} : (opMakeRoot κ nm dy ln).2.2.2.2.1 2 ≤ κ.2.2.1 2 + 999 := by
  by_cases q : (opMakeRoot κ nm dy ln).1 = 0
  · obtain ⟨_, _, _, e⟩ := mk_root h hw hk (by omega) q; omega
  · rw [no_root q]; omega
theorem dy_issue (h : IV κ X) (hw : WV κ cs) (hk : κ.2.2.1 1 ≤ κ.2.2.1 0) (hd : κ.2.2.1 2 + 999 < 2147483648) {xc nm dy : Int32} : (opIssue κ xc nm dy).2.2.2.2.1 2 ≤ κ.2.2.1 2 + 999 := by
  by_cases q : (opIssue κ xc nm dy).1 = 0
  · obtain ⟨_, _, _, e⟩ := mk_issue h hw hk (by omega) q; omega
  · rw [no_issue q]; omega
theorem dy_issueA (h : IV κ X) (hw : WV κ cs) (hk : κ.2.2.1 1 ≤ κ.2.2.1 0) (hd : κ.2.2.1 2 + 999 < 2147483648) {xc nm dy ln : Int32} : (opIssueA κ xc nm dy ln).2.2.2.2.1 2 ≤ κ.2.2.1 2 + 999 := by
  by_cases q : (opIssueA κ xc nm dy ln).1 = 0
  · obtain ⟨_, _, _, e⟩ := mk_issueA h hw hk (by omega) q; omega
  · rw [no_issueA q]; omega
theorem dy_cross (h : IV κ X) (hw : WV κ cs) (hk : κ.2.2.1 1 ≤ κ.2.2.1 0) (hd : κ.2.2.1 2 + 999 < 2147483648) {xc xs dy ln : Int32} : (opCross κ xc xs dy ln).2.2.2.2.1 2 ≤ κ.2.2.1 2 + 999 := by
  by_cases q : (opCross κ xc xs dy ln).1 = 0
  · obtain ⟨_, _, _, e⟩ := mk_cross h hw hk (by omega) q; omega
  · rw [no_cross q]; omega
end DY
section DY2
variable {κ : CS}
theorem dy_setNames {xc xp xe : Int32} : (opSetNames κ xc xp xe).2.2.2.2.1 2 ≤ κ.2.2.1 2 + 999 := by rw [op_same.1 xc xp xe]; omega
theorem dy_trust {xc : Int32} {b : Bool} : (opTrust κ xc b).2.2.2.2.1 2 ≤ κ.2.2.1 2 + 999 := by rw [op_same.2.1 xc b]; omega
theorem dy_revoke {xc : Int32} : (opRevoke κ xc).2.2.2.2.1 2 ≤ κ.2.2.1 2 + 999 := by rw [op_same.2.2 xc]; omega
theorem dy_publish {xc : Int32} : (opPublish κ xc).2.2.2.2.1 2 ≤ κ.2.2.1 2 + 999 := by rw [publish_same xc]; omega
theorem dy_begin (hn : κ.2.2.1 0 ≤ 40) {xc dy : Int32} : (opBegin κ xc dy).2.2.2.2.1 2 ≤ κ.2.2.1 2 + 999 := by
  rcases opBegin_c (κ := κ) (xc := xc) (dy := dy) hn with ⟨e, _⟩ | ⟨j, hj, e, _⟩
  · rw [e]; omega
  · rw [e]; exact Nat.le_add_right _ _
theorem dy_step {rk : Int32} : (opStep κ rk).2.2.2.2.1 2 ≤ κ.2.2.1 2 + 999 := by
  rcases opStep_c (κ := κ) (rk := rk) with ⟨e, _⟩ | ⟨k, _, _, _, e, _⟩
  · rw [e]; omega
  · rw [e]; exact Nat.le_add_right _ _
end DY2
abbrev LT : Type := (Nat → Int32) × CS × UT
abbrev wL (g : Nat → ClassId) (an : Nat) (u : LT) : va_W := iA g an 700 u.1 :: wT g u.2.1 u.2.2
abbrev LI (u : LT) : Prop := INV u.2.1 u.2.2.2.1 u.2.2.2.2.1 ∧ LAW u.1 u.2.1
theorem ds_ok {x : Nat} (h : x < 40) : isInB (nI (8 + x)) (nI 1) (nI 999) = true := by rw [isInB_nI (by omega) (by decide) (by decide)]; exact decide_eq_true ⟨by omega, by omega⟩
theorem ln_ok {x : Nat} (h : x < 4) : isInB (nI x) (nI 0) (nI 5) = true := by rw [isInB_nI (by omega) (by decide) (by decide)]; exact decide_eq_true ⟨by omega, by omega⟩
theorem nm0_i {x : Nat} (h : nameB (nI x) = true) : nm0 (nI x) = true := by unfold nm0; rw [h]; simp
theorem nm0_0 : nm0 (nI 0) = true := by unfold nm0; rw [decide_eq_true (show nI 0 = 0 from rfl)]; rfl
theorem nz_more : ∀ f j, j < 10 ^ f → nz (f + 1) j = nz f j
  | 0, j, h => by rw [show j = 0 from by simp at h; exact h, nz_0, nz_0]
  | f + 1, j, h => by
    by_cases q : j = 0
    · rw [q, nz_0, nz_0]
    · have h0 : 0 < j := Nat.pos_of_ne_zero q
      have h2 : j < 10 ^ (f + 1 + 1) := Nat.lt_of_lt_of_le h (Nat.pow_le_pow_right (by decide) (by omega))
      rw [(nz_s h0 h2).1, (nz_s h0 h).1]
      have h3 := (nz_s h0 h).2
      rw [show f + 1 + 1 - 1 = f + 1 from rfl, show f + 1 - 1 = f from rfl] at *
      rw [nz_more f (j / 10) h3]
theorem nm_cut {x : Nat} (h : nameB (nI x) = true) (h2 : x ≤ 9999) (h9 : 9 < x) : nameB (nI (x / 10)) = true := by
  rw [nameB_nI (by omega), Bool.and_eq_true] at h
  have h3 := (nz_s (f := 10) (show 0 < x by omega) (by show x < 10000000000; omega)).1
  rw [h.2] at h3
  have h4 := h3.symm
  rw [Bool.and_eq_true] at h4
  rw [nameB_nI (by omega), isInB_nI (by omega) (by decide) (by decide), decide_eq_true (show 1 ≤ x / 10 ∧ x / 10 ≤ 9999 by omega), nz_more 9 (x / 10) (by show x / 10 < 1000000000; omega)]
  exact h4.2
theorem wkB_cnt {N : Nat → Int32} {κ : CS} (h : NT N κ) (v : Int32) : cnt (mnB N 1 v) (κ.2.2.1 0) = cnt (wkB κ v) (κ.2.2.1 0) := cnt_congr fun c hc => by unfold mnB wkB; rw [h.c1 hc]
theorem tr_cnt {N : Nat → Int32} {κ : CS} (h : NT N κ) : cnt (mnB N 12 (nI 1)) (κ.2.2.1 0) = cnt (κ.2.1 2) (κ.2.2.1 0) := cnt_congr fun c hc => by
  unfold mnB; rw [h.c12 hc]
  cases κ.2.1 2 c <;> rfl
theorem cr_lt {κ : CS} {ci oi : Nat} (h : crB κ ci oi = true) : κ.2.2.1 0 < 40 := by unfold crB at h; rw [Bool.and_eq_true] at h; exact can_lt h.1
theorem crB_can {κ : CS} {ci oi : Nat} {can : Bool} (h : can = (κ.2.1 0 ci && decide (κ.2.2.1 0 < 40))) : crB κ ci oi = (can && (κ.2.1 0 oi && (!decide (κ.1 1 ci = κ.1 1 oi) && decide (cnt (wkB κ (κ.1 1 oi)) (κ.2.2.1 0) < 3)))) := by rw [h]; rfl
