/-! how far a deed lets the day go; the law's state -/
section DY
variable {κ : CS} {X : XT} {cs : Nat → CT}
theorem dy_root (h : IV κ X) (hw : WV κ cs) (hk : κ.2.2.1 1 ≤ κ.2.2.1 0) (hd : κ.2.2.1 2 + 999 < 2147483648) {nm dy ln : Int32} : (opMakeRoot κ nm dy ln).2.2.2.2.1 2 ≤ κ.2.2.1 2 + 999 := by
  by_cases q : (opMakeRoot κ nm dy ln).1 = 0
  · obtain ⟨_, _, _, e⟩ := mk_root h hw hk (by omega) q; omega
  · rw [no_root q]; omega
theorem dy_issue (h : IV κ X) (hw : WV κ cs) (hk : κ.2.2.1 1 ≤ κ.2.2.1 0) (hd : κ.2.2.1 2 + 999 < 2147483648) {xc nm dy : Int32} : (opIssue κ xc nm dy).2.2.2.2.1 2 ≤ κ.2.2.1 2 + 999 := by
  by_cases q : (opIssue κ xc nm dy).1 = 0
  · obtain ⟨_, _, _, e⟩ := mk_issue h hw hk (by omega) q; omega
  · rw [no_issue q]; omega
theorem dy_issueA (h : IV κ X) (hw : WV κ cs) (hk : κ.2.2.1 1 ≤ κ.2.2.1 0) (hd : κ.2.2.1 2 + 999 < 2147483648) {xc nm dy ln : Int32} : (opIssueA κ xc nm dy ln).2.2.2.2.1 2 ≤ κ.2.2.1 2 + 999 := by
  by_cases q : (opIssueA κ xc nm dy ln).1 = 0
  · obtain ⟨_, _, _, e⟩ := mk_issueA h hw hk (by omega) q; omega
  · rw [no_issueA q]; omega
theorem dy_cross (h : IV κ X) (hw : WV κ cs) (hk : κ.2.2.1 1 ≤ κ.2.2.1 0) (hd : κ.2.2.1 2 + 999 < 2147483648) {xc xs dy ln : Int32} : (opCross κ xc xs dy ln).2.2.2.2.1 2 ≤ κ.2.2.1 2 + 999 := by
  by_cases q : (opCross κ xc xs dy ln).1 = 0
  · obtain ⟨_, _, _, e⟩ := mk_cross h hw hk (by omega) q; omega
  · rw [no_cross q]; omega
end DY
section DY2
variable {κ : CS}
theorem dy_setNames {xc xp xe : Int32} : (opSetNames κ xc xp xe).2.2.2.2.1 2 ≤ κ.2.2.1 2 + 999 := by rw [op_same.1 xc xp xe]; omega
theorem dy_trust {xc : Int32} {b : Bool} : (opTrust κ xc b).2.2.2.2.1 2 ≤ κ.2.2.1 2 + 999 := by rw [op_same.2.1 xc b]; omega
theorem dy_revoke {xc : Int32} : (opRevoke κ xc).2.2.2.2.1 2 ≤ κ.2.2.1 2 + 999 := by rw [op_same.2.2 xc]; omega
theorem dy_publish {xc : Int32} : (opPublish κ xc).2.2.2.2.1 2 ≤ κ.2.2.1 2 + 999 := by rw [publish_same xc]; omega
theorem dy_begin (hn : κ.2.2.1 0 ≤ 40) {xc dy : Int32} : (opBegin κ xc dy).2.2.2.2.1 2 ≤ κ.2.2.1 2 + 999 := by
  rcases opBegin_c (κ := κ) (xc := xc) (dy := dy) hn with ⟨e, _⟩ | ⟨j, hj, e, _⟩
  · rw [e]; omega
  · rw [e]; exact Nat.le_add_right _ _
theorem dy_step {rk : Int32} : (opStep κ rk).2.2.2.2.1 2 ≤ κ.2.2.1 2 + 999 := by
  rcases opStep_c (κ := κ) (rk := rk) with ⟨e, _⟩ | ⟨k, _, _, _, e, _⟩
  · rw [e]; omega
  · rw [e]; exact Nat.le_add_right _ _
end DY2
abbrev LT : Type := (Nat → Int32) × CS × UT
abbrev wL (g : Nat → ClassId) (an : Nat) (u : LT) : va_W := iA g an 700 u.1 :: wT g u.2.1 u.2.2
abbrev LI (u : LT) : Prop := INV u.2.1 u.2.2.2.1 u.2.2.2.2.1 ∧ LAW u.1 u.2.1
theorem ds_ok {x : Nat} (h : x < 40) : isInB (nI (8 + x)) (nI 1) (nI 999) = true := by rw [isInB_nI (by omega) (by decide) (by decide)]; exact decide_eq_true ⟨by omega, by omega⟩
theorem ln_ok {x : Nat} (h : x < 4) : isInB (nI x) (nI 0) (nI 5) = true := by rw [isInB_nI (by omega) (by decide) (by decide)]; exact decide_eq_true ⟨by omega, by omega⟩
theorem nm0_i {x : Nat} (h : nameB (nI x) = true) : nm0 (nI x) = true := by unfold nm0; rw [h]; simp
theorem nm0_0 : nm0 (nI 0) = true := by unfold nm0; rw [decide_eq_true (show nI 0 = 0 from rfl)]; rfl
theorem nz_more : ∀ f j, j < 10 ^ f → nz (f + 1) j = nz f j
  | 0, j, h => by rw [show j = 0 from by simp at h; exact h, nz_0, nz_0]
  | f + 1, j, h => by
    by_cases q : j = 0
    · rw [q, nz_0, nz_0]
    · have h0 : 0 < j := Nat.pos_of_ne_zero q
      have h2 : j < 10 ^ (f + 1 + 1) := Nat.lt_of_lt_of_le h (Nat.pow_le_pow_right (by decide) (by omega))
      rw [(nz_s h0 h2).1, (nz_s h0 h).1]
      have h3 := (nz_s h0 h).2
      rw [show f + 1 + 1 - 1 = f + 1 from rfl, show f + 1 - 1 = f from rfl] at *
      rw [nz_more f (j / 10) h3]
theorem nm_cut {x : Nat} (h : nameB (nI x) = true) (h2 : x ≤ 9999) (h9 : 9 < x) : nameB (nI (x / 10)) = true := by
  rw [nameB_nI (by omega), Bool.and_eq_true] at h
  have h3 := (nz_s (f := 10) (show 0 < x by omega) (by show x < 10000000000; omega)).1
  rw [h.2] at h3
  have h4 := h3.symm
  rw [Bool.and_eq_true] at h4
  rw [nameB_nI (by omega), isInB_nI (by omega) (by decide) (by decide), decide_eq_true (show 1 ≤ x / 10 ∧ x / 10 ≤ 9999 by omega), nz_more 9 (x / 10) (by show x / 10 < 1000000000; omega)]
  exact h4.2
theorem wkB_cnt {N : Nat → Int32} {κ : CS} (h : NT N κ) (v : Int32) : cnt (mnB N 1 v) (κ.2.2.1 0) = cnt (wkB κ v) (κ.2.2.1 0) := cnt_congr fun c hc => by unfold mnB wkB; rw [h.c1 hc]
theorem tr_cnt {N : Nat → Int32} {κ : CS} (h : NT N κ) : cnt (mnB N 12 (nI 1)) (κ.2.2.1 0) = cnt (κ.2.1 2) (κ.2.2.1 0) := cnt_congr fun c hc => by
  unfold mnB; rw [h.c12 hc]
  cases κ.2.1 2 c <;> rfl
theorem cr_lt {κ : CS} {ci oi : Nat} (h : crB κ ci oi = true) : κ.2.2.1 0 < 40 := by unfold crB at h; rw [Bool.and_eq_true] at h; exact can_lt h.1
theorem crB_can {κ : CS} {ci oi : Nat} {can : Bool} (h : can = (κ.2.1 0 ci && decide (κ.2.2.1 0 < 40))) : crB κ ci oi = (can && (κ.2.1 0 oi && (!decide (κ.1 1 ci = κ.1 1 oi) && decide (cnt (wkB κ (κ.1 1 oi)) (κ.2.2.1 0) < 3)))) := by rw [h]; rfl
theorem pub_any {N : Nat → Int32} {κ : CS} {ky : Int32} {j : Nat} (h : cnt (pendB κ ky) (κ.2.2.1 0) = 0) (hL : LAW N (pubI κ ky j, κ.2)) : LAW N (pubI κ ky (κ.2.2.1 0), κ.2) := by
  have hp : ∀ c, c < κ.2.2.1 0 → pendB κ ky c = false := fun c hc => by
    cases q : pendB κ ky c with
    | false => rfl
    | true => have := cnt_lt q (κ.2.2.1 0) hc; omega
  have e : ∀ c, c < κ.2.2.1 0 → ∀ g, pubI κ ky (κ.2.2.1 0) g c = pubI κ ky j g c := fun c hc g => by
    by_cases q : g = 9
    · subst q
      rw [pub_9 _ _ hc, hp c hc]
      by_cases z : c < j
      · rw [pub_9 _ _ z, hp c hc]
      · rw [pubI_ge κ ky j c (by omega)]; rfl
    · rw [pubI_ne κ ky g q, pubI_ne κ ky g q]
  refine ⟨NT_ext hL.1 rfl (fun c hc f hf => ?_), hL.2.1, hL.2.2.1, hL.2.2.2.1, fun i hi => by show nameB (pubI κ ky (κ.2.2.1 0) 0 i) = true; rw [e i hi 0]; exact hL.2.2.2.2 i hi⟩
  match f, hf with
  | 0, _ => exact e c hc 0
  | 1, _ => exact e c hc 1
  | 2, _ => exact e c hc 4
  | 3, _ => exact e c hc 5
  | 4, _ => exact e c hc 2
  | 5, _ => exact e c hc 3
  | 6, _ => rfl
  | 7, _ => exact congrArg (fun z => if κ.2.1 0 c then z else (-1 : Int32)) (e c hc 6)
  | 8, _ => exact e c hc 7
  | 9, _ => exact e c hc 8
  | 10, _ => exact e c hc 9
  | 11, _ => rfl
  | 12, _ => rfl
  | 13, _ => rfl
theorem wr_0 {κ : CS} {ci : Nat} {on : Int32} (hc : ci < κ.2.2.1 0) (hn : κ.2.2.1 0 ≤ 40) (ho : ¬ on < 0) : wrongC κ (nI ci) on = 0 := by
  unfold wrongC; rw [inR_nI (by omega), decide_eq_true hc, decide_eq_false ho]; rfl
theorem op_begin_neg {κ : CS} {ci : Nat} {on : Int32} (hc : ci < κ.2.2.1 0) (hn : κ.2.2.1 0 ≤ 40) (ho : on < 0) : opBegin κ (nI ci) on = (2, nI 0, κ) := by
  unfold opBegin wrongC; rw [inR_nI (by omega), decide_eq_true hc, decide_eq_true ho]; rfl
theorem op_begin_t {κ : CS} {ci : Nat} {on : Int32} (hc : ci < κ.2.2.1 0) (hn : κ.2.2.1 0 ≤ 40) (ho : ¬ on < 0) (h : validB κ ci on = false) : opBegin κ (nI ci) on = (0, nI 116, κ) := by
  unfold opBegin beginB; rw [wr_0 hc hn ho, show xj (nI ci) = ci from nI_clamp (by omega), h]; rfl
theorem op_begin_r {κ : CS} {ci : Nat} {on : Int32} (hc : ci < κ.2.2.1 0) (hn : κ.2.2.1 0 ≤ 40) (ho : ¬ on < 0) (h : validB κ ci on = true) (h2 : offB κ ci on = true) : opBegin κ (nI ci) on = (0, nI 114, κ) := by
  unfold opBegin beginB; rw [wr_0 hc hn ho, show xj (nI ci) = ci from nI_clamp (by omega), h, h2]; rfl
theorem op_begin_o {κ : CS} {ci : Nat} {on : Int32} (hc : ci < κ.2.2.1 0) (hn : κ.2.2.1 0 ≤ 40) (ho : ¬ on < 0) (h : validB κ ci on = true) (h2 : offB κ ci on = false) : opBegin κ (nI ci) on = (0, nI 111, (κ.1, κ.2.1, upn κ.2.2.1 3 1, upn κ.2.2.2.1 0 ci, on)) := by
  unfold opBegin beginB; rw [wr_0 hc hn ho, show xj (nI ci) = ci from nI_clamp (by omega), h, h2]; rfl
theorem on_cases {a : Nat} (ha : a < 2147483648) : (2 ≤ a ∧ nI a - nI 2 = nI (a - 2)) ∨ nI a - nI 2 < 0 := by
  by_cases h : 2 ≤ a
  · exact Or.inl ⟨h, pk_sub h⟩
  · right
    match a, h with
    | 0, _ => decide
    | 1, _ => decide
    | a + 2, h => omega
theorem op_step_t {κ : CS} {rk : Int32} {k : Nat} (h0 : κ.2.2.1 3 ≠ 0) (h : fstN (nthB κ (κ.2.2.2.1 (κ.2.2.1 3 - 1)) rk) (κ.2.2.1 0) = some k) (hr : refC κ κ.2.2.2.1 (κ.2.2.1 3) k κ.2.2.2.2 = 111) : opStep κ rk = (0, nI 111, (κ.1, κ.2.1, upn κ.2.2.1 3 (κ.2.2.1 3 + 1), upn κ.2.2.2.1 (κ.2.2.1 3) k, κ.2.2.2.2)) := by
  rw [opStep_k h0 h, decide_eq_true hr]; rfl
theorem op_step_f {κ : CS} {rk : Int32} {k : Nat} (h0 : κ.2.2.1 3 ≠ 0) (h : fstN (nthB κ (κ.2.2.2.1 (κ.2.2.1 3 - 1)) rk) (κ.2.2.1 0) = some k) (hr : ¬ refC κ κ.2.2.2.1 (κ.2.2.1 3) k κ.2.2.2.2 = 111) : opStep κ rk = (0, nI (refC κ κ.2.2.2.1 (κ.2.2.1 3) k κ.2.2.2.2), κ) := by
  rw [opStep_k h0 h, decide_eq_false hr]; rfl
theorem adI_0 (v : Int32) : adI 0 v = v := rfl
theorem op_pass_s {κ : CS} {j s9 : Nat} (h1 : 1 ≤ j) (h2 : j ≤ 999) (hs : κ.2.2.1 2 + j = s9) : opPass κ (nI j) = (0, nI s9, setN κ 2 s9) := by subst hs; exact op_pass_ok h1 h2
theorem on_case2 {a : Nat} (ha : a < 2147483648) : (∃ o9 : Nat, o9 ≤ a ∧ nI a - nI 2 = nI o9) ∨ nI a - nI 2 < 0 := (on_cases ha).imp (fun h => ⟨a - 2, by omega, h.2⟩) id
theorem on_case3 {a : Nat} (ha : a < 2147483648) : (∃ o9 : Nat, o9 ≤ a ∧ nI a - nI 2 = nI o9) ∨ ∃ on : Int32, on < 0 ∧ nI a - nI 2 = on := (on_case2 ha).imp id (fun h => ⟨_, h, rfl⟩)
abbrev LPo (ad : Nat → Nat → Nat) (κ : CS) : Int32 → LT → Prop := fun r u => r = nI 1 ∧ u.2.2.1 0 = ad 0 ∧ LI u ∧ u.2.1.2.2.1 2 ≤ κ.2.2.1 2 + 999
/-- the end of a deed -/
theorem J_end {p : Program} {l : Launch} {e : Env} {R : Room} {s : State} {m : MethodId} {args : Array Value} {below : List Frame} {meth : Method} {c : Code} {own : String} {cc : ByteArray} {ret : Option FieldType} {nL : Nat} {D : va_G} {g : Nat → ClassId} {A : Nat → Prop} {an : Nat} {ad : Nat → Nat → Nat} {κ : CS} {cells slots mc ms pc : Nat} {L : List (Nat × Value)} {N1 : Nat → Int32} {K1 : CS} {u1 : UT}
    (cx : CX p l s m args meth c own cc ret nL D g A) (hr : ret = some .boolean) (h1 : u1.1 0 = ad 0) (h2 : INV K1 u1.2.1 u1.2.2.1) (h3 : LAW N1 K1) (h4 : K1.2.2.1 2 ≤ κ.2.2.1 2 + 999) (hc : cells ≤ mc) (hs : slots ≤ ms) (d : decode cc pc = .ok (.ireturn, 1)) :
    J p l e R s m args below meth c D A nL (MQ below (va_Qi (LPo ad κ) (fun u => PO D A (wL g an u)) A) args s mc ms A) cells slots (iA g an 700 N1 :: wT g K1 u1) L pc [.int (nI 1)] :=
  J_zret (S := LT) (post := LPo ad κ) (W' := fun u => wL g an u) cx hr (u := (N1, K1, u1)) rfl ⟨rfl, h1, ⟨h2, h3⟩, h4⟩ rfl hc hs d
