/-! what holds between the calls: the class's rows and the mathematical state -/
def LSI (κ : CS) (X : XT) : Prop := ∀ i, i < 40 → ∀ d, anyN (tlB X i d) X.2.2.2.2.2.1 = (decide (i < κ.2.2.1 0) && offB κ i d)
def IV (κ : CS) (X : XT) : Prop := ShX κ X ∧ TIE κ X ∧ HLD κ X ∧ InvM κ ∧ FRS κ ∧ (∀ i, κ.2.2.1 0 ≤ i → κ.1 6 i = nI 0) ∧ LSI κ X ∧ X.2.2.2.2.2.1 + cnt (fun k => decide (κ.1 9 k < 0)) (κ.2.2.1 0) ≤ κ.2.2.1 0 ∧ (∀ i, i < κ.2.2.1 0 → X.2.2.2.2.2.2.2.2 i = ent κ i) ∧ (∀ i, i < κ.2.2.1 0 → κ.1 9 i ≤ nI (κ.2.2.1 2))
def WV (κ : CS) (cs : Nat → CT) : Prop := WLK κ (cs 0) ∧ ShC κ (cs 1) ∧ ShC κ (cs 2)
theorem IV.hHe {κ : CS} {X : XT} (h : IV κ X) : ∀ h, h < κ.2.2.1 1 → ∀ r k, X.2.2.2.2.1 h r = some k → k < κ.2.2.1 0 := by
  intro j hj r k hk
  obtain ⟨a, _, _, _, h4, h5⟩ := h.2.2.1 j hj
  by_cases hr : r < a
  · obtain ⟨k2, k3, k4, _⟩ := h5 r hr
    rw [k3] at hk; cases hk; exact k4
  · rw [h4 r (by omega)] at hk; cases hk
theorem IV.hle {κ : CS} {X : XT} (h : IV κ X) : X.2.2.2.2.2.1 + cnt (fun k => decide (κ.1 9 k < 0)) (κ.2.2.1 0) ≤ 40 := by
  have := h.2.2.2.2.2.2.2.1; have := h.1.1; omega
theorem IV.hLs {κ : CS} {X : XT} (h : IV κ X) : ∀ i, i < κ.2.2.1 0 → ∀ d, anyN (tlB X i d) X.2.2.2.2.2.1 = offB κ i d := by
  intro i hi d
  have hn := h.1.1
  rw [h.2.2.2.2.2.2.1 i (by omega) d, decide_eq_true hi]; rfl
theorem WV.hCq {κ : CS} {cs : Nat → CT} (h : WV κ cs) : ∀ j, j < 3 → ShC κ (cs j) := fun j hj => match j, hj with
  | 0, _ => h.1.1
  | 1, _ => h.2.1
  | 2, _ => h.2.2
theorem IV_0 : IV kap0 X00 := by
  refine ⟨⟨Nat.zero_le _, Nat.zero_le _, fun i hi => absurd hi (Nat.not_lt_zero i), fun h hh => absurd hh (Nat.not_lt_zero h), fun i hi => absurd hi (Nat.not_lt_zero i), fun i hi => absurd hi (Nat.not_lt_zero i)⟩, fun i hi => absurd hi (Nat.not_lt_zero i), fun h hh => absurd hh (Nat.not_lt_zero h), ⟨Nat.zero_le _, fun i hi => absurd hi (Nat.not_lt_zero i), fun i hi => absurd hi (Nat.not_lt_zero i), fun i hi => absurd hi (Nat.not_lt_zero i), fun i hi => absurd hi (Nat.not_lt_zero i), Nat.zero_le _, fun i hi => absurd hi (Nat.not_lt_zero i)⟩, fun i _ => ⟨rfl, rfl, fun _ => rfl⟩, fun i _ => rfl, fun i _ d => ?_, Nat.le_refl _, fun i hi => absurd hi (Nat.not_lt_zero i), fun i hi => absurd hi (Nat.not_lt_zero i)⟩
  show false = (decide (i < 0) && _)
  rw [decide_eq_false (Nat.not_lt_zero i)]; rfl
theorem ShC_00 {κ : CS} : ShC κ (fun _ => none, 0, nI 0) := ⟨Nat.zero_le _, ⟨fun r _ k hk => (by cases hk), fun r hr => absurd hr (Nat.not_lt_zero r)⟩⟩
theorem WV_0 : WV kap0 cs00 := ⟨⟨ShC_00, rfl, rfl, fun r hr => absurd hr (Nat.not_lt_zero r)⟩, ShC_00, ShC_00⟩
theorem ent_congr {κ κ' : CS} {i : Nat} (h0 : κ'.1 0 i = κ.1 0 i) (h1 : κ'.1 1 i = κ.1 1 i) (h5 : κ'.1 5 i = κ.1 5 i) : ent κ' i = ent κ i := by unfold ent; rw [h0, h1, h5]
theorem offB_congr {κ κ' : CS} {i : Nat} {d : Int32} (h : κ'.1 9 i = κ.1 9 i) : offB κ' i d = offB κ i d := by unfold offB; rw [h]
/-- a state that differs in what certificates permit and exclude, and in what is trusted or marked -/
theorem IV_cong {κ κ' : CS} {X : XT} (h : IV κ X) (hN : κ'.2.2 = κ.2.2) (hI : ∀ f, f ≠ 7 → f ≠ 8 → ∀ i, κ'.1 f i = κ.1 f i) (hB : ∀ i, κ'.2.1 1 i = κ.2.1 1 i) (h7 : ∀ i, i < κ.2.2.1 0 → κ'.1 7 i = 0 ∨ nmI (κ'.1 7 i)) (h8 : ∀ i, i < κ.2.2.1 0 → κ'.1 8 i = 0 ∨ nmI (κ'.1 8 i)) (hF : FRS κ') : IV κ' X := by
  obtain ⟨⟨s1, s2, s3, s4, s5, s6⟩, t, hl, ⟨m1, m2, m3, m4, m5, m6, m7⟩, _, f6, ls, lz, en, ef⟩ := h
  have i0 := hI 0 (by decide) (by decide); have i1 := hI 1 (by decide) (by decide); have i4 := hI 4 (by decide) (by decide); have i5 := hI 5 (by decide) (by decide); have i6 := hI 6 (by decide) (by decide); have i9 := hI 9 (by decide) (by decide)
  refine ⟨⟨by rw [hN]; exact s1, by rw [hN]; exact s2, by rw [hN]; exact s3, by rw [hN]; exact s4, by rw [hN]; intro i hi; rw [i0]; exact s5 i hi, by rw [hN]; intro i hi; rw [i9]; exact s6 i hi⟩, ?_, ?_, ⟨by rw [hN]; exact m1, by rw [hN]; intro i hi; rw [i0]; exact m2 i hi, by rw [hN]; exact h7, by rw [hN]; exact h8, by rw [hN]; intro i hi; rw [i6]; exact m5 i hi, by rw [hN]; exact m6, by rw [hN]; exact m7⟩, hF, by rw [hN]; intro i hi; rw [i6]; exact f6 i hi, ?_, ?_, ?_, ?_⟩
  · intro i hi
    rw [hN] at hi
    rw [hB, i0, i1, i4, i5]; exact t i hi
  · unfold HLD; rw [hN]; exact hl
  · intro i hi d
    rw [hN, offB_congr (i9 i)]; exact ls i hi d
  · rw [hN, cnt_congr (q := fun k => decide (κ.1 9 k < 0)) (fun k _ => by rw [i9])]; exact lz
  · rw [hN]; intro i hi; rw [ent_congr (i0 i) (i1 i) (i5 i)]; exact en i hi
  · rw [hN]; intro i hi; rw [i9]; exact ef i hi
theorem ShC_N {κ κ' : CS} {c : CT} (h : ShC κ c) (hN : κ.2.2.1 0 ≤ κ'.2.2.1 0) : ShC κ' c := ⟨h.1, fun r hr k hk => Nat.lt_of_lt_of_le (h.2.1 r hr k hk) hN, h.2.2⟩
theorem WV_cong {κ κ' : CS} {cs : Nat → CT} (h : WV κ cs) (hN : κ'.2.2 = κ.2.2) : WV κ' cs := by
  obtain ⟨⟨a, b, c, d⟩, e, f⟩ := h
  have h0 : κ.2.2.1 0 ≤ κ'.2.2.1 0 := by rw [hN]; exact Nat.le_refl _
  exact ⟨⟨ShC_N a h0, by rw [hN]; exact b, by rw [hN]; exact c, by rw [hN]; exact d⟩, ShC_N e h0, ShC_N f h0⟩
theorem nm0_or {x : Int32} (h : nm0 x = true) : x = 0 ∨ nmI x := by
  unfold nm0 at h
  rw [Bool.or_eq_true] at h
  rcases h with h | h
  · exact Or.inl (of_decide_eq_true h)
  · obtain ⟨j, a, b, c, _⟩ := nameB_le h
    exact Or.inr ⟨j, a, b, c⟩
theorem FRS_B {κ : CS} (h : FRS κ) {f j : Nat} (hj : j < κ.2.2.1 0) (b : Bool) : FRS (setB κ f j b) := fun i hi => ⟨(h i hi).1, (h i hi).2.1, fun g => by show upB κ.2.1 f j b g i = false; rw [upB_ne (Or.inr (by have : κ.2.2.1 0 ≤ i := hi; omega))]; exact (h i hi).2.2 g⟩
theorem opSetNames_c {κ : CS} {xc xp xe : Int32} : (opSetNames κ xc xp xe).2.2 = κ ∨ ∃ j, j < κ.2.2.1 0 ∧ nm0 xp = true ∧ nm0 xe = true ∧ (opSetNames κ xc xp xe).2.2 = setI (setI κ 7 j xp) 8 j xe := by
  unfold opSetNames
  cases h1 : inR (κ.2.2.1 0) xc with
  | false => exact Or.inl rfl
  | true =>
    cases h2 : nm0 xp && nm0 xe with
    | false => exact Or.inl rfl
    | true =>
      cases h3 : κ.2.1 0 (xj xc) && !anyN (issB κ (κ.1 1 (xj xc))) (κ.2.2.1 0) with
      | false => exact Or.inl rfl
      | true =>
        rw [Bool.and_eq_true] at h2
        refine Or.inr ⟨xj xc, ?_, h2.1, h2.2, rfl⟩
        unfold inR at h1
        rw [Bool.and_eq_true] at h1
        exact of_decide_eq_true h1.2
theorem IV_setNames {κ : CS} {X : XT} (h : IV κ X) (xc xp xe : Int32) : IV (opSetNames κ xc xp xe).2.2 X := by
  rcases opSetNames_c (κ := κ) (xc := xc) (xp := xp) (xe := xe) with e | ⟨j, hj, a, b, e⟩
  · rw [e]; exact h
  · rw [e]
    have hv : ∀ f i, (setI (setI κ 7 j xp) 8 j xe).1 f i = upI (upI κ.1 7 j xp) 8 j xe f i := fun _ _ => rfl
    refine IV_cong h rfl (fun f h7 h8 i => by rw [hv, upI_ne (Or.inl h8), upI_ne (Or.inl h7)]) (fun _ => rfl) (fun i hi => ?_) (fun i hi => ?_) (fun i hi => ?_)
    · rw [hv, upI_ne (Or.inl (by decide))]
      by_cases q : i = j
      · subst q; rw [upI_eq]; exact nm0_or a
      · rw [upI_ne (Or.inr q)]; exact h.2.2.2.1.2.2.1 i hi
    · rw [hv]
      by_cases q : i = j
      · subst q; rw [upI_eq]; exact nm0_or b
      · rw [upI_ne (Or.inr q), upI_ne (Or.inr q)]; exact h.2.2.2.1.2.2.2.1 i hi
    · have hi2 : κ.2.2.1 0 ≤ i := hi
      have q : i ≠ j := by omega
      obtain ⟨f7, f8, fB⟩ := h.2.2.2.2.1 i hi2
      exact ⟨by rw [hv, upI_ne (Or.inr q), upI_ne (Or.inr q)]; exact f7, by rw [hv, upI_ne (Or.inr q), upI_ne (Or.inr q)]; exact f8, fB⟩
theorem IV_setB {κ : CS} {X : XT} (h : IV κ X) {f j : Nat} (hj : j < κ.2.2.1 0) (hf : f ≠ 1) (b : Bool) : IV (setB κ f j b) X :=
  IV_cong h rfl (fun _ _ _ _ => rfl) (fun i => by show upB κ.2.1 f j b 1 i = _; exact upB_ne (Or.inl (fun q => hf q.symm))) h.2.2.2.1.2.2.1 h.2.2.2.1.2.2.2.1 (FRS_B h.2.2.2.2.1 hj b)
theorem inR_lt {n : Nat} {x : Int32} (h : inR n x = true) : xj x < n := by
  unfold inR at h; rw [Bool.and_eq_true] at h; exact of_decide_eq_true h.2
theorem opTrust_c {κ : CS} {xc : Int32} {b : Bool} : (opTrust κ xc b).2.2 = κ ∨ (xj xc < κ.2.2.1 0 ∧ (opTrust κ xc b).2.2 = setB κ 2 (xj xc) b) := by
  unfold opTrust
  cases h1 : inR (κ.2.2.1 0) xc with
  | false => exact Or.inl rfl
  | true =>
    cases h2 : κ.2.1 1 (xj xc) with
    | false => exact Or.inl rfl
    | true => exact Or.inr ⟨inR_lt h1, rfl⟩
theorem IV_trust {κ : CS} {X : XT} (h : IV κ X) (xc : Int32) (b : Bool) : IV (opTrust κ xc b).2.2 X := by
  rcases opTrust_c (κ := κ) (xc := xc) (b := b) with e | ⟨hj, e⟩
  · rw [e]; exact h
  · rw [e]; exact IV_setB h hj (by decide) b
theorem opRevoke_c {κ : CS} {xc : Int32} : (opRevoke κ xc).2.2 = κ ∨ (xj xc < κ.2.2.1 0 ∧ (opRevoke κ xc).2.2 = setB κ 3 (xj xc) true) := by
  unfold opRevoke
  cases h1 : inR (κ.2.2.1 0) xc with
  | false => exact Or.inl rfl
  | true =>
    cases h2 : κ.2.1 1 (xj xc) || κ.2.1 3 (xj xc) with
    | true => exact Or.inl rfl
    | false => exact Or.inr ⟨inR_lt h1, rfl⟩
theorem IV_revoke {κ : CS} {X : XT} (h : IV κ X) (xc : Int32) : IV (opRevoke κ xc).2.2 X := by
  rcases opRevoke_c (κ := κ) (xc := xc) with e | ⟨hj, e⟩
  · rw [e]; exact h
  · rw [e]; exact IV_setB h hj (by decide) true
theorem op_same {κ : CS} : (∀ xc xp xe, (opSetNames κ xc xp xe).2.2.2.2 = κ.2.2) ∧ (∀ xc b, (opTrust κ xc b).2.2.2.2 = κ.2.2) ∧ (∀ xc, (opRevoke κ xc).2.2.2.2 = κ.2.2) := by
  refine ⟨fun xc xp xe => ?_, fun xc b => ?_, fun xc => ?_⟩
  · rcases opSetNames_c (κ := κ) (xc := xc) (xp := xp) (xe := xe) with e | ⟨j, _, _, _, e⟩ <;> rw [e] <;> rfl
  · rcases opTrust_c (κ := κ) (xc := xc) (b := b) with e | ⟨_, e⟩ <;> rw [e] <;> rfl
  · rcases opRevoke_c (κ := κ) (xc := xc) with e | ⟨_, e⟩ <;> rw [e] <;> rfl
theorem opPass_c {κ : CS} {dy : Int32} : (opPass κ dy).2.2 = κ ∨ ∃ j, j ≤ 999 ∧ (opPass κ dy).2.2 = setN κ 2 (κ.2.2.1 2 + j) := by
  unfold opPass
  cases h : isInB dy (nI 1) (nI 999) with
  | false => exact Or.inl rfl
  | true =>
    obtain ⟨j, _, hj, rfl⟩ := isInB_ex h
    exact Or.inr ⟨j, hj, by show setN κ 2 (κ.2.2.1 2 + xj (nI j)) = _; rw [show xj (nI j) = j from nI_clamp (by omega)]⟩
theorem IV_pass {κ : CS} {X : XT} (h : IV κ X) (hd : κ.2.2.1 2 + 999 < 2147483648) (dy : Int32) : IV (opPass κ dy).2.2 X := by
  rcases opPass_c (κ := κ) (dy := dy) with e | ⟨j, hj, e⟩
  · rw [e]; exact h
  · rw [e]
    obtain ⟨s, t, hl, m, f, f6, ls, lz, en, ef⟩ := h
    refine ⟨s, t, hl, m, f, f6, ls, lz, en, fun i hi => ?_⟩
    refine Int32.le_trans (ef i hi) ?_
    show nI (κ.2.2.1 2) ≤ nI (κ.2.2.1 2 + j)
    rw [nI_leI (by omega) (by omega)]; omega
theorem WV_pass {κ : CS} {cs : Nat → CT} (h : WV κ cs) (dy : Int32) : WV (opPass κ dy).2.2 cs := by
  rcases opPass_c (κ := κ) (dy := dy) with e | ⟨j, hj, e⟩
  · rw [e]; exact h
  · rw [e]; exact h
theorem day_pass {κ : CS} (dy : Int32) : (opPass κ dy).2.2.2.2.1 2 ≤ κ.2.2.1 2 + 999 := by
  rcases opPass_c (κ := κ) (dy := dy) with e | ⟨j, hj, e⟩
  · rw [e]; omega
  · rw [e]; show upn κ.2.2.1 2 (κ.2.2.1 2 + j) 2 ≤ _; rw [upn_eq]; omega
/-- a walk begins, goes on -/
theorem opBegin_c {κ : CS} {xc dy : Int32} (hn : κ.2.2.1 0 ≤ 40) : ((opBegin κ xc dy).2.2 = κ ∧ ∀ c, bgC κ c xc dy = c) ∨ ∃ j, j < κ.2.2.1 0 ∧ (opBegin κ xc dy).2.2 = (κ.1, κ.2.1, upn κ.2.2.1 3 1, upn κ.2.2.2.1 0 j, dy) ∧ ∀ c : CT, bgC κ c xc dy = (va_up c.1 0 (some j), 1, dy) := by
  by_cases h : wrongC κ xc dy = 0
  · obtain ⟨j, hj, rfl, hd⟩ := wrong_0 h hn
    have hx : xj (nI j) = j := nI_clamp (by omega)
    cases hb : beginB κ j dy with
    | true => exact Or.inr ⟨j, hj, by unfold opBegin; rw [decide_eq_true h, hx, hb]; rfl, fun c => by unfold bgC; rw [decide_eq_true h, hx, hb]; rfl⟩
    | false => exact Or.inl ⟨by unfold opBegin; rw [decide_eq_true h, hx, hb]; rfl, fun c => by unfold bgC; rw [decide_eq_true h, hx, hb]; rfl⟩
  · exact Or.inl ⟨by unfold opBegin; rw [decide_eq_false h]; rfl, fun c => by unfold bgC; rw [decide_eq_false h]; rfl⟩
theorem IV_begin {κ : CS} {X : XT} (h : IV κ X) (xc dy : Int32) : IV (opBegin κ xc dy).2.2 X := by
  rcases opBegin_c (κ := κ) (xc := xc) (dy := dy) h.1.1 with ⟨e, _⟩ | ⟨j, hj, e, _⟩
  · rw [e]; exact h
  · rw [e]
    obtain ⟨s, t, hl, ⟨m1, m2, m3, m4, m5, _, _⟩, f, f6, ls, lz, en, ef⟩ := h
    refine ⟨s, t, hl, ⟨m1, m2, m3, m4, m5, by show upn κ.2.2.1 3 1 3 ≤ 7; rw [upn_eq]; decide, fun z hz => ?_⟩, f, f6, ls, lz, en, ef⟩
    have hz2 : z < upn κ.2.2.1 3 1 3 := hz
    rw [upn_eq] at hz2
    show upn κ.2.2.2.1 0 j z < κ.2.2.1 0
    rw [show z = 0 by omega, upn_eq]; exact hj
theorem WV_begin {κ : CS} {cs : Nat → CT} (h : WV κ cs) (hn : κ.2.2.1 0 ≤ 40) (xc dy : Int32) : WV (opBegin κ xc dy).2.2 (upc cs 0 (bgC κ (cs 0) xc dy)) := by
  rcases opBegin_c (κ := κ) (xc := xc) (dy := dy) hn with ⟨e, b⟩ | ⟨j, hj, e, b⟩
  · rw [e, b, upc_self]; exact h
  · rw [e, b]
    obtain ⟨⟨a1, a2, a3, a4⟩, e1, f1⟩ := h
    refine ⟨?_, by rw [upc_ne (by decide)]; exact e1, by rw [upc_ne (by decide)]; exact f1⟩
    rw [upc_eq]
    refine ⟨restart_ok a1 hj, (show (1 : Nat) = upn κ.2.2.1 3 1 3 from upn_eq.symm), rfl, fun r hr => ?_⟩
    have hr2 : r < upn κ.2.2.1 3 1 3 := hr
    rw [upn_eq] at hr2
    have r0 : r = 0 := by omega
    subst r0
    show (if 0 = 0 then some j else (cs 0).1 0) = some (upn κ.2.2.2.1 0 j 0)
    rw [upn_eq]; rfl
theorem opStep_c {κ : CS} {rk : Int32} : ((opStep κ rk).2.2 = κ ∧ ∀ c, κ.2.2.1 3 ≠ 0 → stC κ c rk = c) ∨ ∃ k, k < κ.2.2.1 0 ∧ κ.2.2.1 3 ≠ 0 ∧ refC κ κ.2.2.2.1 (κ.2.2.1 3) k κ.2.2.2.2 = 111 ∧ (opStep κ rk).2.2 = (κ.1, κ.2.1, upn κ.2.2.1 3 (κ.2.2.1 3 + 1), upn κ.2.2.2.1 (κ.2.2.1 3) k, κ.2.2.2.2) ∧ ∀ c : CT, stC κ c rk = (va_up c.1 c.2.1 (some k), c.2.1 + 1, c.2.2) := by
  by_cases h0 : κ.2.2.1 3 = 0
  · exact Or.inl ⟨by rw [opStep_0 h0], fun c q => absurd h0 q⟩
  · cases h : fstN (nthB κ (κ.2.2.2.1 (κ.2.2.1 3 - 1)) rk) (κ.2.2.1 0) with
    | none => exact Or.inl ⟨by rw [opStep_n h0 h], fun c _ => by unfold stC; rw [h]⟩
    | some k =>
      by_cases hr : refC κ κ.2.2.2.1 (κ.2.2.1 3) k κ.2.2.2.2 = 111
      · exact Or.inr ⟨k, (fstN_spec h).1, h0, hr, by rw [opStep_k h0 h, decide_eq_true hr]; rfl, fun c => by rw [stC_k h, decide_eq_true hr]; rfl⟩
      · exact Or.inl ⟨by rw [opStep_k h0 h, decide_eq_false hr]; rfl, fun c _ => by rw [stC_k h, decide_eq_false hr]; rfl⟩
theorem IV_step {κ : CS} {X : XT} (h : IV κ X) (rk : Int32) : IV (opStep κ rk).2.2 X := by
  rcases opStep_c (κ := κ) (rk := rk) with ⟨e, _⟩ | ⟨k, hk, h0, hr, e, _⟩
  · rw [e]; exact h
  · rw [e]
    have h6 := refC_sz h.2.2.2.1 hk (by have := h.2.2.2.1.2.2.2.2.2.1; omega) hr
    obtain ⟨s, t, hl, ⟨m1, m2, m3, m4, m5, m6, m7⟩, f, f6, ls, lz, en, ef⟩ := h
    refine ⟨s, t, hl, ⟨m1, m2, m3, m4, m5, by show upn κ.2.2.1 3 (κ.2.2.1 3 + 1) 3 ≤ 7; rw [upn_eq]; omega, fun z hz => ?_⟩, f, f6, ls, lz, en, ef⟩
    have hz2 : z < upn κ.2.2.1 3 (κ.2.2.1 3 + 1) 3 := hz
    rw [upn_eq] at hz2
    show upn κ.2.2.2.1 (κ.2.2.1 3) k z < κ.2.2.1 0
    by_cases q : z = κ.2.2.1 3
    · rw [q, upn_eq]; exact hk
    · rw [upn_ne q]; exact m7 z (by omega)
theorem WV_step {κ : CS} {cs : Nat → CT} (h : WV κ cs) (hI : InvM κ) (rk : Int32) (hc : (opStep κ rk).1 = 0) : WV (opStep κ rk).2.2 (upc cs 0 (stC κ (cs 0) rk)) := by
  rcases opStep_c (κ := κ) (rk := rk) with ⟨e, b⟩ | ⟨k, hk, h0, hr, e, b⟩
  · have h0 : κ.2.2.1 3 ≠ 0 := fun q => by rw [opStep_0 q] at hc; cases hc
    rw [e, b _ h0, upc_self]; exact h
  · rw [e, b]
    have h6 := refC_sz hI hk (by have := hI.2.2.2.2.2.1; omega) hr
    obtain ⟨⟨a1, a2, a3, a4⟩, e1, f1⟩ := h
    refine ⟨?_, by rw [upc_ne (by decide)]; exact e1, by rw [upc_ne (by decide)]; exact f1⟩
    rw [upc_eq]
    refine ⟨addC_ok a1 (by rw [a2]; omega) hk, by show (cs 0).2.1 + 1 = upn κ.2.2.1 3 (κ.2.2.1 3 + 1) 3; rw [upn_eq, a2], a3, fun r hr2 => ?_⟩
    have hr3 : r < upn κ.2.2.1 3 (κ.2.2.1 3 + 1) 3 := hr2
    rw [upn_eq] at hr3
    show (if r = (cs 0).2.1 then some k else (cs 0).1 r) = some (upn κ.2.2.2.1 (κ.2.2.1 3) k r)
    by_cases q : r = κ.2.2.1 3
    · rw [q, upn_eq, if_pos a2.symm]
    · rw [upn_ne q, if_neg (by rw [a2]; exact q)]; exact a4 r (by omega)
