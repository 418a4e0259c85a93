/-! certificates are made -/
def NW2 (κ κ1 : CS) (nm ky bn bk : Int32) (rt : Bool) : Prop := (∀ i, i ≠ κ.2.2.1 0 → ∀ f, κ1.1 f i = κ.1 f i) ∧ (∀ i, i ≠ κ.2.2.1 0 → ∀ f, κ1.2.1 f i = κ.2.1 f i) ∧ κ1.1 0 (κ.2.2.1 0) = nm ∧ κ1.1 1 (κ.2.2.1 0) = ky ∧ κ1.1 4 (κ.2.2.1 0) = bn ∧ κ1.1 5 (κ.2.2.1 0) = bk ∧ κ1.2.1 1 (κ.2.2.1 0) = rt ∧ (∃ a : Nat, a ≤ 5 ∧ κ1.1 6 (κ.2.2.1 0) = nI a) ∧ κ1.2.2.1 3 = κ.2.2.1 3 ∧ κ1.2.2.2 = κ.2.2.2
theorem NW2_mk {κ : CS} (hF : FRS κ) (h6 : ∀ i, κ.2.2.1 0 ≤ i → κ.1 6 i = nI 0) (nm ky bn bk dy : Int32) : NW2 κ (mkK κ nm ky bn bk dy) nm ky bn bk false := by
  obtain ⟨m0, a0, a1, a2, a3, a4, a5, a6, a7, a8, a9⟩ := mkK_f κ nm ky bn bk dy
  exact ⟨fun i hi f => m0 f i hi, fun i hi f => rfl, a0, a1, a4, a5, (hF _ (Nat.le_refl _)).2.2 1, ⟨0, by omega, a6.trans (h6 _ (Nat.le_refl _))⟩, rfl, rfl⟩
theorem NW2_au {κ κ1 : CS} {nm ky bn bk ln : Int32} {rt : Bool} (h : NW2 κ κ1 nm ky bn bk rt) (hl : ∃ a : Nat, a ≤ 5 ∧ ln = nI a) : NW2 κ (auK κ1 (κ.2.2.1 0) ln) nm ky bn bk rt := by
  obtain ⟨bI, bB, e0, e1, e4, e5, f1, _, n3, w⟩ := h
  refine ⟨fun i hi f => ?_, fun i hi f => ?_, ?_, ?_, ?_, ?_, ?_, ?_, n3, w⟩
  · show upI κ1.1 6 (κ.2.2.1 0) ln f i = _; rw [upI_ne (Or.inr hi)]; exact bI i hi f
  · show upB κ1.2.1 0 (κ.2.2.1 0) true f i = _; rw [upB_ne (Or.inr hi)]; exact bB i hi f
  · show upI κ1.1 6 (κ.2.2.1 0) ln 0 _ = _; rw [upI_ne (Or.inl (by decide))]; exact e0
  · show upI κ1.1 6 (κ.2.2.1 0) ln 1 _ = _; rw [upI_ne (Or.inl (by decide))]; exact e1
  · show upI κ1.1 6 (κ.2.2.1 0) ln 4 _ = _; rw [upI_ne (Or.inl (by decide))]; exact e4
  · show upI κ1.1 6 (κ.2.2.1 0) ln 5 _ = _; rw [upI_ne (Or.inl (by decide))]; exact e5
  · show upB κ1.2.1 0 (κ.2.2.1 0) true 1 _ = _; rw [upB_ne (Or.inl (by decide))]; exact f1
  · obtain ⟨a, ha, e⟩ := hl
    exact ⟨a, ha, by show upI κ1.1 6 (κ.2.2.1 0) ln 6 _ = _; rw [upI_eq]; exact e⟩
theorem NW2_rt {κ κ1 : CS} {nm ky bn bk : Int32} {rt : Bool} (h : NW2 κ κ1 nm ky bn bk rt) : NW2 κ (setB κ1 1 (κ.2.2.1 0) true) nm ky bn bk true := by
  obtain ⟨bI, bB, e0, e1, e4, e5, f1, l6, n3, w⟩ := h
  refine ⟨bI, fun i hi f => ?_, e0, e1, e4, e5, ?_, l6, n3, w⟩
  · show upB κ1.2.1 1 (κ.2.2.1 0) true f i = _; rw [upB_ne (Or.inr hi)]; exact bB i hi f
  · show upB κ1.2.1 1 (κ.2.2.1 0) true 1 _ = _; rw [upB_eq]
/-- a holder more -/
theorem IV_hl {κ : CS} {X : XT} (h : IV κ X) (hk : κ.2.2.1 1 < 40) (nm : Int32) : IV (kyK κ) (hlX X (κ.2.2.1 1) nm) := by
  obtain ⟨s, t, hl, m, fr, f6, ls, lz, en, ef⟩ := h
  refine ⟨ShX_hl s hk nm, fun i hi => ?_, fun j hj => ?_, m, fr, f6, ls, lz, en, ef⟩
  · obtain ⟨t1, t2, t3, t4, t5⟩ := t i hi
    have a := s.sb hi; have b := s.is hi
    refine ⟨t1, ?_, t3, ?_, t5⟩
    · show κ.1 0 i = upd X.2.2.1 (κ.2.2.1 1) nm (X.1 i); rw [show upd X.2.2.1 (κ.2.2.1 1) nm (X.1 i) = X.2.2.1 (X.1 i) from if_neg (by omega)]; exact t2
    · show κ.1 4 i = upd X.2.2.1 (κ.2.2.1 1) nm (X.2.1 i); rw [show upd X.2.2.1 (κ.2.2.1 1) nm (X.2.1 i) = X.2.2.1 (X.2.1 i) from if_neg (by omega)]; exact t4
  · have hj2 : j < upn κ.2.2.1 1 (κ.2.2.1 1 + 1) 1 := hj
    rw [upn_eq] at hj2
    by_cases e : j = κ.2.2.1 1
    · refine ⟨0, Nat.zero_le _, by show upn X.2.2.2.1 (κ.2.2.1 1) 0 j = 0; rw [e, upn_eq], ?_, fun r _ => ?_, fun r hr => absurd hr (Nat.not_lt_zero r)⟩
      · have : ∀ n, n ≤ κ.2.2.1 0 → cnt (fun k => decide (X.1 k = j)) n = 0 := by
          intro n
          induction n with
          | zero => intro _; rfl
          | succ n ih =>
            intro hn
            have := s.sb (show n < κ.2.2.1 0 by omega)
            show cnt _ n + (if decide (X.1 n = j) then 1 else 0) = 0
            rw [ih (by omega), decide_eq_false (by omega)]; rfl
        exact this _ (Nat.le_refl _)
      · show (if j = κ.2.2.1 1 then (fun _ => none) else X.2.2.2.2.1 j) r = none; rw [if_pos e]
    · obtain ⟨a, a1, a2, a3, a4, a5⟩ := hl j (by omega)
      refine ⟨a, a1, by show upn X.2.2.2.1 (κ.2.2.1 1) 0 j = a; rw [upn_ne e]; exact a2, a3, fun r hr => ?_, fun r hr => ?_⟩
      · show (if j = κ.2.2.1 1 then (fun _ => none) else X.2.2.2.2.1 j) r = none; rw [if_neg e]; exact a4 r hr
      · show ∃ k, (if j = κ.2.2.1 1 then (fun _ => none) else X.2.2.2.2.1 j) r = some k ∧ _; rw [if_neg e]; exact a5 r hr
def enXv (X : XT) (n h1 h2 : Nat) (v : Int64) : XT := apX (rcX (ceX X n h1 h2) h1 n) n v
theorem enX_v {X : XT} {n h1 h2 : Nat} : enX X n h1 h2 = enXv X n h1 h2 (entX (nI n).toInt64 (X.2.2.1 h1).toInt64 (nI (h1 + 1)).toInt64 (nI (h2 + 1)).toInt64) := by
  unfold enX enXv
  rw [show (rcX (ceX X n h1 h2) h1 n).1 n = h1 from upn_eq, show (rcX (ceX X n h1 h2) h1 n).2.1 n = h2 from upn_eq]
  rfl
theorem tlB_congr {X X' : XT} {i : Nat} {d : Int32} (h1 : X'.2.2.2.2.2.2.1 = X.2.2.2.2.2.2.1) (h2 : X'.2.2.2.2.2.2.2.1 = X.2.2.2.2.2.2.2.1) : tlB X' i d = tlB X i d := by
  funext r; unfold tlB; rw [h1, h2]
theorem off_new {κ κ1 : CS} (b0 : κ1.2.2.1 0 = κ.2.2.1 0 + 1) (wI : ∀ i, i ≠ κ.2.2.1 0 → κ1.1 9 i = κ.1 9 i) (e9 : κ1.1 9 (κ.2.2.1 0) = -1) {i : Nat} {d : Int32} : (decide (i < κ.2.2.1 0) && offB κ i d) = (decide (i < κ1.2.2.1 0) && offB κ1 i d) := by
  rw [b0]
  by_cases q : i < κ.2.2.1 0
  · rw [decide_eq_true q, decide_eq_true (show i < κ.2.2.1 0 + 1 by omega), offB_congr (wI i (by omega))]
  · rw [decide_eq_false q]
    by_cases q2 : i = κ.2.2.1 0
    · have : offB κ1 i d = false := by unfold offB; rw [q2, e9, decide_eq_true (show (-1 : Int32) < 0 by decide)]; rfl
      rw [this, Bool.and_false, Bool.false_and]
    · rw [decide_eq_false (show ¬ i < κ.2.2.1 0 + 1 by omega), Bool.false_and, Bool.false_and]
theorem IV_newv {κ κ1 : CS} {X : XT} {h1 h2 : Nat} {dy ln : Int32} {v : Int64} (hv : v = ent κ1 (κ.2.2.1 0)) (h : IV κ X) (hn4 : κ.2.2.1 0 < 40) (hh1 : h1 < κ.2.2.1 1) (hh2 : h2 < κ.2.2.1 1) (hc3 : X.2.2.2.1 h1 < 3) (hN : NEW κ κ1 dy ln) (hW : NW2 κ κ1 (X.2.2.1 h1) (nI (h1 + 1)) (X.2.2.1 h2) (nI (h2 + 1)) (decide (h1 = h2))) (hnm : nmI (X.2.2.1 h1)) (hdy2 : κ.2.2.1 2 < 2147483648) : IV κ1 (enXv X (κ.2.2.1 0) h1 h2 v) := by
  obtain ⟨⟨s1, s2, s3, s4, s5, s6⟩, t, hl, ⟨m1, m2, m3, m4, m5, m6, m7⟩, fr, f6, ls, lz, en, ef⟩ := h
  obtain ⟨b0, b1, b2, _, _, _, _, _, e7, e8, _, _, e9⟩ := hN
  obtain ⟨wI, wB, w0, w1, w4, w5, wr, w6, w3, ww⟩ := hW
  have split : ∀ i, i < κ.2.2.1 0 + 1 → i < κ.2.2.1 0 ∨ i = κ.2.2.1 0 := fun i hi => by omega
  have up1 : ∀ i, i < κ.2.2.1 0 → upn X.1 (κ.2.2.1 0) h1 i = X.1 i := fun i hi => upn_ne (by omega)
  have up2 : ∀ i, i < κ.2.2.1 0 → upn X.2.1 (κ.2.2.1 0) h2 i = X.2.1 i := fun i hi => upn_ne (by omega)
  have hcn : ∀ j n, n ≤ κ.2.2.1 0 → cnt (fun k => decide (upn X.1 (κ.2.2.1 0) h1 k = j)) n = cnt (fun k => decide (X.1 k = j)) n := fun j n hn => cnt_congr fun k hk => by rw [up1 k (by omega)]
  have hHLD : HLD κ1 (enXv X (κ.2.2.1 0) h1 h2 v) := by
    intro j hj
    rw [b1] at hj
    obtain ⟨a, a1, a2, a3, a4, a5⟩ := hl j hj
    by_cases e : j = h1
    · subst e
      rw [b0]
      refine ⟨a + 1, by omega, ?_, ?_, fun r hr => ?_, fun r hr => ?_⟩
      · show upn X.2.2.2.1 j (X.2.2.2.1 j + 1) j = a + 1; rw [upn_eq, a2]
      · show cnt (fun k => decide (upn X.1 (κ.2.2.1 0) j k = j)) (κ.2.2.1 0) + (if decide (upn X.1 (κ.2.2.1 0) j (κ.2.2.1 0) = j) then 1 else 0) = a + 1
        rw [hcn j _ (Nat.le_refl _), a3, upn_eq, decide_eq_true rfl]; rfl
      · show (if j = j then va_up (X.2.2.2.2.1 j) (X.2.2.2.1 j) (some (κ.2.2.1 0)) else X.2.2.2.2.1 j) r = none
        rw [if_pos rfl]
        show (if r = X.2.2.2.1 j then some (κ.2.2.1 0) else X.2.2.2.2.1 j r) = none
        rw [if_neg (by omega)]; exact a4 r (by omega)
      · show ∃ k, (if j = j then va_up (X.2.2.2.2.1 j) (X.2.2.2.1 j) (some (κ.2.2.1 0)) else X.2.2.2.2.1 j) r = some k ∧ k < κ.2.2.1 0 + 1 ∧ upn X.1 (κ.2.2.1 0) j k = j ∧ cnt (fun z => decide (upn X.1 (κ.2.2.1 0) j z = j)) k = r
        rw [if_pos rfl]
        by_cases q : r = a
        · refine ⟨κ.2.2.1 0, by show (if r = X.2.2.2.1 j then some (κ.2.2.1 0) else X.2.2.2.2.1 j r) = _; rw [if_pos (by omega)], by omega, upn_eq, ?_⟩
          rw [hcn j _ (Nat.le_refl _), a3, q]
        · obtain ⟨k, k1, k2, k3, k4⟩ := a5 r (by omega)
          refine ⟨k, by show (if r = X.2.2.2.1 j then some (κ.2.2.1 0) else X.2.2.2.2.1 j r) = _; rw [if_neg (by omega)]; exact k1, by omega, by rw [up1 k k2]; exact k3, ?_⟩
          rw [hcn j k (by omega)]; exact k4
    · rw [b0]
      refine ⟨a, a1, ?_, ?_, fun r hr => ?_, fun r hr => ?_⟩
      · show upn X.2.2.2.1 h1 (X.2.2.2.1 h1 + 1) j = a; rw [upn_ne e]; exact a2
      · show cnt (fun k => decide (upn X.1 (κ.2.2.1 0) h1 k = j)) (κ.2.2.1 0) + (if decide (upn X.1 (κ.2.2.1 0) h1 (κ.2.2.1 0) = j) then 1 else 0) = a
        rw [hcn j _ (Nat.le_refl _), a3, upn_eq, decide_eq_false (fun q => e q.symm)]; rfl
      · show (if j = h1 then va_up (X.2.2.2.2.1 h1) (X.2.2.2.1 h1) (some (κ.2.2.1 0)) else X.2.2.2.2.1 j) r = none
        rw [if_neg e]; exact a4 r hr
      · obtain ⟨k, k1, k2, k3, k4⟩ := a5 r hr
        refine ⟨k, by show (if j = h1 then va_up (X.2.2.2.2.1 h1) (X.2.2.2.1 h1) (some (κ.2.2.1 0)) else X.2.2.2.2.1 j) r = some k; rw [if_neg e]; exact k1, by omega, by show upn X.1 (κ.2.2.1 0) h1 k = j; rw [up1 k k2]; exact k3, ?_⟩
        show cnt (fun z => decide (upn X.1 (κ.2.2.1 0) h1 z = j)) k = r
        rw [hcn j k (by omega)]; exact k4
  have hmem : ∀ j, j < κ1.2.2.1 1 → ∀ r, ∀ k, (enXv X (κ.2.2.1 0) h1 h2 v).2.2.2.2.1 j r = some k → k < κ1.2.2.1 0 := by
    intro j hj r k hk
    obtain ⟨a, _, _, _, a4, a5⟩ := hHLD j hj
    by_cases hr : r < a
    · obtain ⟨k2, k3, k4, _⟩ := a5 r hr
      rw [k3] at hk; cases hk; exact k4
    · rw [a4 r (by omega)] at hk; cases hk
  refine ⟨⟨by rw [b0]; omega, by rw [b1]; exact s2, ?_, fun j hj r _ k hk => hmem j hj r k hk, ?_, ?_⟩, ?_, hHLD, ⟨by rw [b0]; omega, ?_, ?_, ?_, ?_, by rw [w3]; exact m6, ?_⟩, ?_, ?_, ?_, ?_, ?_, ?_⟩
  · rw [b0, b1]; intro i hi
    show upn X.1 (κ.2.2.1 0) h1 i < _ ∧ upn X.2.1 (κ.2.2.1 0) h2 i < _
    rcases split i hi with q | q
    · rw [up1 i q, up2 i q]; exact s3 i q
    · rw [q, upn_eq, upn_eq]; exact ⟨hh1, hh2⟩
  · rw [b0]; intro i hi
    show nmI (κ1.1 0 i) ∧ κ1.1 0 i = X.2.2.1 (upn X.1 (κ.2.2.1 0) h1 i)
    rcases split i hi with q | q
    · rw [wI i (by omega) 0, up1 i q]; exact s5 i q
    · rw [q, w0, upn_eq]; exact ⟨hnm, rfl⟩
  · rw [b0]; intro i hi
    rcases split i hi with q | q
    · rw [wI i (by omega) 9]; exact s6 i q
    · rw [q, e9]; exact Or.inl rfl
  · intro i hi
    rw [b0] at hi
    show κ1.2.1 1 i = decide (upn X.1 (κ.2.2.1 0) h1 i = upn X.2.1 (κ.2.2.1 0) h2 i) ∧ κ1.1 0 i = X.2.2.1 (upn X.1 (κ.2.2.1 0) h1 i) ∧ κ1.1 1 i = nI (upn X.1 (κ.2.2.1 0) h1 i + 1) ∧ κ1.1 4 i = X.2.2.1 (upn X.2.1 (κ.2.2.1 0) h2 i) ∧ κ1.1 5 i = nI (upn X.2.1 (κ.2.2.1 0) h2 i + 1)
    rcases split i hi with q | q
    · rw [up1 i q, up2 i q, wB i (by omega) 1, wI i (by omega) 0, wI i (by omega) 1, wI i (by omega) 4, wI i (by omega) 5]; exact t i q
    · rw [q, upn_eq, upn_eq]; exact ⟨wr, w0, w1, w4, w5⟩
  · rw [b0]; intro i hi
    rcases split i hi with q | q
    · rw [wI i (by omega) 0]; exact m2 i q
    · rw [q, w0]; exact hnm
  · rw [b0]; intro i hi
    rcases split i hi with q | q
    · rw [wI i (by omega) 7]; exact m3 i q
    · rw [q, e7]; exact Or.inl nI_0
  · rw [b0]; intro i hi
    rcases split i hi with q | q
    · rw [wI i (by omega) 8]; exact m4 i q
    · rw [q, e8]; exact Or.inl nI_0
  · rw [b0]; intro i hi
    rcases split i hi with q | q
    · rw [wI i (by omega) 6]; exact m5 i q
    · rw [q]; exact w6
  · rw [w3, b0, ww]; intro j hj; have := m7 j hj; omega
  · intro i hi
    rw [b0] at hi
    obtain ⟨x, y, z⟩ := fr i (by omega)
    exact ⟨(wI i (by omega) 7).trans x, (wI i (by omega) 8).trans y, fun f => (wB i (by omega) f).trans (z f)⟩
  · rw [b0]; intro i hi
    exact (wI i (by omega) 6).trans (f6 i (by omega))
  · intro i hi d
    have e1 : tlB (enXv X (κ.2.2.1 0) h1 h2 v) i d = tlB X i d := tlB_congr rfl rfl
    have e2 : (enXv X (κ.2.2.1 0) h1 h2 v).2.2.2.2.2.1 = X.2.2.2.2.2.1 := rfl
    rw [e1, e2, ls i hi d, off_new b0 (fun i hi => wI i hi 9) e9]
  · rw [b0]
    show X.2.2.2.2.2.1 + (cnt (fun k => decide (κ1.1 9 k < 0)) (κ.2.2.1 0) + (if decide (κ1.1 9 (κ.2.2.1 0) < 0) then 1 else 0)) ≤ κ.2.2.1 0 + 1
    rw [cnt_congr (q := fun k => decide (κ.1 9 k < 0)) (fun k hk => by rw [wI k (by omega) 9])]
    split <;> omega
  · rw [b0]; intro i hi
    show vp_updL X.2.2.2.2.2.2.2.2 (κ.2.2.1 0) v i = _
    rcases split i hi with q | q
    · rw [ent_congr (wI i (by omega) 0) (wI i (by omega) 1) (wI i (by omega) 5)]
      show (if i = κ.2.2.1 0 then _ else X.2.2.2.2.2.2.2.2 i) = _
      rw [if_neg (by omega)]; exact en i q
    · subst q
      show (if κ.2.2.1 0 = κ.2.2.1 0 then _ else _) = _
      rw [if_pos rfl]; exact hv
  · rw [b0, b2]; intro i hi
    rcases split i hi with q | q
    · rw [wI i (by omega) 9]; exact ef i q
    · rw [q, e9]; exact Int32.le_trans (show (-1 : Int32) ≤ 0 by decide) (nI_pos' hdy2)
theorem IV_new {κ κ1 : CS} {X : XT} {h1 h2 : Nat} {dy ln : Int32} (h : IV κ X) (hn4 : κ.2.2.1 0 < 40) (hh1 : h1 < κ.2.2.1 1) (hh2 : h2 < κ.2.2.1 1) (hc3 : X.2.2.2.1 h1 < 3) (hN : NEW κ κ1 dy ln) (hW : NW2 κ κ1 (X.2.2.1 h1) (nI (h1 + 1)) (X.2.2.1 h2) (nI (h2 + 1)) (decide (h1 = h2))) (hnm : nmI (X.2.2.1 h1)) (hdy2 : κ.2.2.1 2 < 2147483648) : IV κ1 (enX X (κ.2.2.1 0) h1 h2) := by
  rw [enX_v]
  exact IV_newv (by unfold ent; rw [hW.2.2.1, hW.2.2.2.1, hW.2.2.2.2.2.1]) h hn4 hh1 hh2 hc3 hN hW hnm hdy2
theorem WV_new {κ κ1 : CS} {cs : Nat → CT} (h : WV κ cs) (hn : κ1.2.2.1 0 = κ.2.2.1 0 + 1) (h3 : κ1.2.2.1 3 = κ.2.2.1 3) (hw : κ1.2.2.2 = κ.2.2.2) : WV κ1 (fun q => nrC (cs q)) := by
  have nr : ∀ c, ShC κ c → ShC κ1 (nrC c) := fun c hc => ⟨hc.1, fun r hr k hk => by
    have hk2 : (if r < 7 then c.1 r else none) = some k := hk
    rw [if_pos hr] at hk2
    have := hc.2.1 r hr k hk2; omega, fun r hr => by
    have hr2 : r < c.2.1 := hr
    have h7 := hc.1
    show (if r < 7 then c.1 r else none) ≠ none
    rw [if_pos (by omega)]; exact hc.2.2 r hr2⟩
  obtain ⟨⟨a, b, c, d⟩, e, f⟩ := h
  refine ⟨⟨nr _ a, by rw [h3]; exact b, by rw [hw]; exact c, by
    rw [h3, hw]; intro r hr
    have h7 := a.1
    show (if r < 7 then (cs 0).1 r else none) = _
    rw [if_pos (by omega)]; exact d r hr⟩, nr _ e, nr _ f⟩
