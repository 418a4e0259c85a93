/-- walks through all 40 places of the row 'made' -/
def mdB (n : Nat) (p : Nat → Bool) (k : Nat) : Bool := decide (k < n) && p k
theorem cnt_md {n : Nat} {p : Nat → Bool} : ∀ m, n ≤ m → cnt (mdB n p) m = cnt p n := by
  intro m
  induction m with
  | zero => intro h; rw [show n = 0 from by omega]; rfl
  | succ m ih =>
    intro h
    by_cases e : n = m + 1
    · subst e; exact cnt_congr (fun k hk => by unfold mdB; rw [decide_eq_true hk]; rfl)
    · show cnt _ m + _ = _
      rw [ih (by omega)]; unfold mdB; rw [decide_eq_false (by omega)]; rfl
theorem mdB_no {n k : Nat} {p : Nat → Bool} (h : n ≤ k) : mdB n p k = false := by unfold mdB; rw [decide_eq_false (by omega)]; rfl
theorem mdB_in {n k : Nat} {p : Nat → Bool} (h : k < n) : mdB n p k = p k := by unfold mdB; rw [decide_eq_true h]; rfl
theorem key_eq {κ : CS} {X : XT} (hT : TIE κ X) (hS : ShX κ X) {i j : Nat} (hi : i < κ.2.2.1 0) (hj : j < 40) : decide (κ.1 5 i = nI (j + 1)) = decide (X.2.1 i = j) := by
  rw [(hT i hi).2.2.2.2, decide_eq_decide]
  have := hS.is hi; have := hS.2.1
  constructor
  · intro h; have h2 := (nat_ic_eq (by omega) (by omega)).mp h; omega
  · intro h; rw [h]
theorem key_eq1 {κ : CS} {X : XT} (hT : TIE κ X) (hS : ShX κ X) {i j : Nat} (hi : i < κ.2.2.1 0) (hj : j < 40) : decide (κ.1 1 i = nI (j + 1)) = decide (X.1 i = j) := by
  rw [(hT i hi).2.2.1, decide_eq_decide]
  have := hS.sb hi; have := hS.2.1
  constructor
  · intro h; have h2 := (nat_ic_eq (by omega) (by omega)).mp h; omega
  · intro h; rw [h]
theorem any_md {n : Nat} {p : Nat → Bool} : ∀ m, n ≤ m → anyN (mdB n p) m = anyN p n := by
  intro m
  induction m with
  | zero => intro h; rw [show n = 0 from by omega]; rfl
  | succ m ih =>
    intro h
    by_cases e : n = m + 1
    · subst e; exact anyN_congr (fun k hk => by unfold mdB; rw [decide_eq_true hk]; rfl)
    · show (anyN _ m || _) = _
      rw [ih (by omega), mdB_no (by omega)]; simp
def hisB (κ : CS) (X : XT) (h k : Nat) : Bool := decide (X.2.1 k = h) && !decide (X.1 k = X.2.1 k)
def penB (κ : CS) (X : XT) (h k : Nat) : Bool := decide (X.2.1 k = h) && (κ.2.1 3 k && decide (κ.1 9 k = -1))
set_option maxHeartbeats 4000000 in
set_option maxRecDepth 100000 in
theorem tX6_trustedRoots (l : Launch) (D : va_G) (g : Nat → ClassId) (A : Nat → Prop) (ad : Nat → Nat → Nat) (κ : CS) (X : XT) (cs : Nat → CT) (lf : Nat → Int64) (pr : PT)   (hn : κ.2.2.1 0 ≤ 40) : CtI l D g A yX6_trustedRoots cX6_trustedRoots 6 .int ({ frames := 0, cells := 0, slots := 0, locals := 0 } : Room) [.ref (ad 0 0)] (iW ad g κ X cs lf pr) (nI (cnt (κ.2.1 2) (κ.2.2.1 0))) (iW ad g κ X cs lf pr) := by
  refine metJ (by decide) (Nat.le_of_ble_eq_true rfl) ?_
  intro p e s m args below meth c _ _ cx
  refine J_iconst cx (v := nI 0) dX6_trustedRoots_0 (by decide) ?_
  refine J_istore_n cx (L' := [(1, .int (nI 0)), (0, .ref (ad 0 0))]) dX6_trustedRoots_1 rfl (by decide) rfl ?_
  refine J_aload_n cx dX6_trustedRoots_2 rfl 1 rfl ?_
  refine J_get cx (v := .ref (ad 0 1)) fX6_11 0 rfl rfl dX6_trustedRoots_3 ?_
  refine J_astore_n cx (L' := [(2, .ref (ad 0 1)), (1, .int (nI 0)), (0, .ref (ad 0 0))]) dX6_trustedRoots_6 rfl (by decide) rfl ?_
  refine J_aload_n cx dX6_trustedRoots_7 rfl 0 rfl ?_
  refine J_alen cx (v := nI 40) 1 rfl (t0 := 3) rfl rfl dX6_trustedRoots_8 ?_
  refine J_istore_n cx (L' := [(3, .int (nI 40)), (2, .ref (ad 0 1)), (1, .int (nI 0)), (0, .ref (ad 0 0))]) dX6_trustedRoots_9 rfl (by decide) rfl ?_
  refine J_iconst cx (v := nI 0) dX6_trustedRoots_10 (by decide) ?_
  refine J_istore cx (L' := [(4, .int (nI 0)), (3, .int (nI 40)), (2, .ref (ad 0 1)), (1, .int (nI 0)), (0, .ref (ad 0 0))]) dX6_trustedRoots_11 (by decide) rfl ?_
  have LP : ∀ (fu : Nat) (k : Nat), (k ≤ 40) → 40 - k < fu → J p l e ({ frames := 0, cells := 0, slots := 0, locals := 0 } : Room) s m args below meth c D A 6 (MQ below (va_Qi (fun (r : Int32) (_ : Unit) => r = (nI (cnt (κ.2.1 2) (κ.2.2.1 0)))) (fun _ => PO D A (iW ad g κ X cs lf pr)) A) args s 0 0 A) 0 0 (iW ad g κ X cs lf pr) [(1, .int (nI (cnt (mdB (κ.2.2.1 0) (κ.2.1 2)) k))), (2, .ref (ad 0 1)), (3, .int (nI 40)), (4, .int (nI k)), (0, .ref (ad 0 0))] 13 [] := by
    intro fu; induction fu with
    | zero => intro k hk hfu; exact absurd hfu (Nat.not_lt_zero _)
    | succ fu ih =>
      intro k hk hfu
      refine J_iload cx dX6_trustedRoots_13 3 rfl ?_
      refine J_iload_n cx dX6_trustedRoots_15 rfl 2 rfl ?_
      refine J_icmp_ge cx (tgt := 47) dX6_trustedRoots_16 (by decide) (fun c_1 => ?_) (fun c_1 => ?_)
      · have c_1 := (nat_ic_ge (by omega) (by omega)).mp c_1
        have c_1d := decide_eq_true c_1
        refine J_iload_n cx dX6_trustedRoots_47 rfl 0 rfl ?_
        exact J_iret cx rfl (u := ()) (by rw [show k = 40 from by omega, cnt_md 40 hn]) rfl (Nat.le_of_ble_eq_true rfl) (Nat.le_of_ble_eq_true rfl) dX6_trustedRoots_48
      · have c_1 := (nat_ic_ge_f (by omega) (by omega)).mp c_1
        have c_1d := decide_eq_false (Nat.not_le.mpr c_1)
        refine J_aload_n cx dX6_trustedRoots_19 rfl 1 rfl ?_
        refine J_iload cx dX6_trustedRoots_20 3 rfl ?_
        refine J_aald cx (j := k) (f := rfa ad (made (κ.2.2.1 0))) 1 rfl rfl (by omega) (by decide) dX6_trustedRoots_22 ?_
        refine J_astoreq cx (L' := [(5, va_rf (rfa ad (made (κ.2.2.1 0)) k)), (1, .int (nI (cnt (mdB (κ.2.2.1 0) (κ.2.1 2)) k))), (2, .ref (ad 0 1)), (3, .int (nI 40)), (4, .int (nI k)), (0, .ref (ad 0 0))]) dX6_trustedRoots_23 (by decide) rfl ?_
        refine J_aloadq cx dX6_trustedRoots_25 0 rfl ?_
        refine J_ifnull cx (tgt := 41) dX6_trustedRoots_27 (by decide) (fun c_2 => ?_) (fun y_3 c_2 => ?_)
        · have hno := made_none (rfa_none c_2)
          refine J_Le (L' := [(5, va_rf (rfa ad (made (κ.2.2.1 0)) k)), (1, .int (nI (cnt (mdB (κ.2.2.1 0) (κ.2.1 2)) (k + 1)))), (2, .ref (ad 0 1)), (3, .int (nI 40)), (4, .int (nI k)), (0, .ref (ad 0 0))]) (by rw [← cnt_f (p := mdB (κ.2.2.1 0) (κ.2.1 2)) (k := k) (mdB_no hno)]; try rfl) ?_
          refine J_iinc cx (v := (nI (k + 1))) (L' := [(4, .int (nI (k + 1))), (5, va_rf (rfa ad (made (κ.2.2.1 0)) k)), (1, .int (nI (cnt (mdB (κ.2.2.1 0) (κ.2.1 2)) (k + 1)))), (2, .ref (ad 0 1)), (3, .int (nI 40)), (0, .ref (ad 0 0))]) dX6_trustedRoots_41 4 rfl (by exact nI_add k 1) (by decide) rfl ?_
          refine J_goto cx (tgt := 13) dX6_trustedRoots_44 (by decide) ?_
          refine J_L [2, 3, 4, 0, 5] rfl ?_
          exact ih (k + 1) (by omega) (by omega)
        · have c_2v := c_2
          obtain ⟨i, him, hiy⟩ := rfa_some c_2; obtain ⟨hi, hie⟩ := made_some him; have hie := hie.symm; subst hie; subst hiy
          refine J_Le (L' := [(5, .ref (ad 1 k)), (1, .int (nI (cnt (mdB (κ.2.2.1 0) (κ.2.1 2)) k))), (2, .ref (ad 0 1)), (3, .int (nI 40)), (4, .int (nI k)), (0, .ref (ad 0 0))]) (by rw [c_2v]; rfl) ?_
          refine J_aload cx dX6_trustedRoots_30 0 rfl ?_
          refine J_get cx (v := .int (zb (κ.2.1 2 k))) fX6_120 (17 + k) (iG_c (by first | assumption | omega)) rfl dX6_trustedRoots_32 ?_
          refine J_ifz_eq cx (tgt := 41) dX6_trustedRoots_35 (by decide) (fun c_4 => ?_) (fun c_4 => ?_)
          · refine J_Le (L' := [(5, .ref (ad 1 k)), (1, .int (nI (cnt (mdB (κ.2.2.1 0) (κ.2.1 2)) (k + 1)))), (2, .ref (ad 0 1)), (3, .int (nI 40)), (4, .int (nI k)), (0, .ref (ad 0 0))]) (by rw [← cnt_f (p := mdB (κ.2.2.1 0) (κ.2.1 2)) (k := k) ((mdB_in hi).trans (by simp [c_1, c_1d, c_4]))]; try rfl) ?_
            refine J_iinc cx (v := (nI (k + 1))) (L' := [(4, .int (nI (k + 1))), (5, .ref (ad 1 k)), (1, .int (nI (cnt (mdB (κ.2.2.1 0) (κ.2.1 2)) (k + 1)))), (2, .ref (ad 0 1)), (3, .int (nI 40)), (0, .ref (ad 0 0))]) dX6_trustedRoots_41 4 rfl (by exact nI_add k 1) (by decide) rfl ?_
            refine J_goto cx (tgt := 13) dX6_trustedRoots_44 (by decide) ?_
            refine J_L [2, 3, 4, 0, 5] rfl ?_
            exact ih (k + 1) (by omega) (by omega)
          · refine J_iinc cx (v := (nI ((cnt (mdB (κ.2.2.1 0) (κ.2.1 2)) k) + 1))) (L' := [(1, .int (nI ((cnt (mdB (κ.2.2.1 0) (κ.2.1 2)) k) + 1))), (5, .ref (ad 1 k)), (2, .ref (ad 0 1)), (3, .int (nI 40)), (4, .int (nI k)), (0, .ref (ad 0 0))]) dX6_trustedRoots_38 1 rfl (by exact nI_add (cnt (mdB (κ.2.2.1 0) (κ.2.1 2)) k) 1) (by decide) rfl ?_
            refine J_Le (L' := [(1, .int (nI (cnt (mdB (κ.2.2.1 0) (κ.2.1 2)) (k + 1)))), (5, .ref (ad 1 k)), (2, .ref (ad 0 1)), (3, .int (nI 40)), (4, .int (nI k)), (0, .ref (ad 0 0))]) (by rw [← cnt_t (p := mdB (κ.2.2.1 0) (κ.2.1 2)) (k := k) ((mdB_in hi).trans (by simp [c_1, c_1d, c_4]))]; try rfl) ?_
            refine J_iinc cx (v := (nI (k + 1))) (L' := [(4, .int (nI (k + 1))), (1, .int (nI (cnt (mdB (κ.2.2.1 0) (κ.2.1 2)) (k + 1)))), (5, .ref (ad 1 k)), (2, .ref (ad 0 1)), (3, .int (nI 40)), (0, .ref (ad 0 0))]) dX6_trustedRoots_41 4 rfl (by exact nI_add k 1) (by decide) rfl ?_
            refine J_goto cx (tgt := 13) dX6_trustedRoots_44 (by decide) ?_
            refine J_L [1, 3, 4, 0, 5] rfl ?_
            exact ih (k + 1) (by omega) (by omega)
  refine J_L [3, 2, 1, 0, 4] rfl ?_
  exact LP _ 0 (by omega) (Nat.lt_succ_self _)
set_option maxHeartbeats 4000000 in
set_option maxRecDepth 100000 in
theorem tX6_pendingOf (l : Launch) (D : va_G) (g : Nat → ClassId) (A : Nat → Prop) (ad : Nat → Nat → Nat) (κ : CS) (X : XT) (cs : Nat → CT) (lf : Nat → Int64) (pr : PT)  (h : Nat) (hS : ShX κ X) (hh : h < κ.2.2.1 1) : CtI l D g A yX6_pendingOf cX6_pendingOf 7 .int ({ frames := 0, cells := 0, slots := 0, locals := 0 } : Room) [.ref (ad 0 0), .ref (ad 2 h)] (iW ad g κ X cs lf pr) (nI (cnt (penB κ X h) (κ.2.2.1 0))) (iW ad g κ X cs lf pr) := by
  have hn := hS.1
  refine metJ (by decide) (Nat.le_of_ble_eq_true rfl) ?_
  intro p e s m args below meth c _ _ cx
  refine J_apart (fun hDD => ?_)
  refine J_iconst cx (v := nI 0) dX6_pendingOf_0 (by decide) ?_
  refine J_istore_n cx (L' := [(2, .int (nI 0)), (0, .ref (ad 0 0)), (1, .ref (ad 2 h))]) dX6_pendingOf_1 rfl (by decide) rfl ?_
  refine J_aload_n cx dX6_pendingOf_2 rfl 1 rfl ?_
  refine J_get cx (v := .ref (ad 0 1)) fX6_11 0 rfl rfl dX6_pendingOf_3 ?_
  refine J_astore_n cx (L' := [(3, .ref (ad 0 1)), (2, .int (nI 0)), (0, .ref (ad 0 0)), (1, .ref (ad 2 h))]) dX6_pendingOf_6 rfl (by decide) rfl ?_
  refine J_aload_n cx dX6_pendingOf_7 rfl 0 rfl ?_
  refine J_alen cx (v := nI 40) 1 rfl (t0 := 3) rfl rfl dX6_pendingOf_8 ?_
  refine J_istore cx (L' := [(4, .int (nI 40)), (3, .ref (ad 0 1)), (2, .int (nI 0)), (0, .ref (ad 0 0)), (1, .ref (ad 2 h))]) dX6_pendingOf_9 (by decide) rfl ?_
  refine J_iconst cx (v := nI 0) dX6_pendingOf_11 (by decide) ?_
  refine J_istore cx (L' := [(5, .int (nI 0)), (4, .int (nI 40)), (3, .ref (ad 0 1)), (2, .int (nI 0)), (0, .ref (ad 0 0)), (1, .ref (ad 2 h))]) dX6_pendingOf_12 (by decide) rfl ?_
  have LP : ∀ (fu : Nat) (k : Nat), (k ≤ 40) → 40 - k < fu → J p l e ({ frames := 0, cells := 0, slots := 0, locals := 0 } : Room) s m args below meth c D A 7 (MQ below (va_Qi (fun (r : Int32) (_ : Unit) => r = (nI (cnt (penB κ X h) (κ.2.2.1 0)))) (fun _ => PO D A (iW ad g κ X cs lf pr)) A) args s 0 0 A) 0 0 (iW ad g κ X cs lf pr) [(2, .int (nI (cnt (mdB (κ.2.2.1 0) (penB κ X h)) k))), (3, .ref (ad 0 1)), (4, .int (nI 40)), (5, .int (nI k)), (0, .ref (ad 0 0)), (1, .ref (ad 2 h))] 14 [] := by
    intro fu; induction fu with
    | zero => intro k hk hfu; exact absurd hfu (Nat.not_lt_zero _)
    | succ fu ih =>
      intro k hk hfu
      refine J_iload cx dX6_pendingOf_14 3 rfl ?_
      refine J_iload cx dX6_pendingOf_16 2 rfl ?_
      refine J_icmp_ge cx (tgt := 67) dX6_pendingOf_18 (by decide) (fun c_1 => ?_) (fun c_1 => ?_)
      · have c_1 := (nat_ic_ge (by omega) (by omega)).mp c_1
        have c_1d := decide_eq_true c_1
        refine J_iload_n cx dX6_pendingOf_67 rfl 0 rfl ?_
        exact J_iret cx rfl (u := ()) (by rw [show k = 40 from by omega, cnt_md 40 hn]) rfl (Nat.le_of_ble_eq_true rfl) (Nat.le_of_ble_eq_true rfl) dX6_pendingOf_68
      · have c_1 := (nat_ic_ge_f (by omega) (by omega)).mp c_1
        have c_1d := decide_eq_false (Nat.not_le.mpr c_1)
        refine J_aload_n cx dX6_pendingOf_21 rfl 1 rfl ?_
        refine J_iload cx dX6_pendingOf_22 3 rfl ?_
        refine J_aald cx (j := k) (f := rfa ad (made (κ.2.2.1 0))) 1 rfl rfl (by omega) (by decide) dX6_pendingOf_24 ?_
        refine J_astoreq cx (L' := [(6, va_rf (rfa ad (made (κ.2.2.1 0)) k)), (2, .int (nI (cnt (mdB (κ.2.2.1 0) (penB κ X h)) k))), (3, .ref (ad 0 1)), (4, .int (nI 40)), (5, .int (nI k)), (0, .ref (ad 0 0)), (1, .ref (ad 2 h))]) dX6_pendingOf_25 (by decide) rfl ?_
        refine J_aloadq cx dX6_pendingOf_27 0 rfl ?_
        refine J_ifnull cx (tgt := 61) dX6_pendingOf_29 (by decide) (fun c_2 => ?_) (fun y_3 c_2 => ?_)
        · have hno := made_none (rfa_none c_2)
          refine J_Le (L' := [(6, va_rf (rfa ad (made (κ.2.2.1 0)) k)), (2, .int (nI (cnt (mdB (κ.2.2.1 0) (penB κ X h)) (k + 1)))), (3, .ref (ad 0 1)), (4, .int (nI 40)), (5, .int (nI k)), (0, .ref (ad 0 0)), (1, .ref (ad 2 h))]) (by rw [← cnt_f (p := mdB (κ.2.2.1 0) (penB κ X h)) (k := k) (mdB_no hno)]; try rfl) ?_
          refine J_iinc cx (v := (nI (k + 1))) (L' := [(5, .int (nI (k + 1))), (6, va_rf (rfa ad (made (κ.2.2.1 0)) k)), (2, .int (nI (cnt (mdB (κ.2.2.1 0) (penB κ X h)) (k + 1)))), (3, .ref (ad 0 1)), (4, .int (nI 40)), (0, .ref (ad 0 0)), (1, .ref (ad 2 h))]) dX6_pendingOf_61 4 rfl (by exact nI_add k 1) (by decide) rfl ?_
          refine J_goto cx (tgt := 14) dX6_pendingOf_64 (by decide) ?_
          refine J_L [2, 3, 4, 0, 5, 6] rfl ?_
          exact ih (k + 1) (by omega) (by omega)
        · have c_2v := c_2
          obtain ⟨i, him, hiy⟩ := rfa_some c_2; obtain ⟨hi, hie⟩ := made_some him; have hie := hie.symm; subst hie; subst hiy
          refine J_Le (L' := [(6, .ref (ad 1 k)), (2, .int (nI (cnt (mdB (κ.2.2.1 0) (penB κ X h)) k))), (3, .ref (ad 0 1)), (4, .int (nI 40)), (5, .int (nI k)), (0, .ref (ad 0 0)), (1, .ref (ad 2 h))]) (by rw [c_2v]; rfl) ?_
          refine J_aload cx dX6_pendingOf_32 0 rfl ?_
          refine J_get cx (v := .ref (ad 2 (X.2.1 k))) fX6_135 (17 + k) (iG_c (by first | assumption | omega)) rfl dX6_pendingOf_34 ?_
          refine J_aload_n cx dX6_pendingOf_37 rfl 6 rfl ?_
          refine J_acmp_ne cx (rx := some (ad 2 (X.2.1 k))) (ry := some (ad 2 h)) (tgt := 61) dX6_pendingOf_38 (by decide) (fun c_4 => ?_) (fun c_4 => ?_)
          · have c_4 : ¬ X.2.1 k = h := fun z => c_4 (by rw [z])
            have c_4d := decide_eq_false c_4
            refine J_Le (L' := [(6, .ref (ad 1 k)), (2, .int (nI (cnt (mdB (κ.2.2.1 0) (penB κ X h)) (k + 1)))), (3, .ref (ad 0 1)), (4, .int (nI 40)), (5, .int (nI k)), (0, .ref (ad 0 0)), (1, .ref (ad 2 h))]) (by rw [← cnt_f (p := mdB (κ.2.2.1 0) (penB κ X h)) (k := k) ((mdB_in hi).trans (by simp [penB, c_1, c_1d, c_4d]))]; try rfl) ?_
            refine J_iinc cx (v := (nI (k + 1))) (L' := [(5, .int (nI (k + 1))), (6, .ref (ad 1 k)), (2, .int (nI (cnt (mdB (κ.2.2.1 0) (penB κ X h)) (k + 1)))), (3, .ref (ad 0 1)), (4, .int (nI 40)), (0, .ref (ad 0 0)), (1, .ref (ad 2 h))]) dX6_pendingOf_61 4 rfl (by exact nI_add k 1) (by decide) rfl ?_
            refine J_goto cx (tgt := 14) dX6_pendingOf_64 (by decide) ?_
            refine J_L [2, 3, 4, 0, 5, 6] rfl ?_
            exact ih (k + 1) (by omega) (by omega)
          · have c_4 : X.2.1 k = h := iG_ad2 hDD (hS.is hi) hh (Option.some.inj c_4)
            have c_4d := decide_eq_true c_4
            refine J_aload cx dX6_pendingOf_41 0 rfl ?_
            refine J_get cx (v := .int (zb (κ.2.1 3 k))) fX6_130 (17 + k) (iG_c (by first | assumption | omega)) rfl dX6_pendingOf_43 ?_
            refine J_ifz_eq cx (tgt := 61) dX6_pendingOf_46 (by decide) (fun c_5 => ?_) (fun c_5 => ?_)
            · refine J_Le (L' := [(6, .ref (ad 1 k)), (2, .int (nI (cnt (mdB (κ.2.2.1 0) (penB κ X h)) (k + 1)))), (3, .ref (ad 0 1)), (4, .int (nI 40)), (5, .int (nI k)), (0, .ref (ad 0 0)), (1, .ref (ad 2 h))]) (by rw [← cnt_f (p := mdB (κ.2.2.1 0) (penB κ X h)) (k := k) ((mdB_in hi).trans (by simp [penB, c_1, c_1d, c_4d, c_5]))]; try rfl) ?_
              refine J_iinc cx (v := (nI (k + 1))) (L' := [(5, .int (nI (k + 1))), (6, .ref (ad 1 k)), (2, .int (nI (cnt (mdB (κ.2.2.1 0) (penB κ X h)) (k + 1)))), (3, .ref (ad 0 1)), (4, .int (nI 40)), (0, .ref (ad 0 0)), (1, .ref (ad 2 h))]) dX6_pendingOf_61 4 rfl (by exact nI_add k 1) (by decide) rfl ?_
              refine J_goto cx (tgt := 14) dX6_pendingOf_64 (by decide) ?_
              refine J_L [2, 3, 4, 0, 5, 6] rfl ?_
              exact ih (k + 1) (by omega) (by omega)
            · refine J_aload cx dX6_pendingOf_49 0 rfl ?_
              refine J_get cx (v := .int (κ.1 9 k)) fX6_271 (17 + k) (iG_c (by first | assumption | omega)) rfl dX6_pendingOf_51 ?_
              refine J_iconst cx (v := (-1)) dX6_pendingOf_54 (by decide) ?_
              refine J_icmp_ne cx (tgt := 61) dX6_pendingOf_55 (by decide) (fun c_6 => ?_) (fun c_6 => ?_)
              · have c_6d := decide_eq_false c_6
                refine J_Le (L' := [(6, .ref (ad 1 k)), (2, .int (nI (cnt (mdB (κ.2.2.1 0) (penB κ X h)) (k + 1)))), (3, .ref (ad 0 1)), (4, .int (nI 40)), (5, .int (nI k)), (0, .ref (ad 0 0)), (1, .ref (ad 2 h))]) (by rw [← cnt_f (p := mdB (κ.2.2.1 0) (penB κ X h)) (k := k) ((mdB_in hi).trans (by simp [penB, c_1, c_1d, c_4d, c_5, c_6, c_6d]))]; try rfl) ?_
                refine J_iinc cx (v := (nI (k + 1))) (L' := [(5, .int (nI (k + 1))), (6, .ref (ad 1 k)), (2, .int (nI (cnt (mdB (κ.2.2.1 0) (penB κ X h)) (k + 1)))), (3, .ref (ad 0 1)), (4, .int (nI 40)), (0, .ref (ad 0 0)), (1, .ref (ad 2 h))]) dX6_pendingOf_61 4 rfl (by exact nI_add k 1) (by decide) rfl ?_
                refine J_goto cx (tgt := 14) dX6_pendingOf_64 (by decide) ?_
                refine J_L [2, 3, 4, 0, 5, 6] rfl ?_
                exact ih (k + 1) (by omega) (by omega)
              · have c_6d := decide_eq_true c_6
                refine J_iinc cx (v := (nI ((cnt (mdB (κ.2.2.1 0) (penB κ X h)) k) + 1))) (L' := [(2, .int (nI ((cnt (mdB (κ.2.2.1 0) (penB κ X h)) k) + 1))), (6, .ref (ad 1 k)), (3, .ref (ad 0 1)), (4, .int (nI 40)), (5, .int (nI k)), (0, .ref (ad 0 0)), (1, .ref (ad 2 h))]) dX6_pendingOf_58 1 rfl (by exact nI_add (cnt (mdB (κ.2.2.1 0) (penB κ X h)) k) 1) (by decide) rfl ?_
                refine J_Le (L' := [(2, .int (nI (cnt (mdB (κ.2.2.1 0) (penB κ X h)) (k + 1)))), (6, .ref (ad 1 k)), (3, .ref (ad 0 1)), (4, .int (nI 40)), (5, .int (nI k)), (0, .ref (ad 0 0)), (1, .ref (ad 2 h))]) (by rw [← cnt_t (p := mdB (κ.2.2.1 0) (penB κ X h)) (k := k) ((mdB_in hi).trans (by simp [penB, c_1, c_1d, c_4d, c_5, c_6d]))]; try rfl) ?_
                refine J_iinc cx (v := (nI (k + 1))) (L' := [(5, .int (nI (k + 1))), (2, .int (nI (cnt (mdB (κ.2.2.1 0) (penB κ X h)) (k + 1)))), (6, .ref (ad 1 k)), (3, .ref (ad 0 1)), (4, .int (nI 40)), (0, .ref (ad 0 0)), (1, .ref (ad 2 h))]) dX6_pendingOf_61 4 rfl (by exact nI_add k 1) (by decide) rfl ?_
                refine J_goto cx (tgt := 14) dX6_pendingOf_64 (by decide) ?_
                refine J_L [1, 3, 4, 0, 5, 6] rfl ?_
                exact ih (k + 1) (by omega) (by omega)
  refine J_L [3, 2, 1, 0, 4, 5] rfl ?_
  exact LP _ 0 (by omega) (Nat.lt_succ_self _)
set_option maxHeartbeats 4000000 in
set_option maxRecDepth 100000 in
theorem tX6_hasIssued (l : Launch) (D : va_G) (g : Nat → ClassId) (A : Nat → Prop) (ad : Nat → Nat → Nat) (κ : CS) (X : XT) (cs : Nat → CT) (lf : Nat → Int64) (pr : PT)  (h : Nat) (hS : ShX κ X) (hh : h < κ.2.2.1 1) : CtI l D g A yX6_hasIssued cX6_hasIssued 6 .boolean ({ frames := 1, cells := 0, slots := 0, locals := 20 } : Room) [.ref (ad 0 0), .ref (ad 2 h)] (iW ad g κ X cs lf pr) (zb (anyN (hisB κ X h) (κ.2.2.1 0))) (iW ad g κ X cs lf pr) := by
  have hn := hS.1
  refine metJ (by decide) (Nat.le_of_ble_eq_true rfl) ?_
  intro p e s m args below meth c _ _ cx
  refine J_apart (fun hDD => ?_)
  refine J_aload_n cx dX6_hasIssued_0 rfl 0 rfl ?_
  refine J_get cx (v := .ref (ad 0 1)) fX6_11 0 rfl rfl dX6_hasIssued_1 ?_
  refine J_astore_n cx (L' := [(2, .ref (ad 0 1)), (0, .ref (ad 0 0)), (1, .ref (ad 2 h))]) dX6_hasIssued_4 rfl (by decide) rfl ?_
  refine J_aload_n cx dX6_hasIssued_5 rfl 0 rfl ?_
  refine J_alen cx (v := nI 40) 1 rfl (t0 := 3) rfl rfl dX6_hasIssued_6 ?_
  refine J_istore_n cx (L' := [(3, .int (nI 40)), (2, .ref (ad 0 1)), (0, .ref (ad 0 0)), (1, .ref (ad 2 h))]) dX6_hasIssued_7 rfl (by decide) rfl ?_
  refine J_iconst cx (v := nI 0) dX6_hasIssued_8 (by decide) ?_
  refine J_istore cx (L' := [(4, .int (nI 0)), (3, .int (nI 40)), (2, .ref (ad 0 1)), (0, .ref (ad 0 0)), (1, .ref (ad 2 h))]) dX6_hasIssued_9 (by decide) rfl ?_
  have LP : ∀ (fu : Nat) (k : Nat), (k ≤ 40) → (anyN (mdB (κ.2.2.1 0) (hisB κ X h)) k = false) → 40 - k < fu → J p l e ({ frames := 1, cells := 0, slots := 0, locals := 20 } : Room) s m args below meth c D A 6 (MQ below (va_Qi (fun (r : Int32) (_ : Unit) => r = (zb (anyN (hisB κ X h) (κ.2.2.1 0)))) (fun _ => PO D A (iW ad g κ X cs lf pr)) A) args s 0 0 A) 0 0 (iW ad g κ X cs lf pr) [(2, .ref (ad 0 1)), (3, .int (nI 40)), (4, .int (nI k)), (0, .ref (ad 0 0)), (1, .ref (ad 2 h))] 11 [] := by
    intro fu; induction fu with
    | zero => intro k hk hno9 hfu; exact absurd hfu (Nat.not_lt_zero _)
    | succ fu ih =>
      intro k hk hno9 hfu
      refine J_iload cx dX6_hasIssued_11 2 rfl ?_
      refine J_iload_n cx dX6_hasIssued_13 rfl 1 rfl ?_
      refine J_icmp_ge cx (tgt := 53) dX6_hasIssued_14 (by decide) (fun c_1 => ?_) (fun c_1 => ?_)
      · have c_1 := (nat_ic_ge (by omega) (by omega)).mp c_1
        have c_1d := decide_eq_true c_1
        refine J_iconst cx (v := nI 0) dX6_hasIssued_53 (by decide) ?_
        exact J_zret cx rfl (u := ()) (rfl) (by rw [← any_md 40 hn, show 40 = k from by omega, hno9]; rfl) rfl (Nat.le_of_ble_eq_true rfl) (Nat.le_of_ble_eq_true rfl) dX6_hasIssued_54
      · have c_1 := (nat_ic_ge_f (by omega) (by omega)).mp c_1
        have c_1d := decide_eq_false (Nat.not_le.mpr c_1)
        refine J_aload_n cx dX6_hasIssued_17 rfl 0 rfl ?_
        refine J_iload cx dX6_hasIssued_18 2 rfl ?_
        refine J_aald cx (j := k) (f := rfa ad (made (κ.2.2.1 0))) 1 rfl rfl (by omega) (by decide) dX6_hasIssued_20 ?_
        refine J_astoreq cx (L' := [(5, va_rf (rfa ad (made (κ.2.2.1 0)) k)), (2, .ref (ad 0 1)), (3, .int (nI 40)), (4, .int (nI k)), (0, .ref (ad 0 0)), (1, .ref (ad 2 h))]) dX6_hasIssued_21 (by decide) rfl ?_
        refine J_aloadq cx dX6_hasIssued_23 0 rfl ?_
        refine J_ifnull cx (tgt := 47) dX6_hasIssued_25 (by decide) (fun c_2 => ?_) (fun y_3 c_2 => ?_)
        · have hno := made_none (rfa_none c_2)
          refine J_iinc cx (v := (nI (k + 1))) (L' := [(4, .int (nI (k + 1))), (5, va_rf (rfa ad (made (κ.2.2.1 0)) k)), (2, .ref (ad 0 1)), (3, .int (nI 40)), (0, .ref (ad 0 0)), (1, .ref (ad 2 h))]) dX6_hasIssued_47 3 rfl (by exact nI_add k 1) (by decide) rfl ?_
          refine J_goto cx (tgt := 11) dX6_hasIssued_50 (by decide) ?_
          refine J_L [2, 3, 0, 4, 5] rfl ?_
          exact ih (k + 1) (by omega) (by show (anyN _ k || _) = false; rw [hno9, mdB_no hno]; rfl) (by omega)
        · have c_2v := c_2
          obtain ⟨i, him, hiy⟩ := rfa_some c_2; obtain ⟨hi, hie⟩ := made_some him; have hie := hie.symm; subst hie; subst hiy
          refine J_Le (L' := [(5, .ref (ad 1 k)), (2, .ref (ad 0 1)), (3, .int (nI 40)), (4, .int (nI k)), (0, .ref (ad 0 0)), (1, .ref (ad 2 h))]) (by rw [c_2v]; rfl) ?_
          refine J_aload cx dX6_hasIssued_28 0 rfl ?_
          refine J_get cx (v := .ref (ad 2 (X.2.1 k))) fX6_135 (17 + k) (iG_c (by first | assumption | omega)) rfl dX6_hasIssued_30 ?_
          refine J_aload_n cx dX6_hasIssued_33 rfl 5 rfl ?_
          refine J_acmp_ne cx (rx := some (ad 2 (X.2.1 k))) (ry := some (ad 2 h)) (tgt := 47) dX6_hasIssued_34 (by decide) (fun c_4 => ?_) (fun c_4 => ?_)
          · have c_4 : ¬ X.2.1 k = h := fun z => c_4 (by rw [z])
            have c_4d := decide_eq_false c_4
            refine J_iinc cx (v := (nI (k + 1))) (L' := [(4, .int (nI (k + 1))), (5, .ref (ad 1 k)), (2, .ref (ad 0 1)), (3, .int (nI 40)), (0, .ref (ad 0 0)), (1, .ref (ad 2 h))]) dX6_hasIssued_47 3 rfl (by exact nI_add k 1) (by decide) rfl ?_
            refine J_goto cx (tgt := 11) dX6_hasIssued_50 (by decide) ?_
            refine J_L [2, 3, 0, 4, 5] rfl ?_
            exact ih (k + 1) (by omega) (by show (anyN _ k || _) = false; rw [hno9, mdB_in hi, show hisB κ X h k = false from by simp [hisB, c_1, c_1d, c_4d]]; rfl) (by omega)
          · have c_4 : X.2.1 k = h := iG_ad2 hDD (hS.is hi) hh (Option.some.inj c_4)
            have c_4d := decide_eq_true c_4
            refine J_aload cx dX6_hasIssued_37 0 rfl ?_
            refine J_callVi cx kX6_115 (As := []) (tX0_isRoot l D g A ad κ X cs lf pr  k hS hi) ⟨rfl, rfl, by decide, by decide⟩ ⟨by decide, by decide⟩ rfl (17 + k) (iG_c (by first | assumption | omega)) rfl rfl (Nat.le_of_ble_eq_true rfl) dX6_hasIssued_39 ?_
            intro _ _ hr; cases hr
            refine J_ifz_ne cx (tgt := 47) dX6_hasIssued_42 (by decide) (fun c_5 => ?_) (fun c_5 => ?_)
            · have c_5 := of_decide_eq_true c_5
              refine J_iinc cx (v := (nI (k + 1))) (L' := [(4, .int (nI (k + 1))), (5, .ref (ad 1 k)), (2, .ref (ad 0 1)), (3, .int (nI 40)), (0, .ref (ad 0 0)), (1, .ref (ad 2 h))]) dX6_hasIssued_47 3 rfl (by exact nI_add k 1) (by decide) rfl ?_
              refine J_goto cx (tgt := 11) dX6_hasIssued_50 (by decide) ?_
              refine J_L [2, 3, 0, 4, 5] rfl ?_
              exact ih (k + 1) (by omega) (by show (anyN _ k || _) = false; rw [hno9, mdB_in hi, show hisB κ X h k = false from by simp [hisB, c_1, c_1d, c_4d, c_5]]; rfl) (by omega)
            · have c_5 := of_decide_eq_false c_5
              refine J_iconst cx (v := nI 1) dX6_hasIssued_45 (by decide) ?_
              exact J_zret cx rfl (u := ()) (rfl) (by rw [anyN_true (k := k) hi (by simp [hisB, c_1, c_1d, c_4d, c_5])]; rfl) rfl (Nat.le_of_ble_eq_true rfl) (Nat.le_of_ble_eq_true rfl) dX6_hasIssued_46
  refine J_L [2, 1, 0, 3, 4] rfl ?_
  exact LP _ 0 (by omega) rfl (Nat.lt_succ_self _)
