set_option maxHeartbeats 4000000 in
set_option maxRecDepth 100000 in
theorem tX7_candidateAt (l : Launch) (D : va_G) (g : Nat → ClassId) (A : Nat → Prop) (ad : Nat → Nat) (κ : CS) (th : Int32) (ch : Nat → Nat) (cm rm : Nat) (row : Nat → Int64)  (xc : Int32) (rk : Int32) (hn : κ.2.2.1 0 ≤ 40) : CtI l D g A yX7_candidateAt cX7_candidateAt 4 .int ({ frames := 3, cells := 0, slots := 0, locals := 64 } : Room) [.ref (ad 0), .int xc, .int rk] (mW ad g κ th ch cm rm row) ((opCandidateAt κ xc rk).2) (mW ad g κ (nI (opCandidateAt κ xc rk).1) ch cm rm row) := by
  refine metJ (by decide) (Nat.le_of_ble_eq_true rfl) ?_
  intro p e s m args below meth c _ _ cx
  refine J_aload_n cx dX7_candidateAt_0 rfl 0 rfl ?_
  refine J_iload_n cx dX7_candidateAt_1 rfl 1 rfl ?_
  refine J_callVi cx kX7_99 (As := [.int xc]) (tX7_isNone l D g A ad κ th ch cm rm row  xc (by first | assumption | omega)) ⟨rfl, rfl, by decide, by decide⟩ ⟨by decide, by decide⟩ rfl 0 rfl rfl rfl (Nat.le_of_ble_eq_true rfl) dX7_candidateAt_2 ?_
  intro _ _ hr; cases hr
  refine J_ifz_eq cx (tgt := 10) dX7_candidateAt_5 (by decide) (fun c_1 => ?_) (fun c_1 => ?_)
  · have c_1 := bn_f c_1
    obtain ⟨j, hj, hxj⟩ := inR_spec c_1 (by omega)
    subst hxj
    have hjc : (nI j).toNatClampNeg = j := nI_clamp (by omega)
    refine J_aload_n cx dX7_candidateAt_10 rfl 0 rfl ?_
    refine J_iload_n cx dX7_candidateAt_11 rfl 1 rfl ?_
    refine J_iload_n cx dX7_candidateAt_12 rfl 2 rfl ?_
    refine J_callVi cx kX7_132 (As := [.int (nI j), .int rk]) (tX7_candidate l D g A ad κ (if inR (κ.2.2.1 0) (nI j) then nI 0 else nI 1) ch cm rm row  j rk (by first | assumption | omega) (by first | assumption | omega)) ⟨rfl, rfl, by decide, by decide⟩ ⟨by decide, by decide⟩ rfl 0 rfl rfl rfl (Nat.le_of_ble_eq_true rfl) dX7_candidateAt_13 ?_
    intro _ _ hr; cases hr
    rcases hf : fstN (nthB κ j rk) (κ.2.2.1 0) with _ | k
    · refine J_top (v' := .int (-1)) rfl ?_
      refine J_istore_n cx (L' := [(3, .int (-1)), (0, .ref (ad 0)), (1, .int (nI j)), (2, .int rk)]) dX7_candidateAt_16 rfl (by decide) rfl ?_
      refine J_aload_n cx dX7_candidateAt_17 rfl 1 rfl ?_
      refine J_iload_n cx dX7_candidateAt_18 rfl 0 rfl ?_
      refine J_if_ge cx (tgt := 26) dX7_candidateAt_19 (by decide) (fun h => absurd h (by decide)) (fun _ => ?_)
      refine J_iconst cx (v := nI 1) dX7_candidateAt_22 (by decide) ?_
      refine J_goto cx (tgt := 27) dX7_candidateAt_23 (by decide) ?_
      refine J_iconst cx (v := nI 2) dX7_candidateAt_27 (by decide) ?_
      refine J_callVi cx kX7_78 (As := [.int (nI 1), .int (nI 2)]) (tX7_isThrown l D g A ad κ (if inR (κ.2.2.1 0) (nI j) then nI 0 else nI 1) ch cm rm row  true (nI 2) ) ⟨rfl, rfl, by decide, by decide⟩ ⟨by decide, by decide⟩ rfl 0 rfl rfl rfl (Nat.le_of_ble_eq_true rfl) dX7_candidateAt_28 ?_
      intro _ _ hr; cases hr
      refine J_ifz_eq cx (tgt := 38) dX7_candidateAt_31 (by decide) (fun h => absurd h (by decide)) (fun _ => ?_)
      refine J_iconst cx (v := nI 0) dX7_candidateAt_34 (by decide) ?_
      refine J_goto cx (tgt := 39) dX7_candidateAt_35 (by decide) ?_
      exact J_iret cx rfl (u := ()) (by simp only [opCandidateAt, Bool.and_true, Bool.true_and, Bool.and_false, Bool.false_and, Bool.or_true, Bool.true_or, Bool.or_false, Bool.false_or, Bool.not_true, Bool.not_false, if_true, if_false, Bool.false_eq_true, decide_true, decide_false, ite_true, ite_false, ne_eq, not_true_eq_false, not_false_eq_true, xj, c_1, hjc, hf]; try rfl) (by simp only [opCandidateAt, Bool.and_true, Bool.true_and, Bool.and_false, Bool.false_and, Bool.or_true, Bool.true_or, Bool.or_false, Bool.false_or, Bool.not_true, Bool.not_false, if_true, if_false, Bool.false_eq_true, decide_true, decide_false, ite_true, ite_false, ne_eq, not_true_eq_false, not_false_eq_true, xj, c_1, hjc, hf]; try rfl) (Nat.le_of_ble_eq_true rfl) (Nat.le_of_ble_eq_true rfl) dX7_candidateAt_39
    · refine J_top (v' := .int (nI k)) rfl ?_
      obtain ⟨hkn, hkq, -⟩ := fstN_spec hf
      refine J_istore_n cx (L' := [(3, .int (nI k)), (0, .ref (ad 0)), (1, .int (nI j)), (2, .int rk)]) dX7_candidateAt_16 rfl (by decide) rfl ?_
      refine J_aload_n cx dX7_candidateAt_17 rfl 1 rfl ?_
      refine J_iload_n cx dX7_candidateAt_18 rfl 0 rfl ?_
      refine J_if_ge cx (tgt := 26) dX7_candidateAt_19 (by decide) (fun _ => ?_) (fun h => absurd (nI_pos' (by omega)) h)
      refine J_iconst cx (v := nI 0) dX7_candidateAt_26 (by decide) ?_
      refine J_iconst cx (v := nI 2) dX7_candidateAt_27 (by decide) ?_
      refine J_callVi cx kX7_78 (As := [.int (nI 0), .int (nI 2)]) (tX7_isThrown l D g A ad κ (if inR (κ.2.2.1 0) (nI j) then nI 0 else nI 1) ch cm rm row  false (nI 2) ) ⟨rfl, rfl, by decide, by decide⟩ ⟨by decide, by decide⟩ rfl 0 rfl rfl rfl (Nat.le_of_ble_eq_true rfl) dX7_candidateAt_28 ?_
      intro _ _ hr; cases hr
      refine J_ifz_eq cx (tgt := 38) dX7_candidateAt_31 (by decide) (fun _ => ?_) (fun h => absurd h (by decide))
      refine J_iload_n cx dX7_candidateAt_38 rfl 0 rfl ?_
      exact J_iret cx rfl (u := ()) (by simp only [opCandidateAt, Bool.and_true, Bool.true_and, Bool.and_false, Bool.false_and, Bool.or_true, Bool.true_or, Bool.or_false, Bool.false_or, Bool.not_true, Bool.not_false, if_true, if_false, Bool.false_eq_true, decide_true, decide_false, ite_true, ite_false, ne_eq, not_true_eq_false, not_false_eq_true, xj, c_1, hjc, hf]; try rfl) (by simp only [opCandidateAt, Bool.and_true, Bool.true_and, Bool.and_false, Bool.false_and, Bool.or_true, Bool.true_or, Bool.or_false, Bool.false_or, Bool.not_true, Bool.not_false, if_true, if_false, Bool.false_eq_true, decide_true, decide_false, ite_true, ite_false, ne_eq, not_true_eq_false, not_false_eq_true, xj, c_1, hjc, hf]; try rfl) (Nat.le_of_ble_eq_true rfl) (Nat.le_of_ble_eq_true rfl) dX7_candidateAt_39
  · have c_1 := bn_t c_1
    refine J_iconst cx (v := nI 0) dX7_candidateAt_8 (by decide) ?_
    exact J_iret cx rfl (u := ()) (by simp only [opCandidateAt, Bool.and_true, Bool.true_and, Bool.and_false, Bool.false_and, Bool.or_true, Bool.true_or, Bool.or_false, Bool.false_or, Bool.not_true, Bool.not_false, if_true, if_false, Bool.false_eq_true, decide_true, decide_false, ite_true, ite_false, ne_eq, not_true_eq_false, not_false_eq_true, xj, c_1]; try rfl) (by simp only [opCandidateAt, Bool.and_true, Bool.true_and, Bool.and_false, Bool.false_and, Bool.or_true, Bool.true_or, Bool.or_false, Bool.false_or, Bool.not_true, Bool.not_false, if_true, if_false, Bool.false_eq_true, decide_true, decide_false, ite_true, ite_false, ne_eq, not_true_eq_false, not_false_eq_true, xj, c_1]; try rfl) (Nat.le_of_ble_eq_true rfl) (Nat.le_of_ble_eq_true rfl) dX7_candidateAt_9
set_option maxHeartbeats 4000000 in
set_option maxRecDepth 100000 in
theorem tX7_reached (l : Launch) (D : va_G) (g : Nat → ClassId) (A : Nat → Prop) (ad : Nat → Nat) (κ : CS) (th : Int32) (ch : Nat → Nat) (cm rm : Nat) (row : Nat → Int64)   (hI : InvM κ) : CtI l D g A yX7_reached cX7_reached 1 .int ({ frames := 1, cells := 0, slots := 0, locals := 22 } : Room) [.ref (ad 0)] (mW ad g κ th ch cm rm row) ((opReached κ).2) (mW ad g κ (nI (opReached κ).1) ch cm rm row) := by
  have hn := hI.1
  have hw7 := hI.2.2.2.2.2.1
  refine metJ (by decide) (Nat.le_of_ble_eq_true rfl) ?_
  intro p e s m args below meth c _ _ cx
  refine J_aload_n cx dX7_reached_0 rfl 0 rfl ?_
  refine J_aload_n cx dX7_reached_1 rfl 0 rfl ?_
  refine J_get cx (v := .int (nI (κ.2.2.1 3))) fX7_165 0 rfl rfl dX7_reached_2 ?_
  refine J_if_ne cx (tgt := 12) dX7_reached_5 (by decide) (fun c_1 => ?_) (fun c_1 => ?_)
  · have c_1 := (nat_if_ne (by omega)).mp c_1
    have c_1d := decide_eq_false c_1
    refine J_iconst cx (v := nI 0) dX7_reached_12 (by decide) ?_
    refine J_iconst cx (v := nI 1) dX7_reached_13 (by decide) ?_
    refine J_callVi cx kX7_78 (As := [.int (nI 0), .int (nI 1)]) (tX7_isThrown l D g A ad κ th ch cm rm row  false (nI 1) ) ⟨rfl, rfl, by decide, by decide⟩ ⟨by decide, by decide⟩ rfl 0 rfl rfl rfl (Nat.le_of_ble_eq_true rfl) dX7_reached_14 ?_
    intro _ _ hr; cases hr
    refine J_ifz_eq cx (tgt := 24) dX7_reached_17 (by decide) (fun _ => ?_) (fun h => absurd h (by decide))
    have hwn := hI.2.2.2.2.2.2 (κ.2.2.1 3 - 1) (by omega)
    refine J_aload_n cx dX7_reached_24 rfl 0 rfl ?_
    refine J_get cx (v := .ref (ad 16)) fX7_56 0 rfl rfl dX7_reached_25 ?_
    refine J_aload_n cx dX7_reached_28 rfl 0 rfl ?_
    refine J_get cx (v := .int (nI (κ.2.2.1 3))) fX7_165 0 rfl rfl dX7_reached_29 ?_
    refine J_iconst cx (v := nI 1) dX7_reached_32 (by decide) ?_
    refine J_isub cx dX7_reached_33 ?_
    refine J_top (v' := .int (nI ((κ.2.2.1 3) - 1))) (congrArg Value.int (pk_sub (by omega))) ?_
    refine J_iald cx (j := ((κ.2.2.1 3) - 1)) (f := fun i => nI (κ.2.2.2.1 i)) 16 rfl rfl (by omega) (by decide) dX7_reached_34 ?_
    exact J_iret cx rfl (u := ()) (by simp only [opReached, Bool.and_true, Bool.true_and, Bool.and_false, Bool.false_and, Bool.or_true, Bool.true_or, Bool.or_false, Bool.false_or, Bool.not_true, Bool.not_false, if_true, if_false, Bool.false_eq_true, decide_true, decide_false, ite_true, ite_false, ne_eq, not_true_eq_false, not_false_eq_true, xj, c_1, c_1d]; try rfl) (by simp only [opReached, Bool.and_true, Bool.true_and, Bool.and_false, Bool.false_and, Bool.or_true, Bool.true_or, Bool.or_false, Bool.false_or, Bool.not_true, Bool.not_false, if_true, if_false, Bool.false_eq_true, decide_true, decide_false, ite_true, ite_false, ne_eq, not_true_eq_false, not_false_eq_true, xj, c_1, c_1d]; try rfl) (Nat.le_of_ble_eq_true rfl) (Nat.le_of_ble_eq_true rfl) dX7_reached_35
  · have c_1 := (nat_if_ne_f (by omega)).mp c_1
    have c_1d := decide_eq_true c_1
    refine J_iconst cx (v := nI 1) dX7_reached_8 (by decide) ?_
    refine J_goto cx (tgt := 13) dX7_reached_9 (by decide) ?_
    refine J_iconst cx (v := nI 1) dX7_reached_13 (by decide) ?_
    refine J_callVi cx kX7_78 (As := [.int (nI 1), .int (nI 1)]) (tX7_isThrown l D g A ad κ th ch cm rm row  true (nI 1) ) ⟨rfl, rfl, by decide, by decide⟩ ⟨by decide, by decide⟩ rfl 0 rfl rfl rfl (Nat.le_of_ble_eq_true rfl) dX7_reached_14 ?_
    intro _ _ hr; cases hr
    refine J_ifz_eq cx (tgt := 24) dX7_reached_17 (by decide) (fun h => absurd h (by decide)) (fun _ => ?_)
    refine J_iconst cx (v := nI 0) dX7_reached_20 (by decide) ?_
    refine J_goto cx (tgt := 35) dX7_reached_21 (by decide) ?_
    exact J_iret cx rfl (u := ()) (by simp only [opReached, Bool.and_true, Bool.true_and, Bool.and_false, Bool.false_and, Bool.or_true, Bool.true_or, Bool.or_false, Bool.false_or, Bool.not_true, Bool.not_false, if_true, if_false, Bool.false_eq_true, decide_true, decide_false, ite_true, ite_false, ne_eq, not_true_eq_false, not_false_eq_true, xj, c_1d]; try rfl) (by simp only [opReached, Bool.and_true, Bool.true_and, Bool.and_false, Bool.false_and, Bool.or_true, Bool.true_or, Bool.or_false, Bool.false_or, Bool.not_true, Bool.not_false, if_true, if_false, Bool.false_eq_true, decide_true, decide_false, ite_true, ite_false, ne_eq, not_true_eq_false, not_false_eq_true, xj, c_1d]; try rfl) (Nat.le_of_ble_eq_true rfl) (Nat.le_of_ble_eq_true rfl) dX7_reached_35
set_option maxHeartbeats 4000000 in
set_option maxRecDepth 100000 in
theorem tX7_isThrough (l : Launch) (D : va_G) (g : Nat → ClassId) (A : Nat → Prop) (ad : Nat → Nat) (κ : CS) (th : Int32) (ch : Nat → Nat) (cm rm : Nat) (row : Nat → Int64)   (hI : InvM κ) : CtI l D g A yX7_isThrough cX7_isThrough 1 .boolean ({ frames := 0, cells := 0, slots := 0, locals := 0 } : Room) [.ref (ad 0)] (mW ad g κ th ch cm rm row) (zb (thrB κ)) (mW ad g κ (nI 0) ch cm rm row) := by
  have hn := hI.1
  have hw7 := hI.2.2.2.2.2.1
  refine metJ (by decide) (Nat.le_of_ble_eq_true rfl) ?_
  intro p e s m args below meth c _ _ cx
  refine J_aload_n cx dX7_isThrough_0 rfl 0 rfl ?_
  refine J_iconst cx (v := nI 0) dX7_isThrough_1 (by decide) ?_
  refine J_put cx (ws' := (mW ad g κ (nI 0) ch cm rm row)) fX7_63 ⟨tyX7_ok, nmX7, tyX7_ok 24 (by decide)⟩ rfl 0 rfl rfl rfl (Nat.le_of_ble_eq_true rfl) rfl dX7_isThrough_2 ?_
  refine J_aload_n cx dX7_isThrough_5 rfl 0 rfl ?_
  refine J_get cx (v := .int (nI (κ.2.2.1 3))) fX7_165 0 rfl rfl dX7_isThrough_6 ?_
  refine J_if_le cx (tgt := 54) dX7_isThrough_9 (by decide) (fun c_1 => ?_) (fun c_1 => ?_)
  · have c_1 := (nat_if_le (by omega)).mp c_1
    refine J_iconst cx (v := nI 0) dX7_isThrough_54 (by decide) ?_
    exact J_zret cx rfl (u := ()) (rfl) (by simp [thrB, zb, c_1]) rfl (Nat.le_of_ble_eq_true rfl) (Nat.le_of_ble_eq_true rfl) dX7_isThrough_55
  · have c_1 := (nat_if_le_f (by omega)).mp c_1
    have hw0 : decide (κ.2.2.1 3 = 0) = false := decide_eq_false (by omega)
    have hwn := hI.2.2.2.2.2.2 (κ.2.2.1 3 - 1) (by omega)
    refine J_aload_n cx dX7_isThrough_12 rfl 0 rfl ?_
    refine J_get cx (v := .ref (ad 12)) fX7_44 0 rfl rfl dX7_isThrough_13 ?_
    refine J_aload_n cx dX7_isThrough_16 rfl 0 rfl ?_
    refine J_get cx (v := .ref (ad 16)) fX7_56 0 rfl rfl dX7_isThrough_17 ?_
    refine J_aload_n cx dX7_isThrough_20 rfl 0 rfl ?_
    refine J_get cx (v := .int (nI (κ.2.2.1 3))) fX7_165 0 rfl rfl dX7_isThrough_21 ?_
    refine J_iconst cx (v := nI 1) dX7_isThrough_24 (by decide) ?_
    refine J_isub cx dX7_isThrough_25 ?_
    refine J_top (v' := .int (nI ((κ.2.2.1 3) - 1))) (congrArg Value.int (pk_sub (by omega))) ?_
    refine J_iald cx (j := ((κ.2.2.1 3) - 1)) (f := fun i => nI (κ.2.2.2.1 i)) 16 rfl rfl (by omega) (by decide) dX7_isThrough_26 ?_
    refine J_zald cx (j := (κ.2.2.2.1 ((κ.2.2.1 3) - 1))) (f := fun i => zb (κ.2.1 1 i)) 12 rfl rfl (by omega) (by decide) dX7_isThrough_27 ?_
    refine J_ifz_eq cx (tgt := 54) dX7_isThrough_28 (by decide) (fun c_2 => ?_) (fun c_2 => ?_)
    · refine J_iconst cx (v := nI 0) dX7_isThrough_54 (by decide) ?_
      exact J_zret cx rfl (u := ()) (rfl) (by simp [thrB, zb, c_1, hw0, c_2]) rfl (Nat.le_of_ble_eq_true rfl) (Nat.le_of_ble_eq_true rfl) dX7_isThrough_55
    · refine J_aload_n cx dX7_isThrough_31 rfl 0 rfl ?_
      refine J_get cx (v := .ref (ad 13)) fX7_47 0 rfl rfl dX7_isThrough_32 ?_
      refine J_aload_n cx dX7_isThrough_35 rfl 0 rfl ?_
      refine J_get cx (v := .ref (ad 16)) fX7_56 0 rfl rfl dX7_isThrough_36 ?_
      refine J_aload_n cx dX7_isThrough_39 rfl 0 rfl ?_
      refine J_get cx (v := .int (nI (κ.2.2.1 3))) fX7_165 0 rfl rfl dX7_isThrough_40 ?_
      refine J_iconst cx (v := nI 1) dX7_isThrough_43 (by decide) ?_
      refine J_isub cx dX7_isThrough_44 ?_
      refine J_top (v' := .int (nI ((κ.2.2.1 3) - 1))) (congrArg Value.int (pk_sub (by omega))) ?_
      refine J_iald cx (j := ((κ.2.2.1 3) - 1)) (f := fun i => nI (κ.2.2.2.1 i)) 16 rfl rfl (by omega) (by decide) dX7_isThrough_45 ?_
      refine J_zald cx (j := (κ.2.2.2.1 ((κ.2.2.1 3) - 1))) (f := fun i => zb (κ.2.1 2 i)) 13 rfl rfl (by omega) (by decide) dX7_isThrough_46 ?_
      refine J_ifz_eq cx (tgt := 54) dX7_isThrough_47 (by decide) (fun c_3 => ?_) (fun c_3 => ?_)
      · refine J_iconst cx (v := nI 0) dX7_isThrough_54 (by decide) ?_
        exact J_zret cx rfl (u := ()) (rfl) (by simp [thrB, zb, c_1, hw0, c_2, c_3]) rfl (Nat.le_of_ble_eq_true rfl) (Nat.le_of_ble_eq_true rfl) dX7_isThrough_55
      · refine J_iconst cx (v := nI 1) dX7_isThrough_50 (by decide) ?_
        refine J_goto cx (tgt := 55) dX7_isThrough_51 (by decide) ?_
        exact J_zret cx rfl (u := ()) (rfl) (by simp [thrB, zb, c_1, hw0, c_2, c_3]) rfl (Nat.le_of_ble_eq_true rfl) (Nat.le_of_ble_eq_true rfl) dX7_isThrough_55
set_option maxHeartbeats 4000000 in
set_option maxRecDepth 100000 in
theorem tX7_begin (l : Launch) (D : va_G) (g : Nat → ClassId) (A : Nat → Prop) (ad : Nat → Nat) (κ : CS) (th : Int32) (ch : Nat → Nat) (cm rm : Nat) (row : Nat → Int64)  (xc : Int32) (dy : Int32) (hn : κ.2.2.1 0 ≤ 40) : CtI l D g A yX7_begin cX7_begin 3 .char ({ frames := 4, cells := 0, slots := 0, locals := 86 } : Room) [.ref (ad 0), .int xc, .int dy] (mW ad g κ th ch cm rm row) ((opBegin κ xc dy).2.1) (mW ad g ((opBegin κ xc dy).2.2) (nI (opBegin κ xc dy).1) ch cm rm row) := by
  refine metJ (by decide) (Nat.le_of_ble_eq_true rfl) ?_
  intro p e s m args below meth c _ _ cx
  refine J_aload_n cx dX7_begin_0 rfl 0 rfl ?_
  refine J_iload_n cx dX7_begin_1 rfl 1 rfl ?_
  refine J_iload_n cx dX7_begin_2 rfl 2 rfl ?_
  refine J_callVi cx kX7_120 (As := [.int xc, .int dy]) (tX7_isWrong l D g A ad κ th ch cm rm row  xc dy (by first | assumption | omega)) ⟨rfl, rfl, by decide, by decide⟩ ⟨by decide, by decide⟩ rfl 0 rfl rfl rfl (Nat.le_of_ble_eq_true rfl) dX7_begin_3 ?_
  intro _ _ hr; cases hr
  refine J_ifz_eq cx (tgt := 11) dX7_begin_6 (by decide) (fun c_1 => ?_) (fun c_1 => ?_)
  · have c_1 := bn_f c_1
    have c_1 := of_decide_eq_true c_1
    obtain ⟨j, hj, hxj, hdy⟩ := wrong_0 c_1 hn; subst hxj
    have hjc : (nI j).toNatClampNeg = j := nI_clamp (by omega)
    have hdyd := decide_eq_false hdy
    refine J_aload_n cx dX7_begin_11 rfl 0 rfl ?_
    refine J_iload_n cx dX7_begin_12 rfl 1 rfl ?_
    refine J_iload_n cx dX7_begin_13 rfl 2 rfl ?_
    refine J_callVi cx kX7_149 (As := [.int (nI j), .int dy]) (tX7_canBegin l D g A ad κ (nI (wrongC κ (nI j) dy)) ch cm rm row  j dy (by first | assumption | omega)) ⟨rfl, rfl, by decide, by decide⟩ ⟨by decide, by decide⟩ rfl 0 rfl rfl rfl (Nat.le_of_ble_eq_true rfl) dX7_begin_14 ?_
    intro _ _ hr; cases hr
    refine J_ifz_ne cx (tgt := 37) dX7_begin_17 (by decide) (fun c_2 => ?_) (fun c_2 => ?_)
    · refine J_aload_n cx dX7_begin_37 rfl 0 rfl ?_
      refine J_get cx (v := .ref (ad 16)) fX7_56 0 rfl rfl dX7_begin_38 ?_
      refine J_iconst cx (v := nI 0) dX7_begin_41 (by decide) ?_
      refine J_iload_n cx dX7_begin_42 rfl 1 rfl ?_
      refine J_iast cx (ws' := (mW ad g (κ.1, κ.2.1, κ.2.2.1, upn κ.2.2.2.1 0 j, κ.2.2.2.2) (nI (wrongC κ (nI j) dy)) ch cm rm row)) (j := 0) 16 rfl  rfl (by omega) (by decide) (by rw [upn_nI]; rfl) dX7_begin_43 ?_
      refine J_aload_n cx dX7_begin_44 rfl 0 rfl ?_
      refine J_iconst cx (v := nI 1) dX7_begin_45 (by decide) ?_
      refine J_put cx (ws' := (mW ad g (κ.1, κ.2.1, upn κ.2.2.1 3 1, upn κ.2.2.2.1 0 j, κ.2.2.2.2) (nI (wrongC κ (nI j) dy)) ch cm rm row)) fX7_165 ⟨tyX7_ok, nmX7, tyX7_ok 20 (by decide)⟩ rfl 0 rfl rfl rfl (Nat.le_of_ble_eq_true rfl) rfl dX7_begin_46 ?_
      refine J_aload_n cx dX7_begin_49 rfl 0 rfl ?_
      refine J_iload_n cx dX7_begin_50 rfl 2 rfl ?_
      refine J_put cx (ws' := (mW ad g (κ.1, κ.2.1, upn κ.2.2.1 3 1, upn κ.2.2.2.1 0 j, dy) (nI (wrongC κ (nI j) dy)) ch cm rm row)) fX7_168 ⟨tyX7_ok, nmX7, tyX7_ok 21 (by decide)⟩ rfl 0 rfl rfl rfl (Nat.le_of_ble_eq_true rfl) rfl dX7_begin_51 ?_
      refine J_bipush cx (v := nI 111) dX7_begin_54 (by decide) ?_
      exact J_zret cx rfl (u := ()) (by decide) (by simp only [opBegin, Bool.and_true, Bool.true_and, Bool.and_false, Bool.false_and, Bool.or_true, Bool.true_or, Bool.or_false, Bool.false_or, Bool.not_true, Bool.not_false, if_true, if_false, Bool.false_eq_true, decide_true, decide_false, ite_true, ite_false, ne_eq, not_true_eq_false, not_false_eq_true, xj, c_1, hjc, hdyd, c_2]; try rfl) (by simp only [opBegin, Bool.and_true, Bool.true_and, Bool.and_false, Bool.false_and, Bool.or_true, Bool.true_or, Bool.or_false, Bool.false_or, Bool.not_true, Bool.not_false, if_true, if_false, Bool.false_eq_true, decide_true, decide_false, ite_true, ite_false, ne_eq, not_true_eq_false, not_false_eq_true, xj, c_1, hjc, hdyd, c_2]; try rfl) (Nat.le_of_ble_eq_true rfl) (Nat.le_of_ble_eq_true rfl) dX7_begin_56
    · refine J_aload_n cx dX7_begin_20 rfl 0 rfl ?_
      refine J_iload_n cx dX7_begin_21 rfl 1 rfl ?_
      refine J_iload_n cx dX7_begin_22 rfl 2 rfl ?_
      refine J_callVi cx kX7_135 (As := [.int (nI j), .int dy]) (tX7_isValid l D g A ad κ (nI (wrongC κ (nI j) dy)) ch cm rm row  j dy (by first | assumption | omega)) ⟨rfl, rfl, by decide, by decide⟩ ⟨by decide, by decide⟩ rfl 0 rfl rfl rfl (Nat.le_of_ble_eq_true rfl) dX7_begin_23 ?_
      intro _ _ hr; cases hr
      refine J_ifz_eq cx (tgt := 34) dX7_begin_26 (by decide) (fun c_3 => ?_) (fun c_3 => ?_)
      · refine J_bipush cx (v := nI 116) dX7_begin_34 (by decide) ?_
        exact J_zret cx rfl (u := ()) (by decide) (by simp only [opBegin, Bool.and_true, Bool.true_and, Bool.and_false, Bool.false_and, Bool.or_true, Bool.true_or, Bool.or_false, Bool.false_or, Bool.not_true, Bool.not_false, if_true, if_false, Bool.false_eq_true, decide_true, decide_false, ite_true, ite_false, ne_eq, not_true_eq_false, not_false_eq_true, xj, c_1, hjc, hdyd, c_2, c_3]; try rfl) (by simp only [opBegin, Bool.and_true, Bool.true_and, Bool.and_false, Bool.false_and, Bool.or_true, Bool.true_or, Bool.or_false, Bool.false_or, Bool.not_true, Bool.not_false, if_true, if_false, Bool.false_eq_true, decide_true, decide_false, ite_true, ite_false, ne_eq, not_true_eq_false, not_false_eq_true, xj, c_1, hjc, hdyd, c_2, c_3]; try rfl) (Nat.le_of_ble_eq_true rfl) (Nat.le_of_ble_eq_true rfl) dX7_begin_36
      · refine J_bipush cx (v := nI 114) dX7_begin_29 (by decide) ?_
        refine J_goto cx (tgt := 36) dX7_begin_31 (by decide) ?_
        exact J_zret cx rfl (u := ()) (by decide) (by simp only [opBegin, Bool.and_true, Bool.true_and, Bool.and_false, Bool.false_and, Bool.or_true, Bool.true_or, Bool.or_false, Bool.false_or, Bool.not_true, Bool.not_false, if_true, if_false, Bool.false_eq_true, decide_true, decide_false, ite_true, ite_false, ne_eq, not_true_eq_false, not_false_eq_true, xj, c_1, hjc, hdyd, c_2, c_3]; try rfl) (by simp only [opBegin, Bool.and_true, Bool.true_and, Bool.and_false, Bool.false_and, Bool.or_true, Bool.true_or, Bool.or_false, Bool.false_or, Bool.not_true, Bool.not_false, if_true, if_false, Bool.false_eq_true, decide_true, decide_false, ite_true, ite_false, ne_eq, not_true_eq_false, not_false_eq_true, xj, c_1, hjc, hdyd, c_2, c_3]; try rfl) (Nat.le_of_ble_eq_true rfl) (Nat.le_of_ble_eq_true rfl) dX7_begin_36
  · have c_1 := bn_t c_1
    have c_1 := of_decide_eq_false c_1
    refine J_iconst cx (v := nI 0) dX7_begin_9 (by decide) ?_
    exact J_zret cx rfl (u := ()) (by decide) (by simp only [opBegin, Bool.and_true, Bool.true_and, Bool.and_false, Bool.false_and, Bool.or_true, Bool.true_or, Bool.or_false, Bool.false_or, Bool.not_true, Bool.not_false, if_true, if_false, Bool.false_eq_true, decide_true, decide_false, ite_true, ite_false, ne_eq, not_true_eq_false, not_false_eq_true, xj, c_1]; try rfl) (by simp only [opBegin, Bool.and_true, Bool.true_and, Bool.and_false, Bool.false_and, Bool.or_true, Bool.true_or, Bool.or_false, Bool.false_or, Bool.not_true, Bool.not_false, if_true, if_false, Bool.false_eq_true, decide_true, decide_false, ite_true, ite_false, ne_eq, not_true_eq_false, not_false_eq_true, xj, c_1]; try rfl) (Nat.le_of_ble_eq_true rfl) (Nat.le_of_ble_eq_true rfl) dX7_begin_10
set_option maxHeartbeats 4000000 in
set_option maxRecDepth 100000 in
theorem tX7_step (l : Launch) (D : va_G) (g : Nat → ClassId) (A : Nat → Prop) (ad : Nat → Nat) (κ : CS) (th : Int32) (ch : Nat → Nat) (cm rm : Nat) (row : Nat → Int64)  (rk : Int32) (hI : InvM κ) : CtI l D g A yX7_step cX7_step 4 .char ({ frames := 3, cells := 0, slots := 0, locals := 72 } : Room) [.ref (ad 0), .int rk] (mW ad g κ th ch cm rm row) ((opStep κ rk).2.1) (mW ad g ((opStep κ rk).2.2) (nI (opStep κ rk).1) ch cm rm row) := by
  have hn := hI.1
  have hw7 := hI.2.2.2.2.2.1
  refine metJ (by decide) (Nat.le_of_ble_eq_true rfl) ?_
  intro p e s m args below meth c _ _ cx
  refine J_aload_n cx dX7_step_0 rfl 0 rfl ?_
  refine J_aload_n cx dX7_step_1 rfl 0 rfl ?_
  refine J_get cx (v := .int (nI (κ.2.2.1 3))) fX7_165 0 rfl rfl dX7_step_2 ?_
  refine J_if_ne cx (tgt := 12) dX7_step_5 (by decide) (fun c_1 => ?_) (fun c_1 => ?_)
  · have c_1 := (nat_if_ne (by omega)).mp c_1
    have c_1d := decide_eq_false c_1
    refine J_iconst cx (v := nI 0) dX7_step_12 (by decide) ?_
    refine J_iconst cx (v := nI 1) dX7_step_13 (by decide) ?_
    refine J_callVi cx kX7_78 (As := [.int (nI 0), .int (nI 1)]) (tX7_isThrown l D g A ad κ th ch cm rm row  false (nI 1) ) ⟨rfl, rfl, by decide, by decide⟩ ⟨by decide, by decide⟩ rfl 0 rfl rfl rfl (Nat.le_of_ble_eq_true rfl) dX7_step_14 ?_
    intro _ _ hr; cases hr
    refine J_ifz_eq cx (tgt := 22) dX7_step_17 (by decide) (fun _ => ?_) (fun h => absurd h (by decide))
    have hwn := hI.2.2.2.2.2.2 (κ.2.2.1 3 - 1) (by omega)
    refine J_aload_n cx dX7_step_22 rfl 0 rfl ?_
    refine J_aload_n cx dX7_step_23 rfl 0 rfl ?_
    refine J_get cx (v := .ref (ad 16)) fX7_56 0 rfl rfl dX7_step_24 ?_
    refine J_aload_n cx dX7_step_27 rfl 0 rfl ?_
    refine J_get cx (v := .int (nI (κ.2.2.1 3))) fX7_165 0 rfl rfl dX7_step_28 ?_
    refine J_iconst cx (v := nI 1) dX7_step_31 (by decide) ?_
    refine J_isub cx dX7_step_32 ?_
    refine J_top (v' := .int (nI ((κ.2.2.1 3) - 1))) (congrArg Value.int (pk_sub (by omega))) ?_
    refine J_iald cx (j := ((κ.2.2.1 3) - 1)) (f := fun i => nI (κ.2.2.2.1 i)) 16 rfl rfl (by omega) (by decide) dX7_step_33 ?_
    refine J_iload_n cx dX7_step_34 rfl 1 rfl ?_
    refine J_callVi cx kX7_132 (As := [.int (nI (κ.2.2.2.1 ((κ.2.2.1 3) - 1))), .int rk]) (tX7_candidate l D g A ad κ (if false then (nI 1) else nI 0) ch cm rm row  (κ.2.2.2.1 ((κ.2.2.1 3) - 1)) rk hn (by omega)) ⟨rfl, rfl, by decide, by decide⟩ ⟨by decide, by decide⟩ rfl 0 rfl rfl rfl (Nat.le_of_ble_eq_true rfl) dX7_step_35 ?_
    intro _ _ hr; cases hr
    rcases hf : fstN (nthB κ (κ.2.2.2.1 (κ.2.2.1 3 - 1)) rk) (κ.2.2.1 0) with _ | k
    · refine J_top (v' := .int (-1)) rfl ?_
      refine J_istore_n cx (L' := [(2, .int (-1)), (0, .ref (ad 0)), (1, .int rk)]) dX7_step_38 rfl (by decide) rfl ?_
      refine J_aload_n cx dX7_step_39 rfl 1 rfl ?_
      refine J_iload_n cx dX7_step_40 rfl 0 rfl ?_
      refine J_if_ge cx (tgt := 48) dX7_step_41 (by decide) (fun h => absurd h (by decide)) (fun _ => ?_)
      refine J_iconst cx (v := nI 1) dX7_step_44 (by decide) ?_
      refine J_goto cx (tgt := 49) dX7_step_45 (by decide) ?_
      refine J_iconst cx (v := nI 2) dX7_step_49 (by decide) ?_
      refine J_callVi cx kX7_78 (As := [.int (nI 1), .int (nI 2)]) (tX7_isThrown l D g A ad κ (if false then (nI 1) else nI 0) ch cm rm row  true (nI 2) ) ⟨rfl, rfl, by decide, by decide⟩ ⟨by decide, by decide⟩ rfl 0 rfl rfl rfl (Nat.le_of_ble_eq_true rfl) dX7_step_50 ?_
      intro _ _ hr; cases hr
      refine J_ifz_eq cx (tgt := 58) dX7_step_53 (by decide) (fun h => absurd h (by decide)) (fun _ => ?_)
      refine J_iconst cx (v := nI 0) dX7_step_56 (by decide) ?_
      exact J_zret cx rfl (u := ()) ((pk_charN (by omega)).1) (by simp only [opStep, Bool.and_true, Bool.true_and, Bool.and_false, Bool.false_and, Bool.or_true, Bool.true_or, Bool.or_false, Bool.false_or, Bool.not_true, Bool.not_false, if_true, if_false, Bool.false_eq_true, decide_true, decide_false, ite_true, ite_false, ne_eq, not_true_eq_false, not_false_eq_true, xj, c_1, c_1d, hf]; try rfl) (by simp only [opStep, Bool.and_true, Bool.true_and, Bool.and_false, Bool.false_and, Bool.or_true, Bool.true_or, Bool.or_false, Bool.false_or, Bool.not_true, Bool.not_false, if_true, if_false, Bool.false_eq_true, decide_true, decide_false, ite_true, ite_false, ne_eq, not_true_eq_false, not_false_eq_true, xj, c_1, c_1d, hf]; try rfl) (Nat.le_of_ble_eq_true rfl) (Nat.le_of_ble_eq_true rfl) dX7_step_57
    · refine J_top (v' := .int (nI k)) rfl ?_
      obtain ⟨hkn, hkq, -⟩ := fstN_spec hf
      refine J_istore_n cx (L' := [(2, .int (nI k)), (0, .ref (ad 0)), (1, .int rk)]) dX7_step_38 rfl (by decide) rfl ?_
      refine J_aload_n cx dX7_step_39 rfl 1 rfl ?_
      refine J_iload_n cx dX7_step_40 rfl 0 rfl ?_
      refine J_if_ge cx (tgt := 48) dX7_step_41 (by decide) (fun _ => ?_) (fun h => absurd (nI_pos' (by omega)) h)
      refine J_iconst cx (v := nI 0) dX7_step_48 (by decide) ?_
      refine J_iconst cx (v := nI 2) dX7_step_49 (by decide) ?_
      refine J_callVi cx kX7_78 (As := [.int (nI 0), .int (nI 2)]) (tX7_isThrown l D g A ad κ (if false then (nI 1) else nI 0) ch cm rm row  false (nI 2) ) ⟨rfl, rfl, by decide, by decide⟩ ⟨by decide, by decide⟩ rfl 0 rfl rfl rfl (Nat.le_of_ble_eq_true rfl) dX7_step_50 ?_
      intro _ _ hr; cases hr
      refine J_ifz_eq cx (tgt := 58) dX7_step_53 (by decide) (fun _ => ?_) (fun h => absurd h (by decide))
      refine J_aload_n cx dX7_step_58 rfl 1 rfl ?_
      refine J_aload_n cx dX7_step_59 rfl 1 rfl ?_
      refine J_get cx (v := .ref (ad 16)) fX7_56 0 rfl rfl dX7_step_60 ?_
      refine J_aload_n cx dX7_step_63 rfl 1 rfl ?_
      refine J_get cx (v := .int (nI (κ.2.2.1 3))) fX7_165 0 rfl rfl dX7_step_64 ?_
      refine J_iload_n cx dX7_step_67 rfl 0 rfl ?_
      refine J_aload_n cx dX7_step_68 rfl 1 rfl ?_
      refine J_get cx (v := .int κ.2.2.2.2) fX7_168 0 rfl rfl dX7_step_69 ?_
      refine J_callVi cx kX7_142 (As := [.ref (ad 16), .int (nI (κ.2.2.1 3)), .int (nI k), .int κ.2.2.2.2]) (tX7_refusal_w l D g A ad κ (if false then (nI 2) else nI 0) ch cm rm row  (κ.2.2.1 3) k κ.2.2.2.2 hI (by omega) (by omega) hI.2.2.2.2.2.2 hkn) ⟨rfl, rfl, by decide, by decide⟩ ⟨by decide, by decide⟩ rfl 0 rfl rfl rfl (Nat.le_of_ble_eq_true rfl) dX7_step_72 ?_
      intro _ _ hr; cases hr
      have hrl := refC_le κ κ.2.2.2.1 (κ.2.2.1 3) k κ.2.2.2.2
      refine J_istore_n cx (L' := [(3, .int (nI (refC κ κ.2.2.2.1 (κ.2.2.1 3) k κ.2.2.2.2))), (2, .int (nI k)), (0, .ref (ad 0)), (1, .int rk)]) dX7_step_75 rfl (by decide) rfl ?_
      refine J_iload_n cx dX7_step_76 rfl 0 rfl ?_
      refine J_bipush cx (v := nI 111) dX7_step_77 (by decide) ?_
      refine J_icmp_ne cx (tgt := 102) dX7_step_79 (by decide) (fun c_7 => ?_) (fun c_7 => ?_)
      · have c_7 := (nat_ic_ne (by omega) (by omega)).mp c_7
        have c_7d := decide_eq_false c_7
        refine J_iload_n cx dX7_step_102 rfl 0 rfl ?_
        exact J_zret cx rfl (u := ()) ((pk_charN (by omega)).1) (by simp only [opStep, Bool.and_true, Bool.true_and, Bool.and_false, Bool.false_and, Bool.or_true, Bool.true_or, Bool.or_false, Bool.false_or, Bool.not_true, Bool.not_false, if_true, if_false, Bool.false_eq_true, decide_true, decide_false, ite_true, ite_false, ne_eq, not_true_eq_false, not_false_eq_true, xj, c_1, c_1d, hf, c_7, c_7d]; try rfl) (by simp only [opStep, Bool.and_true, Bool.true_and, Bool.and_false, Bool.false_and, Bool.or_true, Bool.true_or, Bool.or_false, Bool.false_or, Bool.not_true, Bool.not_false, if_true, if_false, Bool.false_eq_true, decide_true, decide_false, ite_true, ite_false, ne_eq, not_true_eq_false, not_false_eq_true, xj, c_1, c_1d, hf, c_7, c_7d]; try rfl) (Nat.le_of_ble_eq_true rfl) (Nat.le_of_ble_eq_true rfl) dX7_step_103
      · have c_7 := (nat_ic_ne_f (by omega) (by omega)).mp c_7
        have c_7d := decide_eq_true c_7
        refine J_Le (L' := [(3, .int (nI 111)), (2, .int (nI k)), (0, .ref (ad 0)), (1, .int rk)]) (by rw [c_7]) ?_
        refine J_aload_n cx dX7_step_82 rfl 2 rfl ?_
        refine J_get cx (v := .ref (ad 16)) fX7_56 0 rfl rfl dX7_step_83 ?_
        refine J_aload_n cx dX7_step_86 rfl 2 rfl ?_
        refine J_get cx (v := .int (nI (κ.2.2.1 3))) fX7_165 0 rfl rfl dX7_step_87 ?_
        refine J_iload_n cx dX7_step_90 rfl 1 rfl ?_
        refine J_iast cx (ws' := (mW ad g (κ.1, κ.2.1, κ.2.2.1, upn κ.2.2.2.1 (κ.2.2.1 3) k, κ.2.2.2.2) (if false then (nI 2) else nI 0) ch cm rm row)) (j := (κ.2.2.1 3)) 16 rfl  rfl (by omega) (by decide) (by rw [upn_nI]; rfl) dX7_step_91 ?_
        refine J_aload_n cx dX7_step_92 rfl 2 rfl ?_
        refine J_dup cx dX7_step_93 rfl ?_
        refine J_get cx (v := .int (nI (κ.2.2.1 3))) fX7_165 0 rfl rfl dX7_step_94 ?_
        refine J_iconst cx (v := nI 1) dX7_step_97 (by decide) ?_
        refine J_iadd cx dX7_step_98 ?_
        refine J_top (v' := .int (nI ((κ.2.2.1 3) + 1))) (congrArg Value.int (nI_add (κ.2.2.1 3) 1)) ?_
        refine J_put cx (ws' := (mW ad g (κ.1, κ.2.1, upn κ.2.2.1 3 ((κ.2.2.1 3) + 1), upn κ.2.2.2.1 (κ.2.2.1 3) k, κ.2.2.2.2) (if false then (nI 2) else nI 0) ch cm rm row)) fX7_165 ⟨tyX7_ok, nmX7, tyX7_ok 20 (by decide)⟩ rfl 0 rfl rfl rfl (Nat.le_of_ble_eq_true rfl) rfl dX7_step_99 ?_
        refine J_iload_n cx dX7_step_102 rfl 0 rfl ?_
        exact J_zret cx rfl (u := ()) ((pk_charN (by omega)).1) (by simp only [opStep, Bool.and_true, Bool.true_and, Bool.and_false, Bool.false_and, Bool.or_true, Bool.true_or, Bool.or_false, Bool.false_or, Bool.not_true, Bool.not_false, if_true, if_false, Bool.false_eq_true, decide_true, decide_false, ite_true, ite_false, ne_eq, not_true_eq_false, not_false_eq_true, xj, c_1, c_1d, hf, c_7d]; try rfl) (by simp only [opStep, Bool.and_true, Bool.true_and, Bool.and_false, Bool.false_and, Bool.or_true, Bool.true_or, Bool.or_false, Bool.false_or, Bool.not_true, Bool.not_false, if_true, if_false, Bool.false_eq_true, decide_true, decide_false, ite_true, ite_false, ne_eq, not_true_eq_false, not_false_eq_true, xj, c_1, c_1d, hf, c_7d]; try rfl) (Nat.le_of_ble_eq_true rfl) (Nat.le_of_ble_eq_true rfl) dX7_step_103
  · have c_1 := (nat_if_ne_f (by omega)).mp c_1
    have c_1d := decide_eq_true c_1
    refine J_iconst cx (v := nI 1) dX7_step_8 (by decide) ?_
    refine J_goto cx (tgt := 13) dX7_step_9 (by decide) ?_
    refine J_iconst cx (v := nI 1) dX7_step_13 (by decide) ?_
    refine J_callVi cx kX7_78 (As := [.int (nI 1), .int (nI 1)]) (tX7_isThrown l D g A ad κ th ch cm rm row  true (nI 1) ) ⟨rfl, rfl, by decide, by decide⟩ ⟨by decide, by decide⟩ rfl 0 rfl rfl rfl (Nat.le_of_ble_eq_true rfl) dX7_step_14 ?_
    intro _ _ hr; cases hr
    refine J_ifz_eq cx (tgt := 22) dX7_step_17 (by decide) (fun h => absurd h (by decide)) (fun _ => ?_)
    refine J_iconst cx (v := nI 0) dX7_step_20 (by decide) ?_
    exact J_zret cx rfl (u := ()) ((pk_charN (by omega)).1) (by simp only [opStep, Bool.and_true, Bool.true_and, Bool.and_false, Bool.false_and, Bool.or_true, Bool.true_or, Bool.or_false, Bool.false_or, Bool.not_true, Bool.not_false, if_true, if_false, Bool.false_eq_true, decide_true, decide_false, ite_true, ite_false, ne_eq, not_true_eq_false, not_false_eq_true, xj, c_1d]; try rfl) (by simp only [opStep, Bool.and_true, Bool.true_and, Bool.and_false, Bool.false_and, Bool.or_true, Bool.true_or, Bool.or_false, Bool.false_or, Bool.not_true, Bool.not_false, if_true, if_false, Bool.false_eq_true, decide_true, decide_false, ite_true, ite_false, ne_eq, not_true_eq_false, not_false_eq_true, xj, c_1d]; try rfl) (Nat.le_of_ble_eq_true rfl) (Nat.le_of_ble_eq_true rfl) dX7_step_21
