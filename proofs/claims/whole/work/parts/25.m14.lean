theorem isInB_exn {x : Int32} {j : Nat} (h : isInB x (nI 1) (nI j) = true) (hj : j < 2147483648) : ∃ e, 1 ≤ e ∧ e ≤ j ∧ x = nI e := by
  rcases i32_cases x with ⟨e, c, rfl⟩ | h3
  · rw [isInB_nI c (by omega) hj] at h
    exact ⟨e, (of_decide_eq_true h).1, (of_decide_eq_true h).2, rfl⟩
  · rw [isInB_neg h3 (by omega)] at h; cases h
theorem prQ_le {κ : CS} {xe xs : Int32} {rm : Nat} {row : Nat → Int64} (h : prC κ xe xs = 0) : (prQ κ xe xs rm row).1 ≤ 40 := by
  unfold prQ; rw [if_pos (decide_eq_true h)]; exact Nat.le_trans (pvK_le _ _ _ _ _ _) (by show 0 + 6 ≤ 40; omega)
theorem grQ_le {κ : CS} {xe xs : Int32} {rm : Nat} {row : Nat → Int64} (h : grC κ xe xs = 0) : (grQ κ xe xs rm row).1 ≤ 40 := by
  unfold grQ; rw [if_pos (decide_eq_true h)]; exact Nat.le_trans (gwK_le _ _ _ _ _ _) (by show 0 + (6 + 1) ≤ 40; omega)
set_option maxHeartbeats 4000000 in
set_option maxRecDepth 100000 in
theorem tX7_isProof (l : Launch) (D : va_G) (g : Nat → ClassId) (A : Nat → Prop) (ad : Nat → Nat) (κ : CS) (th : Int32) (ch : Nat → Nat) (cm rm : Nat) (row : Nat → Int64)  (xe : Int32) (xs : Int32) (hn : κ.2.2.1 0 ≤ 40) : CtI l D g A yX7_isProof cX7_isProof 3 .boolean ({ frames := 17, cells := 0, slots := 0, locals := 420 } : Room) [.ref (ad 0), .int xe, .int xs] (mW ad g κ th ch cm rm row) (zb (decide (prC κ xe xs = 0))) (mW ad g κ (nI (prC κ xe xs)) ch cm ((prQ κ xe xs rm row).1) ((prQ κ xe xs rm row).2)) := by
  refine metJ (by decide) (Nat.le_of_ble_eq_true rfl) ?_
  intro p e s m args below meth c _ _ cx
  refine J_aload_n cx dX7_isProof_0 rfl 0 rfl ?_
  refine J_iload_n cx dX7_isProof_1 rfl 2 rfl ?_
  refine J_callVi cx kX7_200 (As := [.int xs]) (tX7_isNoSize l D g A ad κ th ch cm rm row  xs (by first | assumption | omega)) ⟨rfl, rfl, (by first | decide | (simp only [rmP, rmG, rmR, rmF]; omega)), (by first | decide | (simp only [rmP, rmG, rmR, rmF]; omega))⟩ ⟨(by first | decide | (simp only [rmP, rmG, rmR, rmF]; omega)), (by first | decide | (simp only [rmP, rmG, rmR, rmF]; omega))⟩ rfl 0 rfl rfl rfl (Nat.le_of_ble_eq_true rfl) dX7_isProof_2 ?_
  intro _ _ hr; cases hr
  refine J_ifz_ne cx (tgt := 32) dX7_isProof_5 (by decide) (fun c_1 => ?_) (fun c_1 => ?_)
  · have c_1 := bn_t c_1
    refine J_iconst cx (v := nI 0) dX7_isProof_32 (by decide) ?_
    exact J_zret cx rfl (u := ()) (rfl) (by simp [prC, zb, xj, c_1]) (by simp [prC, prQ, xj, c_1]; try rfl) (Nat.le_of_ble_eq_true rfl) (Nat.le_of_ble_eq_true rfl) dX7_isProof_33
  · have c_1 := bn_f c_1
    obtain ⟨j, hj1, hj, hxj⟩ := sizB_ex c_1 hn; subst hxj
    have hjc : (nI j).toNatClampNeg = j := nI_clamp (by omega)
    refine J_aload_n cx dX7_isProof_8 rfl 0 rfl ?_
    refine J_iload_n cx dX7_isProof_9 rfl 1 rfl ?_
    refine J_iconst cx (v := nI 0) dX7_isProof_10 (by decide) ?_
    refine J_iload_n cx dX7_isProof_11 rfl 2 rfl ?_
    refine J_iconst cx (v := nI 1) dX7_isProof_12 (by decide) ?_
    refine J_isub cx dX7_isProof_13 ?_
    refine J_callSi cx kX7_67 (As := [.int xe, .int (nI 0), .int ((nI j) - (nI 1))]) (tX7_isIn l D g A ad κ (if sizB κ (nI j) then nI 0 else nI 1) ch cm rm row  xe (nI 0) ((nI j) - (nI 1)) ) ⟨rfl, rfl, (by first | decide | (simp only [rmP, rmG, rmR, rmF]; omega)), (by first | decide | (simp only [rmP, rmG, rmR, rmF]; omega))⟩ ⟨(by first | decide | (simp only [rmP, rmG, rmR, rmF]; omega)), (by first | decide | (simp only [rmP, rmG, rmR, rmF]; omega))⟩ rfl rfl (Nat.le_of_ble_eq_true rfl) dX7_isProof_14 ?_
    intro _ _ hr; cases hr
    refine J_top (v' := .int (zb (inR j xe))) (congrArg (fun z => Value.int (zb z)) (isInB_inR (n := j) (by omega))) ?_
    refine J_ifz_ne cx (tgt := 24) dX7_isProof_17 (by decide) (fun c_2 => ?_) (fun c_2 => ?_)
    · obtain ⟨e, he, hxe⟩ := inR_spec c_2 (by omega)
      subst hxe
      have hec : (nI e).toNatClampNeg = e := nI_clamp (by omega)
      refine J_iconst cx (v := nI 0) dX7_isProof_24 (by decide) ?_
      refine J_iconst cx (v := nI 2) dX7_isProof_25 (by decide) ?_
      refine J_callVi cx kX7_78 (As := [.int (nI 0), .int (nI 2)]) (tX7_isThrown l D g A ad κ (if sizB κ (nI j) then nI 0 else nI 1) ch cm rm row  false (nI 2) ) ⟨rfl, rfl, (by first | decide | (simp only [rmP, rmG, rmR, rmF]; omega)), (by first | decide | (simp only [rmP, rmG, rmR, rmF]; omega))⟩ ⟨(by first | decide | (simp only [rmP, rmG, rmR, rmF]; omega)), (by first | decide | (simp only [rmP, rmG, rmR, rmF]; omega))⟩ rfl 0 rfl rfl rfl (Nat.le_of_ble_eq_true rfl) dX7_isProof_26 ?_
      intro _ _ hr; cases hr
      refine J_ifz_eq cx (tgt := 34) dX7_isProof_29 (by decide) (fun _ => ?_) (fun h => absurd h (by decide))
      refine J_aload_n cx dX7_isProof_34 rfl 0 rfl ?_
      refine J_iconst cx (v := nI 0) dX7_isProof_35 (by decide) ?_
      refine J_put cx (ws' := (mW ad g κ (if false then (nI 2) else nI 0) ch cm 0 row)) fX7_207 ⟨tyX7_ok, nmX7, tyX7_ok 23 (by decide)⟩ rfl 0 rfl rfl rfl (Nat.le_of_ble_eq_true rfl) rfl dX7_isProof_36 ?_
      refine J_aload_n cx dX7_isProof_39 rfl 0 rfl ?_
      refine J_iload_n cx dX7_isProof_40 rfl 1 rfl ?_
      refine J_iconst cx (v := nI 0) dX7_isProof_41 (by decide) ?_
      refine J_iload_n cx dX7_isProof_42 rfl 2 rfl ?_
      refine J_callVv cx kX7_210 (As := [.int (nI e), .int (nI 0), .int (nI j)]) (tX7_proves l D g A ad κ (if false then (nI 2) else nI 0) ch cm e 6 0 j 0 row (by omega) (by show _ ≤ 64; omega) (by omega) (by omega) hn (by omega) (by omega)) ⟨rfl, rfl, (by first | decide | (simp only [rmP, rmG, rmR, rmF]; omega)), (by first | decide | (simp only [rmP, rmG, rmR, rmF]; omega))⟩ ⟨(by first | decide | (simp only [rmP, rmG, rmR, rmF]; omega)), (by first | decide | (simp only [rmP, rmG, rmR, rmF]; omega))⟩ rfl 0 rfl rfl rfl (Nat.le_of_ble_eq_true rfl) dX7_isProof_43 ?_
      intro _ _
      refine J_iconst cx (v := nI 1) dX7_isProof_46 (by decide) ?_
      exact J_zret cx rfl (u := ()) (rfl) (by simp [prC, zb, xj, c_1, hjc, c_2, hec]) (by simp [prC, prQ, xj, c_1, hjc, c_2, hec]; try rfl) (Nat.le_of_ble_eq_true rfl) (Nat.le_of_ble_eq_true rfl) dX7_isProof_47
    · refine J_iconst cx (v := nI 1) dX7_isProof_20 (by decide) ?_
      refine J_goto cx (tgt := 25) dX7_isProof_21 (by decide) ?_
      refine J_iconst cx (v := nI 2) dX7_isProof_25 (by decide) ?_
      refine J_callVi cx kX7_78 (As := [.int (nI 1), .int (nI 2)]) (tX7_isThrown l D g A ad κ (if sizB κ (nI j) then nI 0 else nI 1) ch cm rm row  true (nI 2) ) ⟨rfl, rfl, (by first | decide | (simp only [rmP, rmG, rmR, rmF]; omega)), (by first | decide | (simp only [rmP, rmG, rmR, rmF]; omega))⟩ ⟨(by first | decide | (simp only [rmP, rmG, rmR, rmF]; omega)), (by first | decide | (simp only [rmP, rmG, rmR, rmF]; omega))⟩ rfl 0 rfl rfl rfl (Nat.le_of_ble_eq_true rfl) dX7_isProof_26 ?_
      intro _ _ hr; cases hr
      refine J_ifz_eq cx (tgt := 34) dX7_isProof_29 (by decide) (fun h => absurd h (by decide)) (fun _ => ?_)
      refine J_iconst cx (v := nI 0) dX7_isProof_32 (by decide) ?_
      exact J_zret cx rfl (u := ()) (rfl) (by simp [prC, zb, xj, c_1, hjc, c_2]) (by simp [prC, prQ, xj, c_1, hjc, c_2]; try rfl) (Nat.le_of_ble_eq_true rfl) (Nat.le_of_ble_eq_true rfl) dX7_isProof_33
set_option maxHeartbeats 4000000 in
set_option maxRecDepth 100000 in
theorem tX7_rowAt (l : Launch) (D : va_G) (g : Nat → ClassId) (A : Nat → Prop) (ad : Nat → Nat) (κ : CS) (th : Int32) (ch : Nat → Nat) (cm rm : Nat) (row : Nat → Int64)  (xi : Int32) (hrm : rm ≤ 40) : CtL l D g A yX7_rowAt cX7_rowAt 2 .long ({ frames := 1, cells := 0, slots := 0, locals := 22 } : Room) [.ref (ad 0), .int xi] (mW ad g κ th ch cm rm row) (if inR rm xi then row (xj xi) else 0) (mW ad g κ (if inR rm xi then nI 0 else nI 2) ch cm rm row) := by
  refine metJ (by decide) (Nat.le_of_ble_eq_true rfl) ?_
  intro p e s m args below meth c _ _ cx
  refine J_aload_n cx dX7_rowAt_0 rfl 0 rfl ?_
  refine J_iload_n cx dX7_rowAt_1 rfl 1 rfl ?_
  refine J_iconst cx (v := nI 0) dX7_rowAt_2 (by decide) ?_
  refine J_aload_n cx dX7_rowAt_3 rfl 0 rfl ?_
  refine J_get cx (v := .int (nI rm)) fX7_207 0 rfl rfl dX7_rowAt_4 ?_
  refine J_iconst cx (v := nI 1) dX7_rowAt_7 (by decide) ?_
  refine J_isub cx dX7_rowAt_8 ?_
  refine J_callSi cx kX7_67 (As := [.int xi, .int (nI 0), .int ((nI rm) - (nI 1))]) (tX7_isIn l D g A ad κ th ch cm rm row  xi (nI 0) ((nI rm) - (nI 1)) ) ⟨rfl, rfl, by decide, by decide⟩ ⟨by decide, by decide⟩ rfl rfl (Nat.le_of_ble_eq_true rfl) dX7_rowAt_9 ?_
  intro _ _ hr; cases hr
  refine J_top (v' := .int (zb (inR rm xi))) (congrArg (fun z => Value.int (zb z)) (isInB_inR hrm)) ?_
  refine J_ifz_ne cx (tgt := 19) dX7_rowAt_12 (by decide) (fun c_1 => ?_) (fun c_1 => ?_)
  · obtain ⟨j, hj, hxj⟩ := inR_spec c_1 (by omega)
    subst hxj
    have hjc : (nI j).toNatClampNeg = j := nI_clamp (by omega)
    refine J_iconst cx (v := nI 0) dX7_rowAt_19 (by decide) ?_
    refine J_iconst cx (v := nI 2) dX7_rowAt_20 (by decide) ?_
    refine J_callVi cx kX7_78 (As := [.int (nI 0), .int (nI 2)]) (tX7_isThrown l D g A ad κ th ch cm rm row  false (nI 2) ) ⟨rfl, rfl, by decide, by decide⟩ ⟨by decide, by decide⟩ rfl 0 rfl rfl rfl (Nat.le_of_ble_eq_true rfl) dX7_rowAt_21 ?_
    intro _ _ hr; cases hr
    refine J_ifz_eq cx (tgt := 31) dX7_rowAt_24 (by decide) (fun _ => ?_) (fun h => absurd h (by decide))
    refine J_aload_n cx dX7_rowAt_31 rfl 0 rfl ?_
    refine J_get cx (v := .ref (ad 17)) fX7_59 0 rfl rfl dX7_rowAt_32 ?_
    refine J_iload_n cx dX7_rowAt_35 rfl 1 rfl ?_
    refine J_lald cx (j := j) (f := row) 17 rfl rfl (by omega) (by decide) dX7_rowAt_36 ?_
    exact J_lret cx rfl (u := ()) (by simp only [xj, Bool.and_true, Bool.true_and, Bool.and_false, Bool.false_and, Bool.or_true, Bool.true_or, Bool.or_false, Bool.false_or, Bool.not_true, Bool.not_false, if_true, if_false, Bool.false_eq_true, decide_true, decide_false, ite_true, ite_false, ne_eq, not_true_eq_false, not_false_eq_true, xj, c_1, hjc]; try rfl) (by simp only [xj, Bool.and_true, Bool.true_and, Bool.and_false, Bool.false_and, Bool.or_true, Bool.true_or, Bool.or_false, Bool.false_or, Bool.not_true, Bool.not_false, if_true, if_false, Bool.false_eq_true, decide_true, decide_false, ite_true, ite_false, ne_eq, not_true_eq_false, not_false_eq_true, xj, c_1, hjc]; try rfl) (Nat.le_of_ble_eq_true rfl) (Nat.le_of_ble_eq_true rfl) dX7_rowAt_37
  · refine J_iconst cx (v := nI 1) dX7_rowAt_15 (by decide) ?_
    refine J_goto cx (tgt := 20) dX7_rowAt_16 (by decide) ?_
    refine J_iconst cx (v := nI 2) dX7_rowAt_20 (by decide) ?_
    refine J_callVi cx kX7_78 (As := [.int (nI 1), .int (nI 2)]) (tX7_isThrown l D g A ad κ th ch cm rm row  true (nI 2) ) ⟨rfl, rfl, by decide, by decide⟩ ⟨by decide, by decide⟩ rfl 0 rfl rfl rfl (Nat.le_of_ble_eq_true rfl) dX7_rowAt_21 ?_
    intro _ _ hr; cases hr
    refine J_ifz_eq cx (tgt := 31) dX7_rowAt_24 (by decide) (fun h => absurd h (by decide)) (fun _ => ?_)
    refine J_lconst cx (v := lN 0) dX7_rowAt_27 (by decide) ?_
    refine J_goto cx (tgt := 37) dX7_rowAt_28 (by decide) ?_
    exact J_lret cx rfl (u := ()) (by simp only [xj, Bool.and_true, Bool.true_and, Bool.and_false, Bool.false_and, Bool.or_true, Bool.true_or, Bool.or_false, Bool.false_or, Bool.not_true, Bool.not_false, if_true, if_false, Bool.false_eq_true, decide_true, decide_false, ite_true, ite_false, ne_eq, not_true_eq_false, not_false_eq_true, xj, c_1]; try rfl) (by simp only [xj, Bool.and_true, Bool.true_and, Bool.and_false, Bool.false_and, Bool.or_true, Bool.true_or, Bool.or_false, Bool.false_or, Bool.not_true, Bool.not_false, if_true, if_false, Bool.false_eq_true, decide_true, decide_false, ite_true, ite_false, ne_eq, not_true_eq_false, not_false_eq_true, xj, c_1]; try rfl) (Nat.le_of_ble_eq_true rfl) (Nat.le_of_ble_eq_true rfl) dX7_rowAt_37
set_option maxHeartbeats 4000000 in
set_option maxRecDepth 100000 in
theorem tX7_proofSize (l : Launch) (D : va_G) (g : Nat → ClassId) (A : Nat → Prop) (ad : Nat → Nat) (κ : CS) (th : Int32) (ch : Nat → Nat) (cm rm : Nat) (row : Nat → Int64)  (xe : Int32) (xs : Int32) (hn : κ.2.2.1 0 ≤ 40) : CtI l D g A yX7_proofSize cX7_proofSize 3 .int ({ frames := 18, cells := 0, slots := 0, locals := 442 } : Room) [.ref (ad 0), .int xe, .int xs] (mW ad g κ th ch cm rm row) ((opPrS κ xe xs rm row).2) (mW ad g κ (nI (opPrS κ xe xs rm row).1) ch cm ((prQ κ xe xs rm row).1) ((prQ κ xe xs rm row).2)) := by
  refine metJ (by decide) (Nat.le_of_ble_eq_true rfl) ?_
  intro p e s m args below meth c _ _ cx
  refine J_aload_n cx dX7_proofSize_0 rfl 0 rfl ?_
  refine J_iload_n cx dX7_proofSize_1 rfl 1 rfl ?_
  refine J_iload_n cx dX7_proofSize_2 rfl 2 rfl ?_
  refine J_callVi cx kX7_218 (As := [.int xe, .int xs]) (tX7_isProof l D g A ad κ th ch cm rm row  xe xs (by first | assumption | omega)) ⟨rfl, rfl, (by first | decide | (simp only [rmP, rmG, rmR, rmF]; omega)), (by first | decide | (simp only [rmP, rmG, rmR, rmF]; omega))⟩ ⟨(by first | decide | (simp only [rmP, rmG, rmR, rmF]; omega)), (by first | decide | (simp only [rmP, rmG, rmR, rmF]; omega))⟩ rfl 0 rfl rfl rfl (Nat.le_of_ble_eq_true rfl) dX7_proofSize_3 ?_
  intro _ _ hr; cases hr
  refine J_ifz_eq cx (tgt := 16) dX7_proofSize_6 (by decide) (fun c_1 => ?_) (fun c_1 => ?_)
  · have c_1 := of_decide_eq_false c_1
    refine J_iconst cx (v := nI 0) dX7_proofSize_16 (by decide) ?_
    exact J_iret cx rfl (u := ()) (by simp only [opPrS, Bool.and_true, Bool.true_and, Bool.and_false, Bool.false_and, Bool.or_true, Bool.true_or, Bool.or_false, Bool.false_or, Bool.not_true, Bool.not_false, if_true, if_false, Bool.false_eq_true, decide_true, decide_false, ite_true, ite_false, ne_eq, not_true_eq_false, not_false_eq_true, xj, c_1]; try rfl) (by simp only [opPrS, Bool.and_true, Bool.true_and, Bool.and_false, Bool.false_and, Bool.or_true, Bool.true_or, Bool.or_false, Bool.false_or, Bool.not_true, Bool.not_false, if_true, if_false, Bool.false_eq_true, decide_true, decide_false, ite_true, ite_false, ne_eq, not_true_eq_false, not_false_eq_true, xj, c_1]; try rfl) (Nat.le_of_ble_eq_true rfl) (Nat.le_of_ble_eq_true rfl) dX7_proofSize_17
  · have c_1 := of_decide_eq_true c_1
    refine J_aload_n cx dX7_proofSize_9 rfl 0 rfl ?_
    refine J_get cx (v := .int (nI ((prQ κ xe xs rm row).1))) fX7_207 0 rfl rfl dX7_proofSize_10 ?_
    refine J_goto cx (tgt := 17) dX7_proofSize_13 (by decide) ?_
    exact J_iret cx rfl (u := ()) (by simp only [opPrS, Bool.and_true, Bool.true_and, Bool.and_false, Bool.false_and, Bool.or_true, Bool.true_or, Bool.or_false, Bool.false_or, Bool.not_true, Bool.not_false, if_true, if_false, Bool.false_eq_true, decide_true, decide_false, ite_true, ite_false, ne_eq, not_true_eq_false, not_false_eq_true, xj, c_1]; try rfl) (by simp only [opPrS, Bool.and_true, Bool.true_and, Bool.and_false, Bool.false_and, Bool.or_true, Bool.true_or, Bool.or_false, Bool.false_or, Bool.not_true, Bool.not_false, if_true, if_false, Bool.false_eq_true, decide_true, decide_false, ite_true, ite_false, ne_eq, not_true_eq_false, not_false_eq_true, xj, c_1]; try rfl) (Nat.le_of_ble_eq_true rfl) (Nat.le_of_ble_eq_true rfl) dX7_proofSize_17
set_option maxHeartbeats 4000000 in
set_option maxRecDepth 100000 in
theorem tX7_proofAt (l : Launch) (D : va_G) (g : Nat → ClassId) (A : Nat → Prop) (ad : Nat → Nat) (κ : CS) (th : Int32) (ch : Nat → Nat) (cm rm : Nat) (row : Nat → Int64)  (xe : Int32) (xs : Int32) (xi : Int32) (hn : κ.2.2.1 0 ≤ 40) : CtL l D g A yX7_proofAt cX7_proofAt 4 .long ({ frames := 18, cells := 0, slots := 0, locals := 442 } : Room) [.ref (ad 0), .int xe, .int xs, .int xi] (mW ad g κ th ch cm rm row) ((opPrA κ xe xs xi rm row).2) (mW ad g κ (nI (opPrA κ xe xs xi rm row).1) ch cm ((prQ κ xe xs rm row).1) ((prQ κ xe xs rm row).2)) := by
  refine metJ (by decide) (Nat.le_of_ble_eq_true rfl) ?_
  intro p e s m args below meth c _ _ cx
  refine J_aload_n cx dX7_proofAt_0 rfl 0 rfl ?_
  refine J_iload_n cx dX7_proofAt_1 rfl 1 rfl ?_
  refine J_iload_n cx dX7_proofAt_2 rfl 2 rfl ?_
  refine J_callVi cx kX7_218 (As := [.int xe, .int xs]) (tX7_isProof l D g A ad κ th ch cm rm row  xe xs hn) ⟨rfl, rfl, (by first | decide | (simp only [rmP, rmG, rmR, rmF]; omega)), (by first | decide | (simp only [rmP, rmG, rmR, rmF]; omega))⟩ ⟨(by first | decide | (simp only [rmP, rmG, rmR, rmF]; omega)), (by first | decide | (simp only [rmP, rmG, rmR, rmF]; omega))⟩ rfl 0 rfl rfl rfl (Nat.le_of_ble_eq_true rfl) dX7_proofAt_3 ?_
  intro _ _ hr; cases hr
  refine J_ifz_eq cx (tgt := 17) dX7_proofAt_6 (by decide) (fun c_1 => ?_) (fun c_1 => ?_)
  · have c_1 := of_decide_eq_false c_1
    refine J_lconst cx (v := lN 0) dX7_proofAt_17 (by decide) ?_
    exact J_lret cx rfl (u := ()) (by simp [opPrA, xj, c_1]; try first | rfl | (split <;> rfl)) (by simp [opPrA, c_1]; try first | rfl | (split <;> rfl)) (Nat.le_of_ble_eq_true rfl) (Nat.le_of_ble_eq_true rfl) dX7_proofAt_18
  · have c_1 := of_decide_eq_true c_1
    have hle := prQ_le (rm := rm) (row := row) c_1
    refine J_aload_n cx dX7_proofAt_9 rfl 0 rfl ?_
    refine J_iload_n cx dX7_proofAt_10 rfl 3 rfl ?_
    refine J_callVl cx kX7_221 (As := [.int xi]) (tX7_rowAt l D g A ad κ (nI (prC κ xe xs)) ch cm ((prQ κ xe xs rm row).1) ((prQ κ xe xs rm row).2)  xi hle) ⟨rfl, rfl, (by first | decide | (simp only [rmP, rmG, rmR, rmF]; omega)), (by first | decide | (simp only [rmP, rmG, rmR, rmF]; omega))⟩ ⟨(by first | decide | (simp only [rmP, rmG, rmR, rmF]; omega)), (by first | decide | (simp only [rmP, rmG, rmR, rmF]; omega))⟩ rfl 0 rfl rfl rfl (Nat.le_of_ble_eq_true rfl) dX7_proofAt_11 ?_
    intro _ _ hr; cases hr
    refine J_goto cx (tgt := 18) dX7_proofAt_14 (by decide) ?_
    exact J_lret cx rfl (u := ()) (by simp [opPrA, xj, c_1]; try first | rfl | (split <;> rfl)) (by simp [opPrA, c_1]; try first | rfl | (split <;> rfl)) (Nat.le_of_ble_eq_true rfl) (Nat.le_of_ble_eq_true rfl) dX7_proofAt_18
set_option maxHeartbeats 4000000 in
set_option maxRecDepth 100000 in
theorem tX7_rootByProof (l : Launch) (D : va_G) (g : Nat → ClassId) (A : Nat → Prop) (ad : Nat → Nat) (κ : CS) (th : Int32) (ch : Nat → Nat) (cm rm : Nat) (row : Nat → Int64)  (xe : Int32) (xs : Int32) (hn : κ.2.2.1 0 ≤ 40) : CtL l D g A yX7_rootByProof cX7_rootByProof 3 .long ({ frames := 18, cells := 0, slots := 0, locals := 442 } : Room) [.ref (ad 0), .int xe, .int xs] (mW ad g κ th ch cm rm row) ((opPrR κ xe xs).2) (mW ad g κ (nI (opPrR κ xe xs).1) ch cm ((prQ κ xe xs rm row).1) ((prQ κ xe xs rm row).2)) := by
  refine metJ (by decide) (Nat.le_of_ble_eq_true rfl) ?_
  intro p e s m args below meth c _ _ cx
  refine J_aload_n cx dX7_rootByProof_0 rfl 0 rfl ?_
  refine J_iload_n cx dX7_rootByProof_1 rfl 1 rfl ?_
  refine J_iload_n cx dX7_rootByProof_2 rfl 2 rfl ?_
  refine J_callVi cx kX7_218 (As := [.int xe, .int xs]) (tX7_isProof l D g A ad κ th ch cm rm row  xe xs hn) ⟨rfl, rfl, (by first | decide | (simp only [rmP, rmG, rmR, rmF]; omega)), (by first | decide | (simp only [rmP, rmG, rmR, rmF]; omega))⟩ ⟨(by first | decide | (simp only [rmP, rmG, rmR, rmF]; omega)), (by first | decide | (simp only [rmP, rmG, rmR, rmF]; omega))⟩ rfl 0 rfl rfl rfl (Nat.le_of_ble_eq_true rfl) dX7_rootByProof_3 ?_
  intro _ _ hr; cases hr
  refine J_ifz_eq cx (tgt := 18) dX7_rootByProof_6 (by decide) (fun c_1 => ?_) (fun c_1 => ?_)
  · have c_1 := of_decide_eq_false c_1
    refine J_lconst cx (v := lN 0) dX7_rootByProof_18 (by decide) ?_
    exact J_lret cx rfl (u := ()) (by simp only [opPrR, Bool.and_true, Bool.true_and, Bool.and_false, Bool.false_and, Bool.or_true, Bool.true_or, Bool.or_false, Bool.false_or, Bool.not_true, Bool.not_false, if_true, if_false, Bool.false_eq_true, decide_true, decide_false, ite_true, ite_false, ne_eq, not_true_eq_false, not_false_eq_true, xj, c_1]; try rfl) (by simp only [opPrR, Bool.and_true, Bool.true_and, Bool.and_false, Bool.false_and, Bool.or_true, Bool.true_or, Bool.or_false, Bool.false_or, Bool.not_true, Bool.not_false, if_true, if_false, Bool.false_eq_true, decide_true, decide_false, ite_true, ite_false, ne_eq, not_true_eq_false, not_false_eq_true, xj, c_1]; try rfl) (Nat.le_of_ble_eq_true rfl) (Nat.le_of_ble_eq_true rfl) dX7_rootByProof_19
  · have c_1 := of_decide_eq_true c_1
    obtain ⟨e, j, he1, he2, he3, hxe, hxs⟩ := prC_0 c_1 hn; subst hxe; subst hxs
    have hjc : (nI j).toNatClampNeg = j := nI_clamp (by omega)
    refine J_aload_n cx dX7_rootByProof_9 rfl 0 rfl ?_
    refine J_iconst cx (v := nI 0) dX7_rootByProof_10 (by decide) ?_
    refine J_iload_n cx dX7_rootByProof_11 rfl 2 rfl ?_
    refine J_callVl cx kX7_192 (As := [.int (nI 0), .int (nI j)]) (tX7_rootFrom l D g A ad κ (nI (prC κ (nI e) (nI j))) ch cm ((prQ κ (nI e) (nI j) rm row).1) ((prQ κ (nI e) (nI j) rm row).2) 6 0 j (by omega) (by show _ ≤ 64; omega) (by omega) (by omega) hn) ⟨rfl, rfl, (by first | decide | (simp only [rmP, rmG, rmR, rmF]; omega)), (by first | decide | (simp only [rmP, rmG, rmR, rmF]; omega))⟩ ⟨(by first | decide | (simp only [rmP, rmG, rmR, rmF]; omega)), (by first | decide | (simp only [rmP, rmG, rmR, rmF]; omega))⟩ rfl 0 rfl rfl rfl (Nat.le_of_ble_eq_true rfl) dX7_rootByProof_12 ?_
    intro _ _ hr; cases hr
    refine J_goto cx (tgt := 19) dX7_rootByProof_15 (by decide) ?_
    exact J_lret cx rfl (u := ()) (by simp only [opPrR, Bool.and_true, Bool.true_and, Bool.and_false, Bool.false_and, Bool.or_true, Bool.true_or, Bool.or_false, Bool.false_or, Bool.not_true, Bool.not_false, if_true, if_false, Bool.false_eq_true, decide_true, decide_false, ite_true, ite_false, ne_eq, not_true_eq_false, not_false_eq_true, xj, c_1, hjc]; try rfl) (by simp only [opPrR, Bool.and_true, Bool.true_and, Bool.and_false, Bool.false_and, Bool.or_true, Bool.true_or, Bool.or_false, Bool.false_or, Bool.not_true, Bool.not_false, if_true, if_false, Bool.false_eq_true, decide_true, decide_false, ite_true, ite_false, ne_eq, not_true_eq_false, not_false_eq_true, xj, c_1, hjc]; try rfl) (Nat.le_of_ble_eq_true rfl) (Nat.le_of_ble_eq_true rfl) dX7_rootByProof_19
set_option maxHeartbeats 4000000 in
set_option maxRecDepth 100000 in
theorem tX7_isGrowth (l : Launch) (D : va_G) (g : Nat → ClassId) (A : Nat → Prop) (ad : Nat → Nat) (κ : CS) (th : Int32) (ch : Nat → Nat) (cm rm : Nat) (row : Nat → Int64)  (xe : Int32) (xs : Int32) (hn : κ.2.2.1 0 ≤ 40) : CtI l D g A yX7_isGrowth cX7_isGrowth 3 .boolean ({ frames := 17, cells := 0, slots := 0, locals := 420 } : Room) [.ref (ad 0), .int xe, .int xs] (mW ad g κ th ch cm rm row) (zb (decide (grC κ xe xs = 0))) (mW ad g κ (nI (grC κ xe xs)) ch cm ((grQ κ xe xs rm row).1) ((grQ κ xe xs rm row).2)) := by
  refine metJ (by decide) (Nat.le_of_ble_eq_true rfl) ?_
  intro p e s m args below meth c _ _ cx
  refine J_aload_n cx dX7_isGrowth_0 rfl 0 rfl ?_
  refine J_iload_n cx dX7_isGrowth_1 rfl 2 rfl ?_
  refine J_callVi cx kX7_200 (As := [.int xs]) (tX7_isNoSize l D g A ad κ th ch cm rm row  xs (by first | assumption | omega)) ⟨rfl, rfl, (by first | decide | (simp only [rmP, rmG, rmR, rmF]; omega)), (by first | decide | (simp only [rmP, rmG, rmR, rmF]; omega))⟩ ⟨(by first | decide | (simp only [rmP, rmG, rmR, rmF]; omega)), (by first | decide | (simp only [rmP, rmG, rmR, rmF]; omega))⟩ rfl 0 rfl rfl rfl (Nat.le_of_ble_eq_true rfl) dX7_isGrowth_2 ?_
  intro _ _ hr; cases hr
  refine J_ifz_ne cx (tgt := 30) dX7_isGrowth_5 (by decide) (fun c_1 => ?_) (fun c_1 => ?_)
  · have c_1 := bn_t c_1
    refine J_iconst cx (v := nI 0) dX7_isGrowth_30 (by decide) ?_
    exact J_zret cx rfl (u := ()) (rfl) (by simp [grC, zb, xj, c_1]) (by simp [grC, grQ, xj, c_1]; try rfl) (Nat.le_of_ble_eq_true rfl) (Nat.le_of_ble_eq_true rfl) dX7_isGrowth_31
  · have c_1 := bn_f c_1
    obtain ⟨j, hj1, hj, hxj⟩ := sizB_ex c_1 hn; subst hxj
    have hjc : (nI j).toNatClampNeg = j := nI_clamp (by omega)
    refine J_aload_n cx dX7_isGrowth_8 rfl 0 rfl ?_
    refine J_iload_n cx dX7_isGrowth_9 rfl 1 rfl ?_
    refine J_iconst cx (v := nI 1) dX7_isGrowth_10 (by decide) ?_
    refine J_iload_n cx dX7_isGrowth_11 rfl 2 rfl ?_
    refine J_callSi cx kX7_67 (As := [.int xe, .int (nI 1), .int (nI j)]) (tX7_isIn l D g A ad κ (if sizB κ (nI j) then nI 0 else nI 1) ch cm rm row  xe (nI 1) (nI j) ) ⟨rfl, rfl, (by first | decide | (simp only [rmP, rmG, rmR, rmF]; omega)), (by first | decide | (simp only [rmP, rmG, rmR, rmF]; omega))⟩ ⟨(by first | decide | (simp only [rmP, rmG, rmR, rmF]; omega)), (by first | decide | (simp only [rmP, rmG, rmR, rmF]; omega))⟩ rfl rfl (Nat.le_of_ble_eq_true rfl) dX7_isGrowth_12 ?_
    intro _ _ hr; cases hr
    refine J_ifz_ne cx (tgt := 22) dX7_isGrowth_15 (by decide) (fun c_2 => ?_) (fun c_2 => ?_)
    · obtain ⟨e, he1, he2, hxe⟩ := isInB_exn c_2 (by omega); subst hxe
      have hec : (nI e).toNatClampNeg = e := nI_clamp (by omega)
      refine J_iconst cx (v := nI 0) dX7_isGrowth_22 (by decide) ?_
      refine J_iconst cx (v := nI 2) dX7_isGrowth_23 (by decide) ?_
      refine J_callVi cx kX7_78 (As := [.int (nI 0), .int (nI 2)]) (tX7_isThrown l D g A ad κ (if sizB κ (nI j) then nI 0 else nI 1) ch cm rm row  false (nI 2) ) ⟨rfl, rfl, (by first | decide | (simp only [rmP, rmG, rmR, rmF]; omega)), (by first | decide | (simp only [rmP, rmG, rmR, rmF]; omega))⟩ ⟨(by first | decide | (simp only [rmP, rmG, rmR, rmF]; omega)), (by first | decide | (simp only [rmP, rmG, rmR, rmF]; omega))⟩ rfl 0 rfl rfl rfl (Nat.le_of_ble_eq_true rfl) dX7_isGrowth_24 ?_
      intro _ _ hr; cases hr
      refine J_ifz_eq cx (tgt := 32) dX7_isGrowth_27 (by decide) (fun _ => ?_) (fun h => absurd h (by decide))
      refine J_aload_n cx dX7_isGrowth_32 rfl 0 rfl ?_
      refine J_iconst cx (v := nI 0) dX7_isGrowth_33 (by decide) ?_
      refine J_put cx (ws' := (mW ad g κ (if false then (nI 2) else nI 0) ch cm 0 row)) fX7_207 ⟨tyX7_ok, nmX7, tyX7_ok 23 (by decide)⟩ rfl 0 rfl rfl rfl (Nat.le_of_ble_eq_true rfl) rfl dX7_isGrowth_34 ?_
      refine J_aload_n cx dX7_isGrowth_37 rfl 0 rfl ?_
      refine J_iload_n cx dX7_isGrowth_38 rfl 1 rfl ?_
      refine J_iconst cx (v := nI 0) dX7_isGrowth_39 (by decide) ?_
      refine J_iload_n cx dX7_isGrowth_40 rfl 2 rfl ?_
      refine J_callVv cx kX7_224 (As := [.int (nI e), .int (nI 0), .int (nI j)]) (tX7_grows l D g A ad κ (if false then (nI 2) else nI 0) ch cm e 6 0 j 0 row (by omega) (by show _ ≤ 64; omega) (by omega) (by omega) hn (by omega) (by omega) (by omega)) ⟨rfl, rfl, (by first | decide | (simp only [rmP, rmG, rmR, rmF]; omega)), (by first | decide | (simp only [rmP, rmG, rmR, rmF]; omega))⟩ ⟨(by first | decide | (simp only [rmP, rmG, rmR, rmF]; omega)), (by first | decide | (simp only [rmP, rmG, rmR, rmF]; omega))⟩ rfl 0 rfl rfl rfl (Nat.le_of_ble_eq_true rfl) dX7_isGrowth_41 ?_
      intro _ _
      refine J_iconst cx (v := nI 1) dX7_isGrowth_44 (by decide) ?_
      exact J_zret cx rfl (u := ()) (rfl) (by simp [grC, zb, xj, c_1, hjc, c_2, hec]) (by simp [grC, grQ, xj, c_1, hjc, c_2, hec]; try rfl) (Nat.le_of_ble_eq_true rfl) (Nat.le_of_ble_eq_true rfl) dX7_isGrowth_45
    · refine J_iconst cx (v := nI 1) dX7_isGrowth_18 (by decide) ?_
      refine J_goto cx (tgt := 23) dX7_isGrowth_19 (by decide) ?_
      refine J_iconst cx (v := nI 2) dX7_isGrowth_23 (by decide) ?_
      refine J_callVi cx kX7_78 (As := [.int (nI 1), .int (nI 2)]) (tX7_isThrown l D g A ad κ (if sizB κ (nI j) then nI 0 else nI 1) ch cm rm row  true (nI 2) ) ⟨rfl, rfl, (by first | decide | (simp only [rmP, rmG, rmR, rmF]; omega)), (by first | decide | (simp only [rmP, rmG, rmR, rmF]; omega))⟩ ⟨(by first | decide | (simp only [rmP, rmG, rmR, rmF]; omega)), (by first | decide | (simp only [rmP, rmG, rmR, rmF]; omega))⟩ rfl 0 rfl rfl rfl (Nat.le_of_ble_eq_true rfl) dX7_isGrowth_24 ?_
      intro _ _ hr; cases hr
      refine J_ifz_eq cx (tgt := 32) dX7_isGrowth_27 (by decide) (fun h => absurd h (by decide)) (fun _ => ?_)
      refine J_iconst cx (v := nI 0) dX7_isGrowth_30 (by decide) ?_
      exact J_zret cx rfl (u := ()) (rfl) (by simp [grC, zb, xj, c_1, hjc, c_2]) (by simp [grC, grQ, xj, c_1, hjc, c_2]; try rfl) (Nat.le_of_ble_eq_true rfl) (Nat.le_of_ble_eq_true rfl) dX7_isGrowth_31
set_option maxHeartbeats 4000000 in
set_option maxRecDepth 100000 in
theorem tX7_growthSize (l : Launch) (D : va_G) (g : Nat → ClassId) (A : Nat → Prop) (ad : Nat → Nat) (κ : CS) (th : Int32) (ch : Nat → Nat) (cm rm : Nat) (row : Nat → Int64)  (xe : Int32) (xs : Int32) (hn : κ.2.2.1 0 ≤ 40) : CtI l D g A yX7_growthSize cX7_growthSize 3 .int ({ frames := 18, cells := 0, slots := 0, locals := 442 } : Room) [.ref (ad 0), .int xe, .int xs] (mW ad g κ th ch cm rm row) ((opGrS κ xe xs rm row).2) (mW ad g κ (nI (opGrS κ xe xs rm row).1) ch cm ((grQ κ xe xs rm row).1) ((grQ κ xe xs rm row).2)) := by
  refine metJ (by decide) (Nat.le_of_ble_eq_true rfl) ?_
  intro p e s m args below meth c _ _ cx
  refine J_aload_n cx dX7_growthSize_0 rfl 0 rfl ?_
  refine J_iload_n cx dX7_growthSize_1 rfl 1 rfl ?_
  refine J_iload_n cx dX7_growthSize_2 rfl 2 rfl ?_
  refine J_callVi cx kX7_227 (As := [.int xe, .int xs]) (tX7_isGrowth l D g A ad κ th ch cm rm row  xe xs (by first | assumption | omega)) ⟨rfl, rfl, (by first | decide | (simp only [rmP, rmG, rmR, rmF]; omega)), (by first | decide | (simp only [rmP, rmG, rmR, rmF]; omega))⟩ ⟨(by first | decide | (simp only [rmP, rmG, rmR, rmF]; omega)), (by first | decide | (simp only [rmP, rmG, rmR, rmF]; omega))⟩ rfl 0 rfl rfl rfl (Nat.le_of_ble_eq_true rfl) dX7_growthSize_3 ?_
  intro _ _ hr; cases hr
  refine J_ifz_eq cx (tgt := 16) dX7_growthSize_6 (by decide) (fun c_1 => ?_) (fun c_1 => ?_)
  · have c_1 := of_decide_eq_false c_1
    refine J_iconst cx (v := nI 0) dX7_growthSize_16 (by decide) ?_
    exact J_iret cx rfl (u := ()) (by simp only [opGrS, Bool.and_true, Bool.true_and, Bool.and_false, Bool.false_and, Bool.or_true, Bool.true_or, Bool.or_false, Bool.false_or, Bool.not_true, Bool.not_false, if_true, if_false, Bool.false_eq_true, decide_true, decide_false, ite_true, ite_false, ne_eq, not_true_eq_false, not_false_eq_true, xj, c_1]; try rfl) (by simp only [opGrS, Bool.and_true, Bool.true_and, Bool.and_false, Bool.false_and, Bool.or_true, Bool.true_or, Bool.or_false, Bool.false_or, Bool.not_true, Bool.not_false, if_true, if_false, Bool.false_eq_true, decide_true, decide_false, ite_true, ite_false, ne_eq, not_true_eq_false, not_false_eq_true, xj, c_1]; try rfl) (Nat.le_of_ble_eq_true rfl) (Nat.le_of_ble_eq_true rfl) dX7_growthSize_17
  · have c_1 := of_decide_eq_true c_1
    refine J_aload_n cx dX7_growthSize_9 rfl 0 rfl ?_
    refine J_get cx (v := .int (nI ((grQ κ xe xs rm row).1))) fX7_207 0 rfl rfl dX7_growthSize_10 ?_
    refine J_goto cx (tgt := 17) dX7_growthSize_13 (by decide) ?_
    exact J_iret cx rfl (u := ()) (by simp only [opGrS, Bool.and_true, Bool.true_and, Bool.and_false, Bool.false_and, Bool.or_true, Bool.true_or, Bool.or_false, Bool.false_or, Bool.not_true, Bool.not_false, if_true, if_false, Bool.false_eq_true, decide_true, decide_false, ite_true, ite_false, ne_eq, not_true_eq_false, not_false_eq_true, xj, c_1]; try rfl) (by simp only [opGrS, Bool.and_true, Bool.true_and, Bool.and_false, Bool.false_and, Bool.or_true, Bool.true_or, Bool.or_false, Bool.false_or, Bool.not_true, Bool.not_false, if_true, if_false, Bool.false_eq_true, decide_true, decide_false, ite_true, ite_false, ne_eq, not_true_eq_false, not_false_eq_true, xj, c_1]; try rfl) (Nat.le_of_ble_eq_true rfl) (Nat.le_of_ble_eq_true rfl) dX7_growthSize_17
set_option maxHeartbeats 4000000 in
set_option maxRecDepth 100000 in
theorem tX7_growthAt (l : Launch) (D : va_G) (g : Nat → ClassId) (A : Nat → Prop) (ad : Nat → Nat) (κ : CS) (th : Int32) (ch : Nat → Nat) (cm rm : Nat) (row : Nat → Int64)  (xe : Int32) (xs : Int32) (xi : Int32) (hn : κ.2.2.1 0 ≤ 40) : CtL l D g A yX7_growthAt cX7_growthAt 4 .long ({ frames := 18, cells := 0, slots := 0, locals := 442 } : Room) [.ref (ad 0), .int xe, .int xs, .int xi] (mW ad g κ th ch cm rm row) ((opGrA κ xe xs xi rm row).2) (mW ad g κ (nI (opGrA κ xe xs xi rm row).1) ch cm ((grQ κ xe xs rm row).1) ((grQ κ xe xs rm row).2)) := by
  refine metJ (by decide) (Nat.le_of_ble_eq_true rfl) ?_
  intro p e s m args below meth c _ _ cx
  refine J_aload_n cx dX7_growthAt_0 rfl 0 rfl ?_
  refine J_iload_n cx dX7_growthAt_1 rfl 1 rfl ?_
  refine J_iload_n cx dX7_growthAt_2 rfl 2 rfl ?_
  refine J_callVi cx kX7_227 (As := [.int xe, .int xs]) (tX7_isGrowth l D g A ad κ th ch cm rm row  xe xs hn) ⟨rfl, rfl, (by first | decide | (simp only [rmP, rmG, rmR, rmF]; omega)), (by first | decide | (simp only [rmP, rmG, rmR, rmF]; omega))⟩ ⟨(by first | decide | (simp only [rmP, rmG, rmR, rmF]; omega)), (by first | decide | (simp only [rmP, rmG, rmR, rmF]; omega))⟩ rfl 0 rfl rfl rfl (Nat.le_of_ble_eq_true rfl) dX7_growthAt_3 ?_
  intro _ _ hr; cases hr
  refine J_ifz_eq cx (tgt := 17) dX7_growthAt_6 (by decide) (fun c_1 => ?_) (fun c_1 => ?_)
  · have c_1 := of_decide_eq_false c_1
    refine J_lconst cx (v := lN 0) dX7_growthAt_17 (by decide) ?_
    exact J_lret cx rfl (u := ()) (by simp [opGrA, xj, c_1]; try first | rfl | (split <;> rfl)) (by simp [opGrA, c_1]; try first | rfl | (split <;> rfl)) (Nat.le_of_ble_eq_true rfl) (Nat.le_of_ble_eq_true rfl) dX7_growthAt_18
  · have c_1 := of_decide_eq_true c_1
    have hle := grQ_le (rm := rm) (row := row) c_1
    refine J_aload_n cx dX7_growthAt_9 rfl 0 rfl ?_
    refine J_iload_n cx dX7_growthAt_10 rfl 3 rfl ?_
    refine J_callVl cx kX7_221 (As := [.int xi]) (tX7_rowAt l D g A ad κ (nI (grC κ xe xs)) ch cm ((grQ κ xe xs rm row).1) ((grQ κ xe xs rm row).2)  xi hle) ⟨rfl, rfl, (by first | decide | (simp only [rmP, rmG, rmR, rmF]; omega)), (by first | decide | (simp only [rmP, rmG, rmR, rmF]; omega))⟩ ⟨(by first | decide | (simp only [rmP, rmG, rmR, rmF]; omega)), (by first | decide | (simp only [rmP, rmG, rmR, rmF]; omega))⟩ rfl 0 rfl rfl rfl (Nat.le_of_ble_eq_true rfl) dX7_growthAt_11 ?_
    intro _ _ hr; cases hr
    refine J_goto cx (tgt := 18) dX7_growthAt_14 (by decide) ?_
    exact J_lret cx rfl (u := ()) (by simp [opGrA, xj, c_1]; try first | rfl | (split <;> rfl)) (by simp [opGrA, c_1]; try first | rfl | (split <;> rfl)) (Nat.le_of_ble_eq_true rfl) (Nat.le_of_ble_eq_true rfl) dX7_growthAt_18
