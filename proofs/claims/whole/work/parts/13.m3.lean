set_option maxHeartbeats 4000000 in
set_option maxRecDepth 100000 in
theorem tX7_withKey (l : Launch) (D : va_G) (g : Nat → ClassId) (A : Nat → Prop) (ad : Nat → Nat) (κ : CS) (th : Int32) (ch : Nat → Nat) (cm rm : Nat) (row : Nat → Int64)  (xk : Int32) (hn : κ.2.2.1 0 ≤ 40) : CtI l D g A yX7_withKey cX7_withKey 4 .int ({ frames := 0, cells := 0, slots := 0, locals := 0 } : Room) [.ref (ad 0), .int xk] (mW ad g κ th ch cm rm row) (nI (cnt (wkB κ xk) (κ.2.2.1 0))) (mW ad g κ th ch cm rm row) := by
  refine metJ (by decide) (Nat.le_of_ble_eq_true rfl) ?_
  intro p e s m args below meth c _ _ cx
  refine J_iconst cx (v := nI 0) dX7_withKey_0 (by decide) ?_
  refine J_istore_n cx (L' := [(2, .int (nI 0)), (0, .ref (ad 0)), (1, .int xk)]) dX7_withKey_1 rfl (by decide) rfl ?_
  refine J_iconst cx (v := nI 0) dX7_withKey_2 (by decide) ?_
  refine J_istore_n cx (L' := [(3, .int (nI 0)), (2, .int (nI 0)), (0, .ref (ad 0)), (1, .int xk)]) dX7_withKey_3 rfl (by decide) rfl ?_
  have LP : ∀ (fu : Nat) (k : Nat), (k ≤ κ.2.2.1 0) → κ.2.2.1 0 - k < fu → J p l e ({ frames := 0, cells := 0, slots := 0, locals := 0 } : Room) s m args below meth c D A 4 (MQ below (va_Qi (fun (r : Int32) (_ : Unit) => r = (nI (cnt (wkB κ xk) (κ.2.2.1 0)))) (fun _ => PO D A (mW ad g κ th ch cm rm row)) A) args s 0 0 A) 0 0 (mW ad g κ th ch cm rm row) [(2, .int (nI (cnt (wkB κ xk) k))), (3, .int (nI k)), (0, .ref (ad 0)), (1, .int xk)] 4 [] := by
    intro fu; induction fu with
    | zero => intro k hk hfu; exact absurd hfu (Nat.not_lt_zero _)
    | succ fu ih =>
      intro k hk hfu
      refine J_iload_n cx dX7_withKey_4 rfl 1 rfl ?_
      refine J_aload_n cx dX7_withKey_5 rfl 2 rfl ?_
      refine J_get cx (v := .int (nI (κ.2.2.1 0))) fX7_71 0 rfl rfl dX7_withKey_6 ?_
      refine J_icmp_ge cx (tgt := 36) dX7_withKey_9 (by decide) (fun c_1 => ?_) (fun c_1 => ?_)
      · have c_1 := (nat_ic_ge (by omega) (by omega)).mp c_1
        have c_1d := decide_eq_true c_1
        refine J_iload_n cx dX7_withKey_36 rfl 0 rfl ?_
        exact J_iret cx rfl (u := ()) (by rw [show k = κ.2.2.1 0 from by omega]) rfl (Nat.le_of_ble_eq_true rfl) (Nat.le_of_ble_eq_true rfl) dX7_withKey_37
      · have c_1 := (nat_ic_ge_f (by omega) (by omega)).mp c_1
        have c_1d := decide_eq_false (Nat.not_le.mpr c_1)
        refine J_iload_n cx dX7_withKey_12 rfl 0 rfl ?_
        refine J_aload_n cx dX7_withKey_13 rfl 2 rfl ?_
        refine J_get cx (v := .ref (ad 2)) fX7_13 0 rfl rfl dX7_withKey_14 ?_
        refine J_iload_n cx dX7_withKey_17 rfl 1 rfl ?_
        refine J_iald cx (j := k) (f := κ.1 1) 2 rfl rfl (by omega) (by decide) dX7_withKey_18 ?_
        refine J_iload_n cx dX7_withKey_19 rfl 3 rfl ?_
        refine J_icmp_ne cx (tgt := 27) dX7_withKey_20 (by decide) (fun c_2 => ?_) (fun c_2 => ?_)
        · have c_2d := decide_eq_false c_2
          refine J_iconst cx (v := nI 0) dX7_withKey_27 (by decide) ?_
          refine J_iadd cx dX7_withKey_28 ?_
          refine J_top (v' := .int (nI ((cnt (wkB κ xk) k) + 0))) (congrArg Value.int (nI_add (cnt (wkB κ xk) k) 0)) ?_
          refine J_top (v' := .int (nI (cnt (wkB κ xk) (k + 1)))) (congrArg (fun z => Value.int (nI z)) (cnt_f (by simp [wkB, hk, c_1, c_1d, c_2, c_2d]))) ?_
          refine J_istore_n cx (L' := [(2, .int (nI (cnt (wkB κ xk) (k + 1)))), (3, .int (nI k)), (0, .ref (ad 0)), (1, .int xk)]) dX7_withKey_29 rfl (by decide) rfl ?_
          refine J_iinc cx (v := (nI (k + 1))) (L' := [(3, .int (nI (k + 1))), (2, .int (nI (cnt (wkB κ xk) (k + 1)))), (0, .ref (ad 0)), (1, .int xk)]) dX7_withKey_30 1 rfl (by exact nI_add k 1) (by decide) rfl ?_
          refine J_goto cx (tgt := 4) dX7_withKey_33 (by decide) ?_
          refine J_L [1, 0, 2, 3] rfl ?_
          exact ih (k + 1) (by omega) (by omega)
        · have c_2d := decide_eq_true c_2
          refine J_iconst cx (v := nI 1) dX7_withKey_23 (by decide) ?_
          refine J_goto cx (tgt := 28) dX7_withKey_24 (by decide) ?_
          refine J_iadd cx dX7_withKey_28 ?_
          refine J_top (v' := .int (nI ((cnt (wkB κ xk) k) + 1))) (congrArg Value.int (nI_add (cnt (wkB κ xk) k) 1)) ?_
          refine J_top (v' := .int (nI (cnt (wkB κ xk) (k + 1)))) (congrArg (fun z => Value.int (nI z)) (cnt_t (by simp [wkB, hk, c_1, c_1d, c_2d]))) ?_
          refine J_istore_n cx (L' := [(2, .int (nI (cnt (wkB κ xk) (k + 1)))), (3, .int (nI k)), (0, .ref (ad 0)), (1, .int xk)]) dX7_withKey_29 rfl (by decide) rfl ?_
          refine J_iinc cx (v := (nI (k + 1))) (L' := [(3, .int (nI (k + 1))), (2, .int (nI (cnt (wkB κ xk) (k + 1)))), (0, .ref (ad 0)), (1, .int xk)]) dX7_withKey_30 1 rfl (by exact nI_add k 1) (by decide) rfl ?_
          refine J_goto cx (tgt := 4) dX7_withKey_33 (by decide) ?_
          refine J_L [1, 0, 2, 3] rfl ?_
          exact ih (k + 1) (by omega) (by omega)
  refine J_L [1, 0, 2, 3] rfl ?_
  exact LP _ 0 (by omega) (Nat.lt_succ_self _)
set_option maxHeartbeats 4000000 in
set_option maxRecDepth 100000 in
theorem tX7_hasIssued (l : Launch) (D : va_G) (g : Nat → ClassId) (A : Nat → Prop) (ad : Nat → Nat) (κ : CS) (th : Int32) (ch : Nat → Nat) (cm rm : Nat) (row : Nat → Int64)  (xk : Int32) (hn : κ.2.2.1 0 ≤ 40) : CtI l D g A yX7_hasIssued cX7_hasIssued 4 .boolean ({ frames := 0, cells := 0, slots := 0, locals := 0 } : Room) [.ref (ad 0), .int xk] (mW ad g κ th ch cm rm row) (zb (anyN (issB κ xk) (κ.2.2.1 0))) (mW ad g κ th ch cm rm row) := by
  refine metJ (by decide) (Nat.le_of_ble_eq_true rfl) ?_
  intro p e s m args below meth c _ _ cx
  refine J_iconst cx (v := nI 0) dX7_hasIssued_0 (by decide) ?_
  refine J_istore_n cx (L' := [(2, .int (nI 0)), (0, .ref (ad 0)), (1, .int xk)]) dX7_hasIssued_1 rfl (by decide) rfl ?_
  refine J_iconst cx (v := nI 0) dX7_hasIssued_2 (by decide) ?_
  refine J_istore_n cx (L' := [(3, .int (nI 0)), (2, .int (nI 0)), (0, .ref (ad 0)), (1, .int xk)]) dX7_hasIssued_3 rfl (by decide) rfl ?_
  have LP : ∀ (fu : Nat) (k : Nat), (k ≤ κ.2.2.1 0) → κ.2.2.1 0 - k < fu → J p l e ({ frames := 0, cells := 0, slots := 0, locals := 0 } : Room) s m args below meth c D A 4 (MQ below (va_Qi (fun (r : Int32) (_ : Unit) => r = (zb (anyN (issB κ xk) (κ.2.2.1 0)))) (fun _ => PO D A (mW ad g κ th ch cm rm row)) A) args s 0 0 A) 0 0 (mW ad g κ th ch cm rm row) [(2, .int (zb (anyN (issB κ xk) k))), (3, .int (nI k)), (0, .ref (ad 0)), (1, .int xk)] 4 [] := by
    intro fu; induction fu with
    | zero => intro k hk hfu; exact absurd hfu (Nat.not_lt_zero _)
    | succ fu ih =>
      intro k hk hfu
      refine J_iload_n cx dX7_hasIssued_4 rfl 1 rfl ?_
      refine J_aload_n cx dX7_hasIssued_5 rfl 2 rfl ?_
      refine J_get cx (v := .int (nI (κ.2.2.1 0))) fX7_71 0 rfl rfl dX7_hasIssued_6 ?_
      refine J_icmp_ge cx (tgt := 45) dX7_hasIssued_9 (by decide) (fun c_1 => ?_) (fun c_1 => ?_)
      · have c_1 := (nat_ic_ge (by omega) (by omega)).mp c_1
        have c_1d := decide_eq_true c_1
        refine J_iload_n cx dX7_hasIssued_45 rfl 0 rfl ?_
        exact J_zret cx rfl (u := ()) (zb_nar _) (by rw [show k = κ.2.2.1 0 from by omega]) rfl (Nat.le_of_ble_eq_true rfl) (Nat.le_of_ble_eq_true rfl) dX7_hasIssued_46
      · have c_1 := (nat_ic_ge_f (by omega) (by omega)).mp c_1
        have c_1d := decide_eq_false (Nat.not_le.mpr c_1)
        refine J_iload_n cx dX7_hasIssued_12 rfl 0 rfl ?_
        refine J_aload_n cx dX7_hasIssued_13 rfl 2 rfl ?_
        refine J_get cx (v := .ref (ad 6)) fX7_25 0 rfl rfl dX7_hasIssued_14 ?_
        refine J_iload_n cx dX7_hasIssued_17 rfl 1 rfl ?_
        refine J_iald cx (j := k) (f := κ.1 5) 6 rfl rfl (by omega) (by decide) dX7_hasIssued_18 ?_
        refine J_iload_n cx dX7_hasIssued_19 rfl 3 rfl ?_
        refine J_icmp_ne cx (tgt := 36) dX7_hasIssued_20 (by decide) (fun c_2 => ?_) (fun c_2 => ?_)
        · have c_2d := decide_eq_false c_2
          refine J_iconst cx (v := nI 0) dX7_hasIssued_36 (by decide) ?_
          refine J_ior cx dX7_hasIssued_37 ?_
          refine J_top (v' := .int (zb ((anyN (issB κ xk) k) || false))) (congrArg Value.int (zb_or (anyN (issB κ xk) k) false)) ?_
          refine J_top (v' := .int (zb (anyN (issB κ xk) (k + 1)))) (congrArg (fun z => Value.int (zb z)) (any_f (by simp [issB, hk, c_1, c_1d, c_2, c_2d]))) ?_
          refine J_istore_n cx (L' := [(2, .int (zb (anyN (issB κ xk) (k + 1)))), (3, .int (nI k)), (0, .ref (ad 0)), (1, .int xk)]) dX7_hasIssued_38 rfl (by decide) rfl ?_
          refine J_iinc cx (v := (nI (k + 1))) (L' := [(3, .int (nI (k + 1))), (2, .int (zb (anyN (issB κ xk) (k + 1)))), (0, .ref (ad 0)), (1, .int xk)]) dX7_hasIssued_39 1 rfl (by exact nI_add k 1) (by decide) rfl ?_
          refine J_goto cx (tgt := 4) dX7_hasIssued_42 (by decide) ?_
          refine J_L [1, 0, 2, 3] rfl ?_
          exact ih (k + 1) (by omega) (by omega)
        · have c_2d := decide_eq_true c_2
          refine J_aload_n cx dX7_hasIssued_23 rfl 2 rfl ?_
          refine J_get cx (v := .ref (ad 12)) fX7_44 0 rfl rfl dX7_hasIssued_24 ?_
          refine J_iload_n cx dX7_hasIssued_27 rfl 1 rfl ?_
          refine J_zald cx (j := k) (f := fun i => zb (κ.2.1 1 i)) 12 rfl rfl (by omega) (by decide) dX7_hasIssued_28 ?_
          refine J_ifz_ne cx (tgt := 36) dX7_hasIssued_29 (by decide) (fun c_3 => ?_) (fun c_3 => ?_)
          · refine J_iconst cx (v := nI 0) dX7_hasIssued_36 (by decide) ?_
            refine J_ior cx dX7_hasIssued_37 ?_
            refine J_top (v' := .int (zb ((anyN (issB κ xk) k) || false))) (congrArg Value.int (zb_or (anyN (issB κ xk) k) false)) ?_
            refine J_top (v' := .int (zb (anyN (issB κ xk) (k + 1)))) (congrArg (fun z => Value.int (zb z)) (any_f (by simp [issB, hk, c_1, c_1d, c_2d, c_3]))) ?_
            refine J_istore_n cx (L' := [(2, .int (zb (anyN (issB κ xk) (k + 1)))), (3, .int (nI k)), (0, .ref (ad 0)), (1, .int xk)]) dX7_hasIssued_38 rfl (by decide) rfl ?_
            refine J_iinc cx (v := (nI (k + 1))) (L' := [(3, .int (nI (k + 1))), (2, .int (zb (anyN (issB κ xk) (k + 1)))), (0, .ref (ad 0)), (1, .int xk)]) dX7_hasIssued_39 1 rfl (by exact nI_add k 1) (by decide) rfl ?_
            refine J_goto cx (tgt := 4) dX7_hasIssued_42 (by decide) ?_
            refine J_L [1, 0, 2, 3] rfl ?_
            exact ih (k + 1) (by omega) (by omega)
          · refine J_iconst cx (v := nI 1) dX7_hasIssued_32 (by decide) ?_
            refine J_goto cx (tgt := 37) dX7_hasIssued_33 (by decide) ?_
            refine J_ior cx dX7_hasIssued_37 ?_
            refine J_top (v' := .int (zb ((anyN (issB κ xk) k) || true))) (congrArg Value.int (zb_or (anyN (issB κ xk) k) true)) ?_
            refine J_top (v' := .int (zb (anyN (issB κ xk) (k + 1)))) (congrArg (fun z => Value.int (zb z)) (any_t (by simp [issB, hk, c_1, c_1d, c_2d, c_3]))) ?_
            refine J_istore_n cx (L' := [(2, .int (zb (anyN (issB κ xk) (k + 1)))), (3, .int (nI k)), (0, .ref (ad 0)), (1, .int xk)]) dX7_hasIssued_38 rfl (by decide) rfl ?_
            refine J_iinc cx (v := (nI (k + 1))) (L' := [(3, .int (nI (k + 1))), (2, .int (zb (anyN (issB κ xk) (k + 1)))), (0, .ref (ad 0)), (1, .int xk)]) dX7_hasIssued_39 1 rfl (by exact nI_add k 1) (by decide) rfl ?_
            refine J_goto cx (tgt := 4) dX7_hasIssued_42 (by decide) ?_
            refine J_L [1, 0, 2, 3] rfl ?_
            exact ih (k + 1) (by omega) (by omega)
  refine J_L [1, 0, 2, 3] rfl ?_
  exact LP _ 0 (by omega) (Nat.lt_succ_self _)
set_option maxHeartbeats 4000000 in
set_option maxRecDepth 100000 in
theorem tX7_makeRoot (l : Launch) (D : va_G) (g : Nat → ClassId) (A : Nat → Prop) (ad : Nat → Nat) (κ : CS) (th : Int32) (ch : Nat → Nat) (cm rm : Nat) (row : Nat → Int64)  (xn : Int32) (dy : Int32) (ln : Int32) (hn : κ.2.2.1 0 ≤ 40) : CtI l D g A yX7_makeRoot cX7_makeRoot 6 .int ({ frames := 2, cells := 0, slots := 0, locals := 44 } : Room) [.ref (ad 0), .int xn, .int dy, .int ln] (mW ad g κ th ch cm rm row) ((opMakeRoot κ xn dy ln).2.1) (mW ad g ((opMakeRoot κ xn dy ln).2.2) (nI (opMakeRoot κ xn dy ln).1) ch cm rm row) := by
  refine metJ (by decide) (Nat.le_of_ble_eq_true rfl) ?_
  intro p e s m args below meth c _ _ cx
  refine J_iload_n cx dX7_makeRoot_0 rfl 1 rfl ?_
  refine J_callSi cx kX7_85 (As := [.int xn]) (tX7_isName l D g A ad κ th ch cm rm row  xn ) ⟨rfl, rfl, by decide, by decide⟩ ⟨by decide, by decide⟩ rfl rfl (Nat.le_of_ble_eq_true rfl) dX7_makeRoot_1 ?_
  intro _ _ hr; cases hr
  refine J_ifz_eq cx (tgt := 31) dX7_makeRoot_4 (by decide) (fun c_1 => ?_) (fun c_1 => ?_)
  · refine J_iconst cx (v := nI 0) dX7_makeRoot_31 (by decide) ?_
    refine J_istore cx (L' := [(4, .int (nI 0)), (0, .ref (ad 0)), (1, .int xn), (2, .int dy), (3, .int ln)]) dX7_makeRoot_32 (by decide) rfl ?_
    refine J_aload_n cx dX7_makeRoot_34 rfl 1 rfl ?_
    refine J_iload cx dX7_makeRoot_35 0 rfl ?_
    refine J_if_ne cx (tgt := 44) dX7_makeRoot_37 (by decide) (fun h => absurd h (by decide)) (fun _ => ?_)
    refine J_iconst cx (v := nI 1) dX7_makeRoot_40 (by decide) ?_
    refine J_goto cx (tgt := 45) dX7_makeRoot_41 (by decide) ?_
    refine J_iconst cx (v := nI 1) dX7_makeRoot_45 (by decide) ?_
    refine J_callVi cx kX7_78 (As := [.int (nI 1), .int (nI 1)]) (tX7_isThrown l D g A ad κ th ch cm rm row  true (nI 1) ) ⟨rfl, rfl, by decide, by decide⟩ ⟨by decide, by decide⟩ rfl 0 rfl rfl rfl (Nat.le_of_ble_eq_true rfl) dX7_makeRoot_46 ?_
    intro _ _ hr; cases hr
    refine J_ifz_ne cx (tgt := 74) dX7_makeRoot_49 (by decide) (fun _ => ?_) (fun h => absurd h (by decide))
    refine J_iconst cx (v := nI 0) dX7_makeRoot_74 (by decide) ?_
    exact J_iret cx rfl (u := ()) (by simp only [opMakeRoot, Bool.and_true, Bool.true_and, Bool.and_false, Bool.false_and, Bool.or_true, Bool.true_or, Bool.or_false, Bool.false_or, Bool.not_true, Bool.not_false, if_true, if_false, Bool.false_eq_true, decide_true, decide_false, ite_true, ite_false, ne_eq, not_true_eq_false, not_false_eq_true, xj, c_1]; try rfl) (by simp only [opMakeRoot, Bool.and_true, Bool.true_and, Bool.and_false, Bool.false_and, Bool.or_true, Bool.true_or, Bool.or_false, Bool.false_or, Bool.not_true, Bool.not_false, if_true, if_false, Bool.false_eq_true, decide_true, decide_false, ite_true, ite_false, ne_eq, not_true_eq_false, not_false_eq_true, xj, c_1]; try rfl) (Nat.le_of_ble_eq_true rfl) (Nat.le_of_ble_eq_true rfl) dX7_makeRoot_75
  · refine J_iload_n cx dX7_makeRoot_7 rfl 2 rfl ?_
    refine J_iconst cx (v := nI 1) dX7_makeRoot_8 (by decide) ?_
    refine J_sipush cx (v := nI 999) dX7_makeRoot_9 (by decide) ?_
    refine J_callSi cx kX7_67 (As := [.int dy, .int (nI 1), .int (nI 999)]) (tX7_isIn l D g A ad κ th ch cm rm row  dy (nI 1) (nI 999) ) ⟨rfl, rfl, by decide, by decide⟩ ⟨by decide, by decide⟩ rfl rfl (Nat.le_of_ble_eq_true rfl) dX7_makeRoot_12 ?_
    intro _ _ hr; cases hr
    refine J_ifz_eq cx (tgt := 31) dX7_makeRoot_15 (by decide) (fun c_4 => ?_) (fun c_4 => ?_)
    · refine J_iconst cx (v := nI 0) dX7_makeRoot_31 (by decide) ?_
      refine J_istore cx (L' := [(4, .int (nI 0)), (0, .ref (ad 0)), (1, .int xn), (2, .int dy), (3, .int ln)]) dX7_makeRoot_32 (by decide) rfl ?_
      refine J_aload_n cx dX7_makeRoot_34 rfl 1 rfl ?_
      refine J_iload cx dX7_makeRoot_35 0 rfl ?_
      refine J_if_ne cx (tgt := 44) dX7_makeRoot_37 (by decide) (fun h => absurd h (by decide)) (fun _ => ?_)
      refine J_iconst cx (v := nI 1) dX7_makeRoot_40 (by decide) ?_
      refine J_goto cx (tgt := 45) dX7_makeRoot_41 (by decide) ?_
      refine J_iconst cx (v := nI 1) dX7_makeRoot_45 (by decide) ?_
      refine J_callVi cx kX7_78 (As := [.int (nI 1), .int (nI 1)]) (tX7_isThrown l D g A ad κ th ch cm rm row  true (nI 1) ) ⟨rfl, rfl, by decide, by decide⟩ ⟨by decide, by decide⟩ rfl 0 rfl rfl rfl (Nat.le_of_ble_eq_true rfl) dX7_makeRoot_46 ?_
      intro _ _ hr; cases hr
      refine J_ifz_ne cx (tgt := 74) dX7_makeRoot_49 (by decide) (fun _ => ?_) (fun h => absurd h (by decide))
      refine J_iconst cx (v := nI 0) dX7_makeRoot_74 (by decide) ?_
      exact J_iret cx rfl (u := ()) (by simp only [opMakeRoot, Bool.and_true, Bool.true_and, Bool.and_false, Bool.false_and, Bool.or_true, Bool.true_or, Bool.or_false, Bool.false_or, Bool.not_true, Bool.not_false, if_true, if_false, Bool.false_eq_true, decide_true, decide_false, ite_true, ite_false, ne_eq, not_true_eq_false, not_false_eq_true, xj, c_1, c_4]; try rfl) (by simp only [opMakeRoot, Bool.and_true, Bool.true_and, Bool.and_false, Bool.false_and, Bool.or_true, Bool.true_or, Bool.or_false, Bool.false_or, Bool.not_true, Bool.not_false, if_true, if_false, Bool.false_eq_true, decide_true, decide_false, ite_true, ite_false, ne_eq, not_true_eq_false, not_false_eq_true, xj, c_1, c_4]; try rfl) (Nat.le_of_ble_eq_true rfl) (Nat.le_of_ble_eq_true rfl) dX7_makeRoot_75
    · refine J_iload_n cx dX7_makeRoot_18 rfl 3 rfl ?_
      refine J_iconst cx (v := nI 0) dX7_makeRoot_19 (by decide) ?_
      refine J_iconst cx (v := nI 5) dX7_makeRoot_20 (by decide) ?_
      refine J_callSi cx kX7_67 (As := [.int ln, .int (nI 0), .int (nI 5)]) (tX7_isIn l D g A ad κ th ch cm rm row  ln (nI 0) (nI 5) ) ⟨rfl, rfl, by decide, by decide⟩ ⟨by decide, by decide⟩ rfl rfl (Nat.le_of_ble_eq_true rfl) dX7_makeRoot_21 ?_
      intro _ _ hr; cases hr
      refine J_ifz_eq cx (tgt := 31) dX7_makeRoot_24 (by decide) (fun c_7 => ?_) (fun c_7 => ?_)
      · refine J_iconst cx (v := nI 0) dX7_makeRoot_31 (by decide) ?_
        refine J_istore cx (L' := [(4, .int (nI 0)), (0, .ref (ad 0)), (1, .int xn), (2, .int dy), (3, .int ln)]) dX7_makeRoot_32 (by decide) rfl ?_
        refine J_aload_n cx dX7_makeRoot_34 rfl 1 rfl ?_
        refine J_iload cx dX7_makeRoot_35 0 rfl ?_
        refine J_if_ne cx (tgt := 44) dX7_makeRoot_37 (by decide) (fun h => absurd h (by decide)) (fun _ => ?_)
        refine J_iconst cx (v := nI 1) dX7_makeRoot_40 (by decide) ?_
        refine J_goto cx (tgt := 45) dX7_makeRoot_41 (by decide) ?_
        refine J_iconst cx (v := nI 1) dX7_makeRoot_45 (by decide) ?_
        refine J_callVi cx kX7_78 (As := [.int (nI 1), .int (nI 1)]) (tX7_isThrown l D g A ad κ th ch cm rm row  true (nI 1) ) ⟨rfl, rfl, by decide, by decide⟩ ⟨by decide, by decide⟩ rfl 0 rfl rfl rfl (Nat.le_of_ble_eq_true rfl) dX7_makeRoot_46 ?_
        intro _ _ hr; cases hr
        refine J_ifz_ne cx (tgt := 74) dX7_makeRoot_49 (by decide) (fun _ => ?_) (fun h => absurd h (by decide))
        refine J_iconst cx (v := nI 0) dX7_makeRoot_74 (by decide) ?_
        exact J_iret cx rfl (u := ()) (by simp only [opMakeRoot, Bool.and_true, Bool.true_and, Bool.and_false, Bool.false_and, Bool.or_true, Bool.true_or, Bool.or_false, Bool.false_or, Bool.not_true, Bool.not_false, if_true, if_false, Bool.false_eq_true, decide_true, decide_false, ite_true, ite_false, ne_eq, not_true_eq_false, not_false_eq_true, xj, c_1, c_4, c_7]; try rfl) (by simp only [opMakeRoot, Bool.and_true, Bool.true_and, Bool.and_false, Bool.false_and, Bool.or_true, Bool.true_or, Bool.or_false, Bool.false_or, Bool.not_true, Bool.not_false, if_true, if_false, Bool.false_eq_true, decide_true, decide_false, ite_true, ite_false, ne_eq, not_true_eq_false, not_false_eq_true, xj, c_1, c_4, c_7]; try rfl) (Nat.le_of_ble_eq_true rfl) (Nat.le_of_ble_eq_true rfl) dX7_makeRoot_75
      · refine J_iconst cx (v := nI 1) dX7_makeRoot_27 (by decide) ?_
        refine J_goto cx (tgt := 32) dX7_makeRoot_28 (by decide) ?_
        refine J_istore cx (L' := [(4, .int (nI 1)), (0, .ref (ad 0)), (1, .int xn), (2, .int dy), (3, .int ln)]) dX7_makeRoot_32 (by decide) rfl ?_
        refine J_aload_n cx dX7_makeRoot_34 rfl 1 rfl ?_
        refine J_iload cx dX7_makeRoot_35 0 rfl ?_
        refine J_if_ne cx (tgt := 44) dX7_makeRoot_37 (by decide) (fun _ => ?_) (fun h => absurd h (by decide))
        refine J_iconst cx (v := nI 0) dX7_makeRoot_44 (by decide) ?_
        refine J_iconst cx (v := nI 1) dX7_makeRoot_45 (by decide) ?_
        refine J_callVi cx kX7_78 (As := [.int (nI 0), .int (nI 1)]) (tX7_isThrown l D g A ad κ th ch cm rm row  false (nI 1) ) ⟨rfl, rfl, by decide, by decide⟩ ⟨by decide, by decide⟩ rfl 0 rfl rfl rfl (Nat.le_of_ble_eq_true rfl) dX7_makeRoot_46 ?_
        intro _ _ hr; cases hr
        refine J_ifz_ne cx (tgt := 74) dX7_makeRoot_49 (by decide) (fun h => absurd h (by decide)) (fun _ => ?_)
        refine J_aload_n cx dX7_makeRoot_52 rfl 1 rfl ?_
        refine J_aload_n cx dX7_makeRoot_53 rfl 1 rfl ?_
        refine J_get cx (v := .int (nI (κ.2.2.1 0))) fX7_71 0 rfl rfl dX7_makeRoot_54 ?_
        refine J_bipush cx (v := nI 40) dX7_makeRoot_57 (by decide) ?_
        refine J_icmp_ne cx (tgt := 66) dX7_makeRoot_59 (by decide) (fun c_12 => ?_) (fun c_12 => ?_)
        · have c_12 := (nat_ic_ne (by omega) (by omega)).mp c_12
          have c_12d := decide_eq_false c_12
          refine J_iconst cx (v := nI 0) dX7_makeRoot_66 (by decide) ?_
          refine J_iconst cx (v := nI 2) dX7_makeRoot_67 (by decide) ?_
          refine J_callVi cx kX7_78 (As := [.int (nI 0), .int (nI 2)]) (tX7_isThrown l D g A ad κ (if false then (nI 1) else nI 0) ch cm rm row  false (nI 2) ) ⟨rfl, rfl, by decide, by decide⟩ ⟨by decide, by decide⟩ rfl 0 rfl rfl rfl (Nat.le_of_ble_eq_true rfl) dX7_makeRoot_68 ?_
          intro _ _ hr; cases hr
          refine J_ifz_eq cx (tgt := 76) dX7_makeRoot_71 (by decide) (fun _ => ?_) (fun h => absurd h (by decide))
          refine J_aload_n cx dX7_makeRoot_76 rfl 1 rfl ?_
          refine J_dup cx dX7_makeRoot_77 rfl ?_
          refine J_get cx (v := .int (nI (κ.2.2.1 1))) fX7_88 0 rfl rfl dX7_makeRoot_78 ?_
          refine J_iconst cx (v := nI 1) dX7_makeRoot_81 (by decide) ?_
          refine J_iadd cx dX7_makeRoot_82 ?_
          refine J_top (v' := .int (nI ((κ.2.2.1 1) + 1))) (congrArg Value.int (nI_add (κ.2.2.1 1) 1)) ?_
          refine J_put cx (ws' := (mW ad g (κ.1, κ.2.1, upn κ.2.2.1 1 ((κ.2.2.1 1) + 1), κ.2.2.2.1, κ.2.2.2.2) (if false then (nI 2) else nI 0) ch cm rm row)) fX7_88 ⟨tyX7_ok, nmX7, tyX7_ok 18 (by decide)⟩ rfl 0 rfl rfl rfl (Nat.le_of_ble_eq_true rfl) rfl dX7_makeRoot_83 ?_
          refine J_aload_n cx dX7_makeRoot_86 rfl 1 rfl ?_
          refine J_aload_n cx dX7_makeRoot_87 rfl 1 rfl ?_
          refine J_iload_n cx dX7_makeRoot_88 rfl 2 rfl ?_
          refine J_aload_n cx dX7_makeRoot_89 rfl 1 rfl ?_
          refine J_get cx (v := .int (nI ((κ.2.2.1 1) + 1))) fX7_88 0 rfl rfl dX7_makeRoot_90 ?_
          refine J_iload_n cx dX7_makeRoot_93 rfl 2 rfl ?_
          refine J_aload_n cx dX7_makeRoot_94 rfl 1 rfl ?_
          refine J_get cx (v := .int (nI ((κ.2.2.1 1) + 1))) fX7_88 0 rfl rfl dX7_makeRoot_95 ?_
          refine J_iload_n cx dX7_makeRoot_98 rfl 3 rfl ?_
          refine J_callVi cx kX7_91 (As := [.int xn, .int (nI ((κ.2.2.1 1) + 1)), .int xn, .int (nI ((κ.2.2.1 1) + 1)), .int dy]) (tX7_makes l D g A ad (κ.1, κ.2.1, upn κ.2.2.1 1 ((κ.2.2.1 1) + 1), κ.2.2.2.1, κ.2.2.2.2) (if false then (nI 2) else nI 0) ch cm rm row  xn (nI ((κ.2.2.1 1) + 1)) xn (nI ((κ.2.2.1 1) + 1)) dy (show κ.2.2.1 0 < 40 by omega)) ⟨rfl, rfl, by decide, by decide⟩ ⟨by decide, by decide⟩ rfl 0 rfl rfl rfl (Nat.le_of_ble_eq_true rfl) dX7_makeRoot_99 ?_
          intro _ _ hr; cases hr
          refine J_iload_n cx dX7_makeRoot_102 rfl 4 rfl ?_
          refine J_callVi cx kX7_95 (As := [.int (nI ((κ.1, κ.2.1, upn κ.2.2.1 1 ((κ.2.2.1 1) + 1), κ.2.2.2.1, κ.2.2.2.2).2.2.1 0)), .int ln]) (tX7_authority l D g A ad (mkK (κ.1, κ.2.1, upn κ.2.2.1 1 ((κ.2.2.1 1) + 1), κ.2.2.2.1, κ.2.2.2.2) xn (nI ((κ.2.2.1 1) + 1)) xn (nI ((κ.2.2.1 1) + 1)) dy) (if false then (nI 2) else nI 0) ch cm rm row  ((κ.1, κ.2.1, upn κ.2.2.1 1 ((κ.2.2.1 1) + 1), κ.2.2.2.1, κ.2.2.2.2).2.2.1 0) ln (show κ.2.2.1 0 < 40 by omega)) ⟨rfl, rfl, by decide, by decide⟩ ⟨by decide, by decide⟩ rfl 0 rfl rfl rfl (Nat.le_of_ble_eq_true rfl) dX7_makeRoot_103 ?_
          intro _ _ hr; cases hr
          refine J_top (v' := .int (nI (κ.2.2.1 0))) rfl ?_
          refine J_istore cx (L' := [(5, .int (nI (κ.2.2.1 0))), (4, .int (nI 1)), (0, .ref (ad 0)), (1, .int xn), (2, .int dy), (3, .int ln)]) dX7_makeRoot_106 (by decide) rfl ?_
          refine J_aload_n cx dX7_makeRoot_108 rfl 2 rfl ?_
          refine J_get cx (v := .ref (ad 12)) fX7_44 0 rfl rfl dX7_makeRoot_109 ?_
          refine J_iload cx dX7_makeRoot_112 0 rfl ?_
          refine J_iconst cx (v := nI 1) dX7_makeRoot_114 (by decide) ?_
          refine J_zast cx (ws' := (mW ad g ((auK (mkK (κ.1, κ.2.1, upn κ.2.2.1 1 ((κ.2.2.1 1) + 1), κ.2.2.2.1, κ.2.2.2.2) xn (nI ((κ.2.2.1 1) + 1)) xn (nI ((κ.2.2.1 1) + 1)) dy) ((κ.1, κ.2.1, upn κ.2.2.1 1 ((κ.2.2.1 1) + 1), κ.2.2.2.1, κ.2.2.2.2).2.2.1 0) ln).1, upB ((auK (mkK (κ.1, κ.2.1, upn κ.2.2.1 1 ((κ.2.2.1 1) + 1), κ.2.2.2.1, κ.2.2.2.2) xn (nI ((κ.2.2.1 1) + 1)) xn (nI ((κ.2.2.1 1) + 1)) dy) ((κ.1, κ.2.1, upn κ.2.2.1 1 ((κ.2.2.1 1) + 1), κ.2.2.2.1, κ.2.2.2.2).2.2.1 0) ln).2.1) 1 (κ.2.2.1 0) true, (auK (mkK (κ.1, κ.2.1, upn κ.2.2.1 1 ((κ.2.2.1 1) + 1), κ.2.2.2.1, κ.2.2.2.2) xn (nI ((κ.2.2.1 1) + 1)) xn (nI ((κ.2.2.1 1) + 1)) dy) ((κ.1, κ.2.1, upn κ.2.2.1 1 ((κ.2.2.1 1) + 1), κ.2.2.2.1, κ.2.2.2.2).2.2.1 0) ln).2.2.1, (auK (mkK (κ.1, κ.2.1, upn κ.2.2.1 1 ((κ.2.2.1 1) + 1), κ.2.2.2.1, κ.2.2.2.2) xn (nI ((κ.2.2.1 1) + 1)) xn (nI ((κ.2.2.1 1) + 1)) dy) ((κ.1, κ.2.1, upn κ.2.2.1 1 ((κ.2.2.1 1) + 1), κ.2.2.2.1, κ.2.2.2.2).2.2.1 0) ln).2.2.2.1, (auK (mkK (κ.1, κ.2.1, upn κ.2.2.1 1 ((κ.2.2.1 1) + 1), κ.2.2.2.1, κ.2.2.2.2) xn (nI ((κ.2.2.1 1) + 1)) xn (nI ((κ.2.2.1 1) + 1)) dy) ((κ.1, κ.2.1, upn κ.2.2.1 1 ((κ.2.2.1 1) + 1), κ.2.2.2.1, κ.2.2.2.2).2.2.1 0) ln).2.2.2.2) (if false then (nI 2) else nI 0) ch cm rm row)) (j := (κ.2.2.1 0)) 12 rfl  rfl (by omega) (by decide) (by rw [show vp_nar .boolean (nI 1) = zb true from zb_vnar true, upb_zb]; rfl) dX7_makeRoot_115 ?_
          refine J_iload cx dX7_makeRoot_116 0 rfl ?_
          exact J_iret cx rfl (u := ()) (by simp only [opMakeRoot, Bool.and_true, Bool.true_and, Bool.and_false, Bool.false_and, Bool.or_true, Bool.true_or, Bool.or_false, Bool.false_or, Bool.not_true, Bool.not_false, if_true, if_false, Bool.false_eq_true, decide_true, decide_false, ite_true, ite_false, ne_eq, not_true_eq_false, not_false_eq_true, xj, c_1, c_4, c_7, c_12, c_12d]; try rfl) (by simp only [opMakeRoot, Bool.and_true, Bool.true_and, Bool.and_false, Bool.false_and, Bool.or_true, Bool.true_or, Bool.or_false, Bool.false_or, Bool.not_true, Bool.not_false, if_true, if_false, Bool.false_eq_true, decide_true, decide_false, ite_true, ite_false, ne_eq, not_true_eq_false, not_false_eq_true, xj, c_1, c_4, c_7, c_12, c_12d]; try rfl) (Nat.le_of_ble_eq_true rfl) (Nat.le_of_ble_eq_true rfl) dX7_makeRoot_118
        · have c_12 := (nat_ic_ne_f (by omega) (by omega)).mp c_12
          have c_12d := decide_eq_true c_12
          refine J_iconst cx (v := nI 1) dX7_makeRoot_62 (by decide) ?_
          refine J_goto cx (tgt := 67) dX7_makeRoot_63 (by decide) ?_
          refine J_iconst cx (v := nI 2) dX7_makeRoot_67 (by decide) ?_
          refine J_callVi cx kX7_78 (As := [.int (nI 1), .int (nI 2)]) (tX7_isThrown l D g A ad κ (if false then (nI 1) else nI 0) ch cm rm row  true (nI 2) ) ⟨rfl, rfl, by decide, by decide⟩ ⟨by decide, by decide⟩ rfl 0 rfl rfl rfl (Nat.le_of_ble_eq_true rfl) dX7_makeRoot_68 ?_
          intro _ _ hr; cases hr
          refine J_ifz_eq cx (tgt := 76) dX7_makeRoot_71 (by decide) (fun h => absurd h (by decide)) (fun _ => ?_)
          refine J_iconst cx (v := nI 0) dX7_makeRoot_74 (by decide) ?_
          exact J_iret cx rfl (u := ()) (by simp only [opMakeRoot, Bool.and_true, Bool.true_and, Bool.and_false, Bool.false_and, Bool.or_true, Bool.true_or, Bool.or_false, Bool.false_or, Bool.not_true, Bool.not_false, if_true, if_false, Bool.false_eq_true, decide_true, decide_false, ite_true, ite_false, ne_eq, not_true_eq_false, not_false_eq_true, xj, c_1, c_4, c_7, c_12d]; try rfl) (by simp only [opMakeRoot, Bool.and_true, Bool.true_and, Bool.and_false, Bool.false_and, Bool.or_true, Bool.true_or, Bool.or_false, Bool.false_or, Bool.not_true, Bool.not_false, if_true, if_false, Bool.false_eq_true, decide_true, decide_false, ite_true, ite_false, ne_eq, not_true_eq_false, not_false_eq_true, xj, c_1, c_4, c_7, c_12d]; try rfl) (Nat.le_of_ble_eq_true rfl) (Nat.le_of_ble_eq_true rfl) dX7_makeRoot_75
set_option maxHeartbeats 4000000 in
set_option maxRecDepth 100000 in
theorem tX7_issue (l : Launch) (D : va_G) (g : Nat → ClassId) (A : Nat → Prop) (ad : Nat → Nat) (κ : CS) (th : Int32) (ch : Nat → Nat) (cm rm : Nat) (row : Nat → Int64)  (xc : Int32) (xn : Int32) (dy : Int32) (hn : κ.2.2.1 0 ≤ 40) : CtI l D g A yX7_issue cX7_issue 4 .int ({ frames := 4, cells := 0, slots := 0, locals := 86 } : Room) [.ref (ad 0), .int xc, .int xn, .int dy] (mW ad g κ th ch cm rm row) ((opIssue κ xc xn dy).2.1) (mW ad g ((opIssue κ xc xn dy).2.2) (nI (opIssue κ xc xn dy).1) ch cm rm row) := by
  refine metJ (by decide) (Nat.le_of_ble_eq_true rfl) ?_
  intro p e s m args below meth c _ _ cx
  refine J_aload_n cx dX7_issue_0 rfl 0 rfl ?_
  refine J_iload_n cx dX7_issue_1 rfl 1 rfl ?_
  refine J_iload_n cx dX7_issue_2 rfl 2 rfl ?_
  refine J_callSi cx kX7_85 (As := [.int xn]) (tX7_isName l D g A ad κ th ch cm rm row  xn ) ⟨rfl, rfl, by decide, by decide⟩ ⟨by decide, by decide⟩ rfl rfl (Nat.le_of_ble_eq_true rfl) dX7_issue_3 ?_
  intro _ _ hr; cases hr
  refine J_ifz_eq cx (tgt := 24) dX7_issue_6 (by decide) (fun c_1 => ?_) (fun c_1 => ?_)
  · refine J_iconst cx (v := nI 0) dX7_issue_24 (by decide) ?_
    refine J_callVi cx kX7_102 (As := [.int xc, .int (nI 0)]) (tX7_cannotIssue l D g A ad κ th ch cm rm row  xc false (by first | assumption | omega)) ⟨rfl, rfl, by decide, by decide⟩ ⟨by decide, by decide⟩ rfl 0 rfl rfl rfl (Nat.le_of_ble_eq_true rfl) dX7_issue_25 ?_
    intro _ _ hr; cases hr
    refine J_ifz_eq cx (tgt := 33) dX7_issue_28 (by decide) (fun c_2 => ?_) (fun c_2 => ?_)
    · have c_2 := bn_f c_2
      have c_2 := of_decide_eq_true c_2
      obtain ⟨j, hj, hxj, -, hau, hn4⟩ := canI_0 c_2 hn; subst hxj
      have hjc : (nI j).toNatClampNeg = j := nI_clamp (by omega)
      refine J_aload_n cx dX7_issue_33 rfl 0 rfl ?_
      refine J_dup cx dX7_issue_34 rfl ?_
      refine J_get cx (v := .int (nI (κ.2.2.1 1))) fX7_88 0 rfl rfl dX7_issue_35 ?_
      refine J_iconst cx (v := nI 1) dX7_issue_38 (by decide) ?_
      refine J_iadd cx dX7_issue_39 ?_
      refine J_top (v' := .int (nI ((κ.2.2.1 1) + 1))) (congrArg Value.int (nI_add (κ.2.2.1 1) 1)) ?_
      refine J_put cx (ws' := (mW ad g (κ.1, κ.2.1, upn κ.2.2.1 1 ((κ.2.2.1 1) + 1), κ.2.2.2.1, κ.2.2.2.2) (nI (canI κ (nI j) false)) ch cm rm row)) fX7_88 ⟨tyX7_ok, nmX7, tyX7_ok 18 (by decide)⟩ rfl 0 rfl rfl rfl (Nat.le_of_ble_eq_true rfl) rfl dX7_issue_40 ?_
      refine J_aload_n cx dX7_issue_43 rfl 0 rfl ?_
      refine J_iload_n cx dX7_issue_44 rfl 2 rfl ?_
      refine J_aload_n cx dX7_issue_45 rfl 0 rfl ?_
      refine J_get cx (v := .int (nI ((κ.2.2.1 1) + 1))) fX7_88 0 rfl rfl dX7_issue_46 ?_
      refine J_aload_n cx dX7_issue_49 rfl 0 rfl ?_
      refine J_get cx (v := .ref (ad 1)) fX7_9 0 rfl rfl dX7_issue_50 ?_
      refine J_iload_n cx dX7_issue_53 rfl 1 rfl ?_
      refine J_iald cx (j := j) (f := κ.1 0) 1 rfl rfl (by omega) (by decide) dX7_issue_54 ?_
      refine J_aload_n cx dX7_issue_55 rfl 0 rfl ?_
      refine J_get cx (v := .ref (ad 2)) fX7_13 0 rfl rfl dX7_issue_56 ?_
      refine J_iload_n cx dX7_issue_59 rfl 1 rfl ?_
      refine J_iald cx (j := j) (f := κ.1 1) 2 rfl rfl (by omega) (by decide) dX7_issue_60 ?_
      refine J_iload_n cx dX7_issue_61 rfl 3 rfl ?_
      refine J_callVi cx kX7_91 (As := [.int xn, .int (nI ((κ.2.2.1 1) + 1)), .int (κ.1 0 j), .int (κ.1 1 j), .int dy]) (tX7_makes l D g A ad (κ.1, κ.2.1, upn κ.2.2.1 1 ((κ.2.2.1 1) + 1), κ.2.2.2.1, κ.2.2.2.2) (nI (canI κ (nI j) false)) ch cm rm row  xn (nI ((κ.2.2.1 1) + 1)) (κ.1 0 j) (κ.1 1 j) dy (show κ.2.2.1 0 < 40 by omega)) ⟨rfl, rfl, by decide, by decide⟩ ⟨by decide, by decide⟩ rfl 0 rfl rfl rfl (Nat.le_of_ble_eq_true rfl) dX7_issue_62 ?_
      intro _ _ hr; cases hr
      exact J_iret cx rfl (u := ()) (by simp only [opIssue, Bool.and_true, Bool.true_and, Bool.and_false, Bool.false_and, Bool.or_true, Bool.true_or, Bool.or_false, Bool.false_or, Bool.not_true, Bool.not_false, if_true, if_false, Bool.false_eq_true, decide_true, decide_false, ite_true, ite_false, ne_eq, not_true_eq_false, not_false_eq_true, xj, c_1, c_2, hjc]; try rfl) (by simp only [opIssue, Bool.and_true, Bool.true_and, Bool.and_false, Bool.false_and, Bool.or_true, Bool.true_or, Bool.or_false, Bool.false_or, Bool.not_true, Bool.not_false, if_true, if_false, Bool.false_eq_true, decide_true, decide_false, ite_true, ite_false, ne_eq, not_true_eq_false, not_false_eq_true, xj, c_1, c_2, hjc]; try rfl) (Nat.le_of_ble_eq_true rfl) (Nat.le_of_ble_eq_true rfl) dX7_issue_65
    · have c_2 := bn_t c_2
      have c_2 := of_decide_eq_false c_2
      refine J_iconst cx (v := nI 0) dX7_issue_31 (by decide) ?_
      exact J_iret cx rfl (u := ()) (by simp only [opIssue, Bool.and_true, Bool.true_and, Bool.and_false, Bool.false_and, Bool.or_true, Bool.true_or, Bool.or_false, Bool.false_or, Bool.not_true, Bool.not_false, if_true, if_false, Bool.false_eq_true, decide_true, decide_false, ite_true, ite_false, ne_eq, not_true_eq_false, not_false_eq_true, xj, c_1, c_2]; try rfl) (by simp only [opIssue, Bool.and_true, Bool.true_and, Bool.and_false, Bool.false_and, Bool.or_true, Bool.true_or, Bool.or_false, Bool.false_or, Bool.not_true, Bool.not_false, if_true, if_false, Bool.false_eq_true, decide_true, decide_false, ite_true, ite_false, ne_eq, not_true_eq_false, not_false_eq_true, xj, c_1, c_2]; try rfl) (Nat.le_of_ble_eq_true rfl) (Nat.le_of_ble_eq_true rfl) dX7_issue_32
  · refine J_iload_n cx dX7_issue_9 rfl 3 rfl ?_
    refine J_iconst cx (v := nI 1) dX7_issue_10 (by decide) ?_
    refine J_sipush cx (v := nI 999) dX7_issue_11 (by decide) ?_
    refine J_callSi cx kX7_67 (As := [.int dy, .int (nI 1), .int (nI 999)]) (tX7_isIn l D g A ad κ th ch cm rm row  dy (nI 1) (nI 999) ) ⟨rfl, rfl, by decide, by decide⟩ ⟨by decide, by decide⟩ rfl rfl (Nat.le_of_ble_eq_true rfl) dX7_issue_14 ?_
    intro _ _ hr; cases hr
    refine J_ifz_eq cx (tgt := 24) dX7_issue_17 (by decide) (fun c_3 => ?_) (fun c_3 => ?_)
    · refine J_iconst cx (v := nI 0) dX7_issue_24 (by decide) ?_
      refine J_callVi cx kX7_102 (As := [.int xc, .int (nI 0)]) (tX7_cannotIssue l D g A ad κ th ch cm rm row  xc false (by first | assumption | omega)) ⟨rfl, rfl, by decide, by decide⟩ ⟨by decide, by decide⟩ rfl 0 rfl rfl rfl (Nat.le_of_ble_eq_true rfl) dX7_issue_25 ?_
      intro _ _ hr; cases hr
      refine J_ifz_eq cx (tgt := 33) dX7_issue_28 (by decide) (fun c_4 => ?_) (fun c_4 => ?_)
      · have c_4 := bn_f c_4
        have c_4 := of_decide_eq_true c_4
        obtain ⟨j, hj, hxj, -, hau, hn4⟩ := canI_0 c_4 hn; subst hxj
        have hjc : (nI j).toNatClampNeg = j := nI_clamp (by omega)
        refine J_aload_n cx dX7_issue_33 rfl 0 rfl ?_
        refine J_dup cx dX7_issue_34 rfl ?_
        refine J_get cx (v := .int (nI (κ.2.2.1 1))) fX7_88 0 rfl rfl dX7_issue_35 ?_
        refine J_iconst cx (v := nI 1) dX7_issue_38 (by decide) ?_
        refine J_iadd cx dX7_issue_39 ?_
        refine J_top (v' := .int (nI ((κ.2.2.1 1) + 1))) (congrArg Value.int (nI_add (κ.2.2.1 1) 1)) ?_
        refine J_put cx (ws' := (mW ad g (κ.1, κ.2.1, upn κ.2.2.1 1 ((κ.2.2.1 1) + 1), κ.2.2.2.1, κ.2.2.2.2) (nI (canI κ (nI j) false)) ch cm rm row)) fX7_88 ⟨tyX7_ok, nmX7, tyX7_ok 18 (by decide)⟩ rfl 0 rfl rfl rfl (Nat.le_of_ble_eq_true rfl) rfl dX7_issue_40 ?_
        refine J_aload_n cx dX7_issue_43 rfl 0 rfl ?_
        refine J_iload_n cx dX7_issue_44 rfl 2 rfl ?_
        refine J_aload_n cx dX7_issue_45 rfl 0 rfl ?_
        refine J_get cx (v := .int (nI ((κ.2.2.1 1) + 1))) fX7_88 0 rfl rfl dX7_issue_46 ?_
        refine J_aload_n cx dX7_issue_49 rfl 0 rfl ?_
        refine J_get cx (v := .ref (ad 1)) fX7_9 0 rfl rfl dX7_issue_50 ?_
        refine J_iload_n cx dX7_issue_53 rfl 1 rfl ?_
        refine J_iald cx (j := j) (f := κ.1 0) 1 rfl rfl (by omega) (by decide) dX7_issue_54 ?_
        refine J_aload_n cx dX7_issue_55 rfl 0 rfl ?_
        refine J_get cx (v := .ref (ad 2)) fX7_13 0 rfl rfl dX7_issue_56 ?_
        refine J_iload_n cx dX7_issue_59 rfl 1 rfl ?_
        refine J_iald cx (j := j) (f := κ.1 1) 2 rfl rfl (by omega) (by decide) dX7_issue_60 ?_
        refine J_iload_n cx dX7_issue_61 rfl 3 rfl ?_
        refine J_callVi cx kX7_91 (As := [.int xn, .int (nI ((κ.2.2.1 1) + 1)), .int (κ.1 0 j), .int (κ.1 1 j), .int dy]) (tX7_makes l D g A ad (κ.1, κ.2.1, upn κ.2.2.1 1 ((κ.2.2.1 1) + 1), κ.2.2.2.1, κ.2.2.2.2) (nI (canI κ (nI j) false)) ch cm rm row  xn (nI ((κ.2.2.1 1) + 1)) (κ.1 0 j) (κ.1 1 j) dy (show κ.2.2.1 0 < 40 by omega)) ⟨rfl, rfl, by decide, by decide⟩ ⟨by decide, by decide⟩ rfl 0 rfl rfl rfl (Nat.le_of_ble_eq_true rfl) dX7_issue_62 ?_
        intro _ _ hr; cases hr
        exact J_iret cx rfl (u := ()) (by simp only [opIssue, Bool.and_true, Bool.true_and, Bool.and_false, Bool.false_and, Bool.or_true, Bool.true_or, Bool.or_false, Bool.false_or, Bool.not_true, Bool.not_false, if_true, if_false, Bool.false_eq_true, decide_true, decide_false, ite_true, ite_false, ne_eq, not_true_eq_false, not_false_eq_true, xj, c_1, c_3, c_4, hjc]; try rfl) (by simp only [opIssue, Bool.and_true, Bool.true_and, Bool.and_false, Bool.false_and, Bool.or_true, Bool.true_or, Bool.or_false, Bool.false_or, Bool.not_true, Bool.not_false, if_true, if_false, Bool.false_eq_true, decide_true, decide_false, ite_true, ite_false, ne_eq, not_true_eq_false, not_false_eq_true, xj, c_1, c_3, c_4, hjc]; try rfl) (Nat.le_of_ble_eq_true rfl) (Nat.le_of_ble_eq_true rfl) dX7_issue_65
      · have c_4 := bn_t c_4
        have c_4 := of_decide_eq_false c_4
        refine J_iconst cx (v := nI 0) dX7_issue_31 (by decide) ?_
        exact J_iret cx rfl (u := ()) (by simp only [opIssue, Bool.and_true, Bool.true_and, Bool.and_false, Bool.false_and, Bool.or_true, Bool.true_or, Bool.or_false, Bool.false_or, Bool.not_true, Bool.not_false, if_true, if_false, Bool.false_eq_true, decide_true, decide_false, ite_true, ite_false, ne_eq, not_true_eq_false, not_false_eq_true, xj, c_1, c_3, c_4]; try rfl) (by simp only [opIssue, Bool.and_true, Bool.true_and, Bool.and_false, Bool.false_and, Bool.or_true, Bool.true_or, Bool.or_false, Bool.false_or, Bool.not_true, Bool.not_false, if_true, if_false, Bool.false_eq_true, decide_true, decide_false, ite_true, ite_false, ne_eq, not_true_eq_false, not_false_eq_true, xj, c_1, c_3, c_4]; try rfl) (Nat.le_of_ble_eq_true rfl) (Nat.le_of_ble_eq_true rfl) dX7_issue_32
    · refine J_iconst cx (v := nI 1) dX7_issue_20 (by decide) ?_
      refine J_goto cx (tgt := 25) dX7_issue_21 (by decide) ?_
      refine J_callVi cx kX7_102 (As := [.int xc, .int (nI 1)]) (tX7_cannotIssue l D g A ad κ th ch cm rm row  xc true (by first | assumption | omega)) ⟨rfl, rfl, by decide, by decide⟩ ⟨by decide, by decide⟩ rfl 0 rfl rfl rfl (Nat.le_of_ble_eq_true rfl) dX7_issue_25 ?_
      intro _ _ hr; cases hr
      refine J_ifz_eq cx (tgt := 33) dX7_issue_28 (by decide) (fun c_5 => ?_) (fun c_5 => ?_)
      · have c_5 := bn_f c_5
        have c_5 := of_decide_eq_true c_5
        obtain ⟨j, hj, hxj, -, hau, hn4⟩ := canI_0 c_5 hn; subst hxj
        have hjc : (nI j).toNatClampNeg = j := nI_clamp (by omega)
        refine J_aload_n cx dX7_issue_33 rfl 0 rfl ?_
        refine J_dup cx dX7_issue_34 rfl ?_
        refine J_get cx (v := .int (nI (κ.2.2.1 1))) fX7_88 0 rfl rfl dX7_issue_35 ?_
        refine J_iconst cx (v := nI 1) dX7_issue_38 (by decide) ?_
        refine J_iadd cx dX7_issue_39 ?_
        refine J_top (v' := .int (nI ((κ.2.2.1 1) + 1))) (congrArg Value.int (nI_add (κ.2.2.1 1) 1)) ?_
        refine J_put cx (ws' := (mW ad g (κ.1, κ.2.1, upn κ.2.2.1 1 ((κ.2.2.1 1) + 1), κ.2.2.2.1, κ.2.2.2.2) (nI (canI κ (nI j) true)) ch cm rm row)) fX7_88 ⟨tyX7_ok, nmX7, tyX7_ok 18 (by decide)⟩ rfl 0 rfl rfl rfl (Nat.le_of_ble_eq_true rfl) rfl dX7_issue_40 ?_
        refine J_aload_n cx dX7_issue_43 rfl 0 rfl ?_
        refine J_iload_n cx dX7_issue_44 rfl 2 rfl ?_
        refine J_aload_n cx dX7_issue_45 rfl 0 rfl ?_
        refine J_get cx (v := .int (nI ((κ.2.2.1 1) + 1))) fX7_88 0 rfl rfl dX7_issue_46 ?_
        refine J_aload_n cx dX7_issue_49 rfl 0 rfl ?_
        refine J_get cx (v := .ref (ad 1)) fX7_9 0 rfl rfl dX7_issue_50 ?_
        refine J_iload_n cx dX7_issue_53 rfl 1 rfl ?_
        refine J_iald cx (j := j) (f := κ.1 0) 1 rfl rfl (by omega) (by decide) dX7_issue_54 ?_
        refine J_aload_n cx dX7_issue_55 rfl 0 rfl ?_
        refine J_get cx (v := .ref (ad 2)) fX7_13 0 rfl rfl dX7_issue_56 ?_
        refine J_iload_n cx dX7_issue_59 rfl 1 rfl ?_
        refine J_iald cx (j := j) (f := κ.1 1) 2 rfl rfl (by omega) (by decide) dX7_issue_60 ?_
        refine J_iload_n cx dX7_issue_61 rfl 3 rfl ?_
        refine J_callVi cx kX7_91 (As := [.int xn, .int (nI ((κ.2.2.1 1) + 1)), .int (κ.1 0 j), .int (κ.1 1 j), .int dy]) (tX7_makes l D g A ad (κ.1, κ.2.1, upn κ.2.2.1 1 ((κ.2.2.1 1) + 1), κ.2.2.2.1, κ.2.2.2.2) (nI (canI κ (nI j) true)) ch cm rm row  xn (nI ((κ.2.2.1 1) + 1)) (κ.1 0 j) (κ.1 1 j) dy (show κ.2.2.1 0 < 40 by omega)) ⟨rfl, rfl, by decide, by decide⟩ ⟨by decide, by decide⟩ rfl 0 rfl rfl rfl (Nat.le_of_ble_eq_true rfl) dX7_issue_62 ?_
        intro _ _ hr; cases hr
        exact J_iret cx rfl (u := ()) (by simp only [opIssue, Bool.and_true, Bool.true_and, Bool.and_false, Bool.false_and, Bool.or_true, Bool.true_or, Bool.or_false, Bool.false_or, Bool.not_true, Bool.not_false, if_true, if_false, Bool.false_eq_true, decide_true, decide_false, ite_true, ite_false, ne_eq, not_true_eq_false, not_false_eq_true, xj, c_1, c_3, c_5, hjc]; try rfl) (by simp only [opIssue, Bool.and_true, Bool.true_and, Bool.and_false, Bool.false_and, Bool.or_true, Bool.true_or, Bool.or_false, Bool.false_or, Bool.not_true, Bool.not_false, if_true, if_false, Bool.false_eq_true, decide_true, decide_false, ite_true, ite_false, ne_eq, not_true_eq_false, not_false_eq_true, xj, c_1, c_3, c_5, hjc]; try rfl) (Nat.le_of_ble_eq_true rfl) (Nat.le_of_ble_eq_true rfl) dX7_issue_65
      · have c_5 := bn_t c_5
        have c_5 := of_decide_eq_false c_5
        refine J_iconst cx (v := nI 0) dX7_issue_31 (by decide) ?_
        exact J_iret cx rfl (u := ()) (by simp only [opIssue, Bool.and_true, Bool.true_and, Bool.and_false, Bool.false_and, Bool.or_true, Bool.true_or, Bool.or_false, Bool.false_or, Bool.not_true, Bool.not_false, if_true, if_false, Bool.false_eq_true, decide_true, decide_false, ite_true, ite_false, ne_eq, not_true_eq_false, not_false_eq_true, xj, c_1, c_3, c_5]; try rfl) (by simp only [opIssue, Bool.and_true, Bool.true_and, Bool.and_false, Bool.false_and, Bool.or_true, Bool.true_or, Bool.or_false, Bool.false_or, Bool.not_true, Bool.not_false, if_true, if_false, Bool.false_eq_true, decide_true, decide_false, ite_true, ite_false, ne_eq, not_true_eq_false, not_false_eq_true, xj, c_1, c_3, c_5]; try rfl) (Nat.le_of_ble_eq_true rfl) (Nat.le_of_ble_eq_true rfl) dX7_issue_32
set_option maxHeartbeats 4000000 in
set_option maxRecDepth 100000 in
theorem tX7_issueAuthority (l : Launch) (D : va_G) (g : Nat → ClassId) (A : Nat → Prop) (ad : Nat → Nat) (κ : CS) (th : Int32) (ch : Nat → Nat) (cm rm : Nat) (row : Nat → Int64)  (xc : Int32) (xn : Int32) (dy : Int32) (ln : Int32) (hn : κ.2.2.1 0 ≤ 40) : CtI l D g A yX7_issueAuthority cX7_issueAuthority 5 .int ({ frames := 4, cells := 0, slots := 0, locals := 86 } : Room) [.ref (ad 0), .int xc, .int xn, .int dy, .int ln] (mW ad g κ th ch cm rm row) ((opIssueA κ xc xn dy ln).2.1) (mW ad g ((opIssueA κ xc xn dy ln).2.2) (nI (opIssueA κ xc xn dy ln).1) ch cm rm row) := by
  refine metJ (by decide) (Nat.le_of_ble_eq_true rfl) ?_
  intro p e s m args below meth c _ _ cx
  refine J_aload_n cx dX7_issueAuthority_0 rfl 0 rfl ?_
  refine J_iload_n cx dX7_issueAuthority_1 rfl 1 rfl ?_
  refine J_iload_n cx dX7_issueAuthority_2 rfl 2 rfl ?_
  refine J_callSi cx kX7_85 (As := [.int xn]) (tX7_isName l D g A ad κ th ch cm rm row  xn ) ⟨rfl, rfl, by decide, by decide⟩ ⟨by decide, by decide⟩ rfl rfl (Nat.le_of_ble_eq_true rfl) dX7_issueAuthority_3 ?_
  intro _ _ hr; cases hr
  refine J_ifz_eq cx (tgt := 34) dX7_issueAuthority_6 (by decide) (fun c_1 => ?_) (fun c_1 => ?_)
  · refine J_iconst cx (v := nI 0) dX7_issueAuthority_34 (by decide) ?_
    refine J_callVi cx kX7_102 (As := [.int xc, .int (nI 0)]) (tX7_cannotIssue l D g A ad κ th ch cm rm row  xc false (by first | assumption | omega)) ⟨rfl, rfl, by decide, by decide⟩ ⟨by decide, by decide⟩ rfl 0 rfl rfl rfl (Nat.le_of_ble_eq_true rfl) dX7_issueAuthority_35 ?_
    intro _ _ hr; cases hr
    refine J_ifz_eq cx (tgt := 43) dX7_issueAuthority_38 (by decide) (fun c_2 => ?_) (fun c_2 => ?_)
    · have c_2 := bn_f c_2
      have c_2 := of_decide_eq_true c_2
      obtain ⟨j, hj, hxj, -, hau, hn4⟩ := canI_0 c_2 hn; subst hxj
      have hjc : (nI j).toNatClampNeg = j := nI_clamp (by omega)
      refine J_aload_n cx dX7_issueAuthority_43 rfl 0 rfl ?_
      refine J_dup cx dX7_issueAuthority_44 rfl ?_
      refine J_get cx (v := .int (nI (κ.2.2.1 1))) fX7_88 0 rfl rfl dX7_issueAuthority_45 ?_
      refine J_iconst cx (v := nI 1) dX7_issueAuthority_48 (by decide) ?_
      refine J_iadd cx dX7_issueAuthority_49 ?_
      refine J_top (v' := .int (nI ((κ.2.2.1 1) + 1))) (congrArg Value.int (nI_add (κ.2.2.1 1) 1)) ?_
      refine J_put cx (ws' := (mW ad g (κ.1, κ.2.1, upn κ.2.2.1 1 ((κ.2.2.1 1) + 1), κ.2.2.2.1, κ.2.2.2.2) (nI (canI κ (nI j) false)) ch cm rm row)) fX7_88 ⟨tyX7_ok, nmX7, tyX7_ok 18 (by decide)⟩ rfl 0 rfl rfl rfl (Nat.le_of_ble_eq_true rfl) rfl dX7_issueAuthority_50 ?_
      refine J_aload_n cx dX7_issueAuthority_53 rfl 0 rfl ?_
      refine J_aload_n cx dX7_issueAuthority_54 rfl 0 rfl ?_
      refine J_iload_n cx dX7_issueAuthority_55 rfl 2 rfl ?_
      refine J_aload_n cx dX7_issueAuthority_56 rfl 0 rfl ?_
      refine J_get cx (v := .int (nI ((κ.2.2.1 1) + 1))) fX7_88 0 rfl rfl dX7_issueAuthority_57 ?_
      refine J_aload_n cx dX7_issueAuthority_60 rfl 0 rfl ?_
      refine J_get cx (v := .ref (ad 1)) fX7_9 0 rfl rfl dX7_issueAuthority_61 ?_
      refine J_iload_n cx dX7_issueAuthority_64 rfl 1 rfl ?_
      refine J_iald cx (j := j) (f := κ.1 0) 1 rfl rfl (by omega) (by decide) dX7_issueAuthority_65 ?_
      refine J_aload_n cx dX7_issueAuthority_66 rfl 0 rfl ?_
      refine J_get cx (v := .ref (ad 2)) fX7_13 0 rfl rfl dX7_issueAuthority_67 ?_
      refine J_iload_n cx dX7_issueAuthority_70 rfl 1 rfl ?_
      refine J_iald cx (j := j) (f := κ.1 1) 2 rfl rfl (by omega) (by decide) dX7_issueAuthority_71 ?_
      refine J_iload_n cx dX7_issueAuthority_72 rfl 3 rfl ?_
      refine J_callVi cx kX7_91 (As := [.int xn, .int (nI ((κ.2.2.1 1) + 1)), .int (κ.1 0 j), .int (κ.1 1 j), .int dy]) (tX7_makes l D g A ad (κ.1, κ.2.1, upn κ.2.2.1 1 ((κ.2.2.1 1) + 1), κ.2.2.2.1, κ.2.2.2.2) (nI (canI κ (nI j) false)) ch cm rm row  xn (nI ((κ.2.2.1 1) + 1)) (κ.1 0 j) (κ.1 1 j) dy (show κ.2.2.1 0 < 40 by omega)) ⟨rfl, rfl, by decide, by decide⟩ ⟨by decide, by decide⟩ rfl 0 rfl rfl rfl (Nat.le_of_ble_eq_true rfl) dX7_issueAuthority_73 ?_
      intro _ _ hr; cases hr
      refine J_top (v' := .int (nI (κ.2.2.1 0))) rfl ?_
      refine J_iload cx dX7_issueAuthority_76 4 rfl ?_
      refine J_callVi cx kX7_95 (As := [.int (nI (κ.2.2.1 0)), .int ln]) (tX7_authority l D g A ad (mkK (κ.1, κ.2.1, upn κ.2.2.1 1 ((κ.2.2.1 1) + 1), κ.2.2.2.1, κ.2.2.2.2) xn (nI ((κ.2.2.1 1) + 1)) (κ.1 0 j) (κ.1 1 j) dy) (nI (canI κ (nI j) false)) ch cm rm row  (κ.2.2.1 0) ln (by omega)) ⟨rfl, rfl, by decide, by decide⟩ ⟨by decide, by decide⟩ rfl 0 rfl rfl rfl (Nat.le_of_ble_eq_true rfl) dX7_issueAuthority_78 ?_
      intro _ _ hr; cases hr
      exact J_iret cx rfl (u := ()) (by simp only [opIssueA, Bool.and_true, Bool.true_and, Bool.and_false, Bool.false_and, Bool.or_true, Bool.true_or, Bool.or_false, Bool.false_or, Bool.not_true, Bool.not_false, if_true, if_false, Bool.false_eq_true, decide_true, decide_false, ite_true, ite_false, ne_eq, not_true_eq_false, not_false_eq_true, xj, c_1, c_2, hjc]; try rfl) (by simp only [opIssueA, Bool.and_true, Bool.true_and, Bool.and_false, Bool.false_and, Bool.or_true, Bool.true_or, Bool.or_false, Bool.false_or, Bool.not_true, Bool.not_false, if_true, if_false, Bool.false_eq_true, decide_true, decide_false, ite_true, ite_false, ne_eq, not_true_eq_false, not_false_eq_true, xj, c_1, c_2, hjc]; try rfl) (Nat.le_of_ble_eq_true rfl) (Nat.le_of_ble_eq_true rfl) dX7_issueAuthority_81
    · have c_2 := bn_t c_2
      have c_2 := of_decide_eq_false c_2
      refine J_iconst cx (v := nI 0) dX7_issueAuthority_41 (by decide) ?_
      exact J_iret cx rfl (u := ()) (by simp only [opIssueA, Bool.and_true, Bool.true_and, Bool.and_false, Bool.false_and, Bool.or_true, Bool.true_or, Bool.or_false, Bool.false_or, Bool.not_true, Bool.not_false, if_true, if_false, Bool.false_eq_true, decide_true, decide_false, ite_true, ite_false, ne_eq, not_true_eq_false, not_false_eq_true, xj, c_1, c_2]; try rfl) (by simp only [opIssueA, Bool.and_true, Bool.true_and, Bool.and_false, Bool.false_and, Bool.or_true, Bool.true_or, Bool.or_false, Bool.false_or, Bool.not_true, Bool.not_false, if_true, if_false, Bool.false_eq_true, decide_true, decide_false, ite_true, ite_false, ne_eq, not_true_eq_false, not_false_eq_true, xj, c_1, c_2]; try rfl) (Nat.le_of_ble_eq_true rfl) (Nat.le_of_ble_eq_true rfl) dX7_issueAuthority_42
  · refine J_iload_n cx dX7_issueAuthority_9 rfl 3 rfl ?_
    refine J_iconst cx (v := nI 1) dX7_issueAuthority_10 (by decide) ?_
    refine J_sipush cx (v := nI 999) dX7_issueAuthority_11 (by decide) ?_
    refine J_callSi cx kX7_67 (As := [.int dy, .int (nI 1), .int (nI 999)]) (tX7_isIn l D g A ad κ th ch cm rm row  dy (nI 1) (nI 999) ) ⟨rfl, rfl, by decide, by decide⟩ ⟨by decide, by decide⟩ rfl rfl (Nat.le_of_ble_eq_true rfl) dX7_issueAuthority_14 ?_
    intro _ _ hr; cases hr
    refine J_ifz_eq cx (tgt := 34) dX7_issueAuthority_17 (by decide) (fun c_3 => ?_) (fun c_3 => ?_)
    · refine J_iconst cx (v := nI 0) dX7_issueAuthority_34 (by decide) ?_
      refine J_callVi cx kX7_102 (As := [.int xc, .int (nI 0)]) (tX7_cannotIssue l D g A ad κ th ch cm rm row  xc false (by first | assumption | omega)) ⟨rfl, rfl, by decide, by decide⟩ ⟨by decide, by decide⟩ rfl 0 rfl rfl rfl (Nat.le_of_ble_eq_true rfl) dX7_issueAuthority_35 ?_
      intro _ _ hr; cases hr
      refine J_ifz_eq cx (tgt := 43) dX7_issueAuthority_38 (by decide) (fun c_4 => ?_) (fun c_4 => ?_)
      · have c_4 := bn_f c_4
        have c_4 := of_decide_eq_true c_4
        obtain ⟨j, hj, hxj, -, hau, hn4⟩ := canI_0 c_4 hn; subst hxj
        have hjc : (nI j).toNatClampNeg = j := nI_clamp (by omega)
        refine J_aload_n cx dX7_issueAuthority_43 rfl 0 rfl ?_
        refine J_dup cx dX7_issueAuthority_44 rfl ?_
        refine J_get cx (v := .int (nI (κ.2.2.1 1))) fX7_88 0 rfl rfl dX7_issueAuthority_45 ?_
        refine J_iconst cx (v := nI 1) dX7_issueAuthority_48 (by decide) ?_
        refine J_iadd cx dX7_issueAuthority_49 ?_
        refine J_top (v' := .int (nI ((κ.2.2.1 1) + 1))) (congrArg Value.int (nI_add (κ.2.2.1 1) 1)) ?_
        refine J_put cx (ws' := (mW ad g (κ.1, κ.2.1, upn κ.2.2.1 1 ((κ.2.2.1 1) + 1), κ.2.2.2.1, κ.2.2.2.2) (nI (canI κ (nI j) false)) ch cm rm row)) fX7_88 ⟨tyX7_ok, nmX7, tyX7_ok 18 (by decide)⟩ rfl 0 rfl rfl rfl (Nat.le_of_ble_eq_true rfl) rfl dX7_issueAuthority_50 ?_
        refine J_aload_n cx dX7_issueAuthority_53 rfl 0 rfl ?_
        refine J_aload_n cx dX7_issueAuthority_54 rfl 0 rfl ?_
        refine J_iload_n cx dX7_issueAuthority_55 rfl 2 rfl ?_
        refine J_aload_n cx dX7_issueAuthority_56 rfl 0 rfl ?_
        refine J_get cx (v := .int (nI ((κ.2.2.1 1) + 1))) fX7_88 0 rfl rfl dX7_issueAuthority_57 ?_
        refine J_aload_n cx dX7_issueAuthority_60 rfl 0 rfl ?_
        refine J_get cx (v := .ref (ad 1)) fX7_9 0 rfl rfl dX7_issueAuthority_61 ?_
        refine J_iload_n cx dX7_issueAuthority_64 rfl 1 rfl ?_
        refine J_iald cx (j := j) (f := κ.1 0) 1 rfl rfl (by omega) (by decide) dX7_issueAuthority_65 ?_
        refine J_aload_n cx dX7_issueAuthority_66 rfl 0 rfl ?_
        refine J_get cx (v := .ref (ad 2)) fX7_13 0 rfl rfl dX7_issueAuthority_67 ?_
        refine J_iload_n cx dX7_issueAuthority_70 rfl 1 rfl ?_
        refine J_iald cx (j := j) (f := κ.1 1) 2 rfl rfl (by omega) (by decide) dX7_issueAuthority_71 ?_
        refine J_iload_n cx dX7_issueAuthority_72 rfl 3 rfl ?_
        refine J_callVi cx kX7_91 (As := [.int xn, .int (nI ((κ.2.2.1 1) + 1)), .int (κ.1 0 j), .int (κ.1 1 j), .int dy]) (tX7_makes l D g A ad (κ.1, κ.2.1, upn κ.2.2.1 1 ((κ.2.2.1 1) + 1), κ.2.2.2.1, κ.2.2.2.2) (nI (canI κ (nI j) false)) ch cm rm row  xn (nI ((κ.2.2.1 1) + 1)) (κ.1 0 j) (κ.1 1 j) dy (show κ.2.2.1 0 < 40 by omega)) ⟨rfl, rfl, by decide, by decide⟩ ⟨by decide, by decide⟩ rfl 0 rfl rfl rfl (Nat.le_of_ble_eq_true rfl) dX7_issueAuthority_73 ?_
        intro _ _ hr; cases hr
        refine J_top (v' := .int (nI (κ.2.2.1 0))) rfl ?_
        refine J_iload cx dX7_issueAuthority_76 4 rfl ?_
        refine J_callVi cx kX7_95 (As := [.int (nI (κ.2.2.1 0)), .int ln]) (tX7_authority l D g A ad (mkK (κ.1, κ.2.1, upn κ.2.2.1 1 ((κ.2.2.1 1) + 1), κ.2.2.2.1, κ.2.2.2.2) xn (nI ((κ.2.2.1 1) + 1)) (κ.1 0 j) (κ.1 1 j) dy) (nI (canI κ (nI j) false)) ch cm rm row  (κ.2.2.1 0) ln (by omega)) ⟨rfl, rfl, by decide, by decide⟩ ⟨by decide, by decide⟩ rfl 0 rfl rfl rfl (Nat.le_of_ble_eq_true rfl) dX7_issueAuthority_78 ?_
        intro _ _ hr; cases hr
        exact J_iret cx rfl (u := ()) (by simp only [opIssueA, Bool.and_true, Bool.true_and, Bool.and_false, Bool.false_and, Bool.or_true, Bool.true_or, Bool.or_false, Bool.false_or, Bool.not_true, Bool.not_false, if_true, if_false, Bool.false_eq_true, decide_true, decide_false, ite_true, ite_false, ne_eq, not_true_eq_false, not_false_eq_true, xj, c_1, c_3, c_4, hjc]; try rfl) (by simp only [opIssueA, Bool.and_true, Bool.true_and, Bool.and_false, Bool.false_and, Bool.or_true, Bool.true_or, Bool.or_false, Bool.false_or, Bool.not_true, Bool.not_false, if_true, if_false, Bool.false_eq_true, decide_true, decide_false, ite_true, ite_false, ne_eq, not_true_eq_false, not_false_eq_true, xj, c_1, c_3, c_4, hjc]; try rfl) (Nat.le_of_ble_eq_true rfl) (Nat.le_of_ble_eq_true rfl) dX7_issueAuthority_81
      · have c_4 := bn_t c_4
        have c_4 := of_decide_eq_false c_4
        refine J_iconst cx (v := nI 0) dX7_issueAuthority_41 (by decide) ?_
        exact J_iret cx rfl (u := ()) (by simp only [opIssueA, Bool.and_true, Bool.true_and, Bool.and_false, Bool.false_and, Bool.or_true, Bool.true_or, Bool.or_false, Bool.false_or, Bool.not_true, Bool.not_false, if_true, if_false, Bool.false_eq_true, decide_true, decide_false, ite_true, ite_false, ne_eq, not_true_eq_false, not_false_eq_true, xj, c_1, c_3, c_4]; try rfl) (by simp only [opIssueA, Bool.and_true, Bool.true_and, Bool.and_false, Bool.false_and, Bool.or_true, Bool.true_or, Bool.or_false, Bool.false_or, Bool.not_true, Bool.not_false, if_true, if_false, Bool.false_eq_true, decide_true, decide_false, ite_true, ite_false, ne_eq, not_true_eq_false, not_false_eq_true, xj, c_1, c_3, c_4]; try rfl) (Nat.le_of_ble_eq_true rfl) (Nat.le_of_ble_eq_true rfl) dX7_issueAuthority_42
    · refine J_iload cx dX7_issueAuthority_20 4 rfl ?_
      refine J_iconst cx (v := nI 0) dX7_issueAuthority_22 (by decide) ?_
      refine J_iconst cx (v := nI 5) dX7_issueAuthority_23 (by decide) ?_
      refine J_callSi cx kX7_67 (As := [.int ln, .int (nI 0), .int (nI 5)]) (tX7_isIn l D g A ad κ th ch cm rm row  ln (nI 0) (nI 5) ) ⟨rfl, rfl, by decide, by decide⟩ ⟨by decide, by decide⟩ rfl rfl (Nat.le_of_ble_eq_true rfl) dX7_issueAuthority_24 ?_
      intro _ _ hr; cases hr
      refine J_ifz_eq cx (tgt := 34) dX7_issueAuthority_27 (by decide) (fun c_5 => ?_) (fun c_5 => ?_)
      · refine J_iconst cx (v := nI 0) dX7_issueAuthority_34 (by decide) ?_
        refine J_callVi cx kX7_102 (As := [.int xc, .int (nI 0)]) (tX7_cannotIssue l D g A ad κ th ch cm rm row  xc false (by first | assumption | omega)) ⟨rfl, rfl, by decide, by decide⟩ ⟨by decide, by decide⟩ rfl 0 rfl rfl rfl (Nat.le_of_ble_eq_true rfl) dX7_issueAuthority_35 ?_
        intro _ _ hr; cases hr
        refine J_ifz_eq cx (tgt := 43) dX7_issueAuthority_38 (by decide) (fun c_6 => ?_) (fun c_6 => ?_)
        · have c_6 := bn_f c_6
          have c_6 := of_decide_eq_true c_6
          obtain ⟨j, hj, hxj, -, hau, hn4⟩ := canI_0 c_6 hn; subst hxj
          have hjc : (nI j).toNatClampNeg = j := nI_clamp (by omega)
          refine J_aload_n cx dX7_issueAuthority_43 rfl 0 rfl ?_
          refine J_dup cx dX7_issueAuthority_44 rfl ?_
          refine J_get cx (v := .int (nI (κ.2.2.1 1))) fX7_88 0 rfl rfl dX7_issueAuthority_45 ?_
          refine J_iconst cx (v := nI 1) dX7_issueAuthority_48 (by decide) ?_
          refine J_iadd cx dX7_issueAuthority_49 ?_
          refine J_top (v' := .int (nI ((κ.2.2.1 1) + 1))) (congrArg Value.int (nI_add (κ.2.2.1 1) 1)) ?_
          refine J_put cx (ws' := (mW ad g (κ.1, κ.2.1, upn κ.2.2.1 1 ((κ.2.2.1 1) + 1), κ.2.2.2.1, κ.2.2.2.2) (nI (canI κ (nI j) false)) ch cm rm row)) fX7_88 ⟨tyX7_ok, nmX7, tyX7_ok 18 (by decide)⟩ rfl 0 rfl rfl rfl (Nat.le_of_ble_eq_true rfl) rfl dX7_issueAuthority_50 ?_
          refine J_aload_n cx dX7_issueAuthority_53 rfl 0 rfl ?_
          refine J_aload_n cx dX7_issueAuthority_54 rfl 0 rfl ?_
          refine J_iload_n cx dX7_issueAuthority_55 rfl 2 rfl ?_
          refine J_aload_n cx dX7_issueAuthority_56 rfl 0 rfl ?_
          refine J_get cx (v := .int (nI ((κ.2.2.1 1) + 1))) fX7_88 0 rfl rfl dX7_issueAuthority_57 ?_
          refine J_aload_n cx dX7_issueAuthority_60 rfl 0 rfl ?_
          refine J_get cx (v := .ref (ad 1)) fX7_9 0 rfl rfl dX7_issueAuthority_61 ?_
          refine J_iload_n cx dX7_issueAuthority_64 rfl 1 rfl ?_
          refine J_iald cx (j := j) (f := κ.1 0) 1 rfl rfl (by omega) (by decide) dX7_issueAuthority_65 ?_
          refine J_aload_n cx dX7_issueAuthority_66 rfl 0 rfl ?_
          refine J_get cx (v := .ref (ad 2)) fX7_13 0 rfl rfl dX7_issueAuthority_67 ?_
          refine J_iload_n cx dX7_issueAuthority_70 rfl 1 rfl ?_
          refine J_iald cx (j := j) (f := κ.1 1) 2 rfl rfl (by omega) (by decide) dX7_issueAuthority_71 ?_
          refine J_iload_n cx dX7_issueAuthority_72 rfl 3 rfl ?_
          refine J_callVi cx kX7_91 (As := [.int xn, .int (nI ((κ.2.2.1 1) + 1)), .int (κ.1 0 j), .int (κ.1 1 j), .int dy]) (tX7_makes l D g A ad (κ.1, κ.2.1, upn κ.2.2.1 1 ((κ.2.2.1 1) + 1), κ.2.2.2.1, κ.2.2.2.2) (nI (canI κ (nI j) false)) ch cm rm row  xn (nI ((κ.2.2.1 1) + 1)) (κ.1 0 j) (κ.1 1 j) dy (show κ.2.2.1 0 < 40 by omega)) ⟨rfl, rfl, by decide, by decide⟩ ⟨by decide, by decide⟩ rfl 0 rfl rfl rfl (Nat.le_of_ble_eq_true rfl) dX7_issueAuthority_73 ?_
          intro _ _ hr; cases hr
          refine J_top (v' := .int (nI (κ.2.2.1 0))) rfl ?_
          refine J_iload cx dX7_issueAuthority_76 4 rfl ?_
          refine J_callVi cx kX7_95 (As := [.int (nI (κ.2.2.1 0)), .int ln]) (tX7_authority l D g A ad (mkK (κ.1, κ.2.1, upn κ.2.2.1 1 ((κ.2.2.1 1) + 1), κ.2.2.2.1, κ.2.2.2.2) xn (nI ((κ.2.2.1 1) + 1)) (κ.1 0 j) (κ.1 1 j) dy) (nI (canI κ (nI j) false)) ch cm rm row  (κ.2.2.1 0) ln (by omega)) ⟨rfl, rfl, by decide, by decide⟩ ⟨by decide, by decide⟩ rfl 0 rfl rfl rfl (Nat.le_of_ble_eq_true rfl) dX7_issueAuthority_78 ?_
          intro _ _ hr; cases hr
          exact J_iret cx rfl (u := ()) (by simp only [opIssueA, Bool.and_true, Bool.true_and, Bool.and_false, Bool.false_and, Bool.or_true, Bool.true_or, Bool.or_false, Bool.false_or, Bool.not_true, Bool.not_false, if_true, if_false, Bool.false_eq_true, decide_true, decide_false, ite_true, ite_false, ne_eq, not_true_eq_false, not_false_eq_true, xj, c_1, c_3, c_5, c_6, hjc]; try rfl) (by simp only [opIssueA, Bool.and_true, Bool.true_and, Bool.and_false, Bool.false_and, Bool.or_true, Bool.true_or, Bool.or_false, Bool.false_or, Bool.not_true, Bool.not_false, if_true, if_false, Bool.false_eq_true, decide_true, decide_false, ite_true, ite_false, ne_eq, not_true_eq_false, not_false_eq_true, xj, c_1, c_3, c_5, c_6, hjc]; try rfl) (Nat.le_of_ble_eq_true rfl) (Nat.le_of_ble_eq_true rfl) dX7_issueAuthority_81
        · have c_6 := bn_t c_6
          have c_6 := of_decide_eq_false c_6
          refine J_iconst cx (v := nI 0) dX7_issueAuthority_41 (by decide) ?_
          exact J_iret cx rfl (u := ()) (by simp only [opIssueA, Bool.and_true, Bool.true_and, Bool.and_false, Bool.false_and, Bool.or_true, Bool.true_or, Bool.or_false, Bool.false_or, Bool.not_true, Bool.not_false, if_true, if_false, Bool.false_eq_true, decide_true, decide_false, ite_true, ite_false, ne_eq, not_true_eq_false, not_false_eq_true, xj, c_1, c_3, c_5, c_6]; try rfl) (by simp only [opIssueA, Bool.and_true, Bool.true_and, Bool.and_false, Bool.false_and, Bool.or_true, Bool.true_or, Bool.or_false, Bool.false_or, Bool.not_true, Bool.not_false, if_true, if_false, Bool.false_eq_true, decide_true, decide_false, ite_true, ite_false, ne_eq, not_true_eq_false, not_false_eq_true, xj, c_1, c_3, c_5, c_6]; try rfl) (Nat.le_of_ble_eq_true rfl) (Nat.le_of_ble_eq_true rfl) dX7_issueAuthority_42
      · refine J_iconst cx (v := nI 1) dX7_issueAuthority_30 (by decide) ?_
        refine J_goto cx (tgt := 35) dX7_issueAuthority_31 (by decide) ?_
        refine J_callVi cx kX7_102 (As := [.int xc, .int (nI 1)]) (tX7_cannotIssue l D g A ad κ th ch cm rm row  xc true (by first | assumption | omega)) ⟨rfl, rfl, by decide, by decide⟩ ⟨by decide, by decide⟩ rfl 0 rfl rfl rfl (Nat.le_of_ble_eq_true rfl) dX7_issueAuthority_35 ?_
        intro _ _ hr; cases hr
        refine J_ifz_eq cx (tgt := 43) dX7_issueAuthority_38 (by decide) (fun c_7 => ?_) (fun c_7 => ?_)
        · have c_7 := bn_f c_7
          have c_7 := of_decide_eq_true c_7
          obtain ⟨j, hj, hxj, -, hau, hn4⟩ := canI_0 c_7 hn; subst hxj
          have hjc : (nI j).toNatClampNeg = j := nI_clamp (by omega)
          refine J_aload_n cx dX7_issueAuthority_43 rfl 0 rfl ?_
          refine J_dup cx dX7_issueAuthority_44 rfl ?_
          refine J_get cx (v := .int (nI (κ.2.2.1 1))) fX7_88 0 rfl rfl dX7_issueAuthority_45 ?_
          refine J_iconst cx (v := nI 1) dX7_issueAuthority_48 (by decide) ?_
          refine J_iadd cx dX7_issueAuthority_49 ?_
          refine J_top (v' := .int (nI ((κ.2.2.1 1) + 1))) (congrArg Value.int (nI_add (κ.2.2.1 1) 1)) ?_
          refine J_put cx (ws' := (mW ad g (κ.1, κ.2.1, upn κ.2.2.1 1 ((κ.2.2.1 1) + 1), κ.2.2.2.1, κ.2.2.2.2) (nI (canI κ (nI j) true)) ch cm rm row)) fX7_88 ⟨tyX7_ok, nmX7, tyX7_ok 18 (by decide)⟩ rfl 0 rfl rfl rfl (Nat.le_of_ble_eq_true rfl) rfl dX7_issueAuthority_50 ?_
          refine J_aload_n cx dX7_issueAuthority_53 rfl 0 rfl ?_
          refine J_aload_n cx dX7_issueAuthority_54 rfl 0 rfl ?_
          refine J_iload_n cx dX7_issueAuthority_55 rfl 2 rfl ?_
          refine J_aload_n cx dX7_issueAuthority_56 rfl 0 rfl ?_
          refine J_get cx (v := .int (nI ((κ.2.2.1 1) + 1))) fX7_88 0 rfl rfl dX7_issueAuthority_57 ?_
          refine J_aload_n cx dX7_issueAuthority_60 rfl 0 rfl ?_
          refine J_get cx (v := .ref (ad 1)) fX7_9 0 rfl rfl dX7_issueAuthority_61 ?_
          refine J_iload_n cx dX7_issueAuthority_64 rfl 1 rfl ?_
          refine J_iald cx (j := j) (f := κ.1 0) 1 rfl rfl (by omega) (by decide) dX7_issueAuthority_65 ?_
          refine J_aload_n cx dX7_issueAuthority_66 rfl 0 rfl ?_
          refine J_get cx (v := .ref (ad 2)) fX7_13 0 rfl rfl dX7_issueAuthority_67 ?_
          refine J_iload_n cx dX7_issueAuthority_70 rfl 1 rfl ?_
          refine J_iald cx (j := j) (f := κ.1 1) 2 rfl rfl (by omega) (by decide) dX7_issueAuthority_71 ?_
          refine J_iload_n cx dX7_issueAuthority_72 rfl 3 rfl ?_
          refine J_callVi cx kX7_91 (As := [.int xn, .int (nI ((κ.2.2.1 1) + 1)), .int (κ.1 0 j), .int (κ.1 1 j), .int dy]) (tX7_makes l D g A ad (κ.1, κ.2.1, upn κ.2.2.1 1 ((κ.2.2.1 1) + 1), κ.2.2.2.1, κ.2.2.2.2) (nI (canI κ (nI j) true)) ch cm rm row  xn (nI ((κ.2.2.1 1) + 1)) (κ.1 0 j) (κ.1 1 j) dy (show κ.2.2.1 0 < 40 by omega)) ⟨rfl, rfl, by decide, by decide⟩ ⟨by decide, by decide⟩ rfl 0 rfl rfl rfl (Nat.le_of_ble_eq_true rfl) dX7_issueAuthority_73 ?_
          intro _ _ hr; cases hr
          refine J_top (v' := .int (nI (κ.2.2.1 0))) rfl ?_
          refine J_iload cx dX7_issueAuthority_76 4 rfl ?_
          refine J_callVi cx kX7_95 (As := [.int (nI (κ.2.2.1 0)), .int ln]) (tX7_authority l D g A ad (mkK (κ.1, κ.2.1, upn κ.2.2.1 1 ((κ.2.2.1 1) + 1), κ.2.2.2.1, κ.2.2.2.2) xn (nI ((κ.2.2.1 1) + 1)) (κ.1 0 j) (κ.1 1 j) dy) (nI (canI κ (nI j) true)) ch cm rm row  (κ.2.2.1 0) ln (by omega)) ⟨rfl, rfl, by decide, by decide⟩ ⟨by decide, by decide⟩ rfl 0 rfl rfl rfl (Nat.le_of_ble_eq_true rfl) dX7_issueAuthority_78 ?_
          intro _ _ hr; cases hr
          exact J_iret cx rfl (u := ()) (by simp only [opIssueA, Bool.and_true, Bool.true_and, Bool.and_false, Bool.false_and, Bool.or_true, Bool.true_or, Bool.or_false, Bool.false_or, Bool.not_true, Bool.not_false, if_true, if_false, Bool.false_eq_true, decide_true, decide_false, ite_true, ite_false, ne_eq, not_true_eq_false, not_false_eq_true, xj, c_1, c_3, c_5, c_7, hjc]; try rfl) (by simp only [opIssueA, Bool.and_true, Bool.true_and, Bool.and_false, Bool.false_and, Bool.or_true, Bool.true_or, Bool.or_false, Bool.false_or, Bool.not_true, Bool.not_false, if_true, if_false, Bool.false_eq_true, decide_true, decide_false, ite_true, ite_false, ne_eq, not_true_eq_false, not_false_eq_true, xj, c_1, c_3, c_5, c_7, hjc]; try rfl) (Nat.le_of_ble_eq_true rfl) (Nat.le_of_ble_eq_true rfl) dX7_issueAuthority_81
        · have c_7 := bn_t c_7
          have c_7 := of_decide_eq_false c_7
          refine J_iconst cx (v := nI 0) dX7_issueAuthority_41 (by decide) ?_
          exact J_iret cx rfl (u := ()) (by simp only [opIssueA, Bool.and_true, Bool.true_and, Bool.and_false, Bool.false_and, Bool.or_true, Bool.true_or, Bool.or_false, Bool.false_or, Bool.not_true, Bool.not_false, if_true, if_false, Bool.false_eq_true, decide_true, decide_false, ite_true, ite_false, ne_eq, not_true_eq_false, not_false_eq_true, xj, c_1, c_3, c_5, c_7]; try rfl) (by simp only [opIssueA, Bool.and_true, Bool.true_and, Bool.and_false, Bool.false_and, Bool.or_true, Bool.true_or, Bool.or_false, Bool.false_or, Bool.not_true, Bool.not_false, if_true, if_false, Bool.false_eq_true, decide_true, decide_false, ite_true, ite_false, ne_eq, not_true_eq_false, not_false_eq_true, xj, c_1, c_3, c_5, c_7]; try rfl) (Nat.le_of_ble_eq_true rfl) (Nat.le_of_ble_eq_true rfl) dX7_issueAuthority_42
set_option maxHeartbeats 4000000 in
set_option maxRecDepth 100000 in
theorem tX7_cross (l : Launch) (D : va_G) (g : Nat → ClassId) (A : Nat → Prop) (ad : Nat → Nat) (κ : CS) (th : Int32) (ch : Nat → Nat) (cm rm : Nat) (row : Nat → Int64)  (xc : Int32) (xs : Int32) (dy : Int32) (ln : Int32) (hn : κ.2.2.1 0 ≤ 40) : CtI l D g A yX7_cross cX7_cross 5 .int ({ frames := 2, cells := 0, slots := 0, locals := 43 } : Room) [.ref (ad 0), .int xc, .int xs, .int dy, .int ln] (mW ad g κ th ch cm rm row) ((opCross κ xc xs dy ln).2.1) (mW ad g ((opCross κ xc xs dy ln).2.2) (nI (opCross κ xc xs dy ln).1) ch cm rm row) := by
  refine metJ (by decide) (Nat.le_of_ble_eq_true rfl) ?_
  intro p e s m args below meth c _ _ cx
  refine J_aload_n cx dX7_cross_0 rfl 0 rfl ?_
  refine J_aload_n cx dX7_cross_1 rfl 0 rfl ?_
  refine J_iload_n cx dX7_cross_2 rfl 1 rfl ?_
  refine J_callVi cx kX7_74 (As := [.int xc]) (tX7_isThere l D g A ad κ th ch cm rm row  xc (by first | assumption | omega)) ⟨rfl, rfl, by decide, by decide⟩ ⟨by decide, by decide⟩ rfl 0 rfl rfl rfl (Nat.le_of_ble_eq_true rfl) dX7_cross_3 ?_
  intro _ _ hr; cases hr
  refine J_ifz_eq cx (tgt := 17) dX7_cross_6 (by decide) (fun c_1 => ?_) (fun c_1 => ?_)
  · refine J_iconst cx (v := nI 1) dX7_cross_17 (by decide) ?_
    refine J_goto cx (tgt := 22) dX7_cross_18 (by decide) ?_
    refine J_iconst cx (v := nI 1) dX7_cross_22 (by decide) ?_
    refine J_callVi cx kX7_78 (As := [.int (nI 1), .int (nI 1)]) (tX7_isThrown l D g A ad κ th ch cm rm row  true (nI 1) ) ⟨rfl, rfl, by decide, by decide⟩ ⟨by decide, by decide⟩ rfl 0 rfl rfl rfl (Nat.le_of_ble_eq_true rfl) dX7_cross_23 ?_
    intro _ _ hr; cases hr
    refine J_ifz_ne cx (tgt := 63) dX7_cross_26 (by decide) (fun _ => ?_) (fun h => absurd h (by decide))
    refine J_iconst cx (v := nI 0) dX7_cross_63 (by decide) ?_
    exact J_iret cx rfl (u := ()) (by simp only [opCross, Bool.and_true, Bool.true_and, Bool.and_false, Bool.false_and, Bool.or_true, Bool.true_or, Bool.or_false, Bool.false_or, Bool.not_true, Bool.not_false, if_true, if_false, Bool.false_eq_true, decide_true, decide_false, ite_true, ite_false, ne_eq, not_true_eq_false, not_false_eq_true, xj, c_1]; try rfl) (by simp only [opCross, Bool.and_true, Bool.true_and, Bool.and_false, Bool.false_and, Bool.or_true, Bool.true_or, Bool.or_false, Bool.false_or, Bool.not_true, Bool.not_false, if_true, if_false, Bool.false_eq_true, decide_true, decide_false, ite_true, ite_false, ne_eq, not_true_eq_false, not_false_eq_true, xj, c_1]; try rfl) (Nat.le_of_ble_eq_true rfl) (Nat.le_of_ble_eq_true rfl) dX7_cross_64
  · obtain ⟨j, hj, hxj⟩ := inR_spec c_1 (by omega)
    subst hxj
    have hjc : (nI j).toNatClampNeg = j := nI_clamp (by omega)
    refine J_aload_n cx dX7_cross_9 rfl 0 rfl ?_
    refine J_iload_n cx dX7_cross_10 rfl 2 rfl ?_
    refine J_callVi cx kX7_74 (As := [.int xs]) (tX7_isThere l D g A ad κ th ch cm rm row  xs (by first | assumption | omega)) ⟨rfl, rfl, by decide, by decide⟩ ⟨by decide, by decide⟩ rfl 0 rfl rfl rfl (Nat.le_of_ble_eq_true rfl) dX7_cross_11 ?_
    intro _ _ hr; cases hr
    refine J_ifz_ne cx (tgt := 21) dX7_cross_14 (by decide) (fun c_3 => ?_) (fun c_3 => ?_)
    · obtain ⟨i, hi, hxi⟩ := inR_spec c_3 (by omega)
      subst hxi
      have hic : (nI i).toNatClampNeg = i := nI_clamp (by omega)
      refine J_iconst cx (v := nI 0) dX7_cross_21 (by decide) ?_
      refine J_iconst cx (v := nI 1) dX7_cross_22 (by decide) ?_
      refine J_callVi cx kX7_78 (As := [.int (nI 0), .int (nI 1)]) (tX7_isThrown l D g A ad κ th ch cm rm row  false (nI 1) ) ⟨rfl, rfl, by decide, by decide⟩ ⟨by decide, by decide⟩ rfl 0 rfl rfl rfl (Nat.le_of_ble_eq_true rfl) dX7_cross_23 ?_
      intro _ _ hr; cases hr
      refine J_ifz_ne cx (tgt := 63) dX7_cross_26 (by decide) (fun h => absurd h (by decide)) (fun _ => ?_)
      refine J_aload_n cx dX7_cross_29 rfl 0 rfl ?_
      refine J_iload_n cx dX7_cross_30 rfl 3 rfl ?_
      refine J_iconst cx (v := nI 1) dX7_cross_31 (by decide) ?_
      refine J_sipush cx (v := nI 999) dX7_cross_32 (by decide) ?_
      refine J_callSi cx kX7_67 (As := [.int dy, .int (nI 1), .int (nI 999)]) (tX7_isIn l D g A ad κ (if false then (nI 1) else nI 0) ch cm rm row  dy (nI 1) (nI 999) ) ⟨rfl, rfl, by decide, by decide⟩ ⟨by decide, by decide⟩ rfl rfl (Nat.le_of_ble_eq_true rfl) dX7_cross_35 ?_
      intro _ _ hr; cases hr
      refine J_ifz_eq cx (tgt := 51) dX7_cross_38 (by decide) (fun c_5 => ?_) (fun c_5 => ?_)
      · refine J_iconst cx (v := nI 1) dX7_cross_51 (by decide) ?_
        refine J_goto cx (tgt := 56) dX7_cross_52 (by decide) ?_
        refine J_iconst cx (v := nI 2) dX7_cross_56 (by decide) ?_
        refine J_callVi cx kX7_78 (As := [.int (nI 1), .int (nI 2)]) (tX7_isThrown l D g A ad κ (if false then (nI 1) else nI 0) ch cm rm row  true (nI 2) ) ⟨rfl, rfl, by decide, by decide⟩ ⟨by decide, by decide⟩ rfl 0 rfl rfl rfl (Nat.le_of_ble_eq_true rfl) dX7_cross_57 ?_
        intro _ _ hr; cases hr
        refine J_ifz_eq cx (tgt := 65) dX7_cross_60 (by decide) (fun h => absurd h (by decide)) (fun _ => ?_)
        refine J_iconst cx (v := nI 0) dX7_cross_63 (by decide) ?_
        exact J_iret cx rfl (u := ()) (by simp only [opCross, Bool.and_true, Bool.true_and, Bool.and_false, Bool.false_and, Bool.or_true, Bool.true_or, Bool.or_false, Bool.false_or, Bool.not_true, Bool.not_false, if_true, if_false, Bool.false_eq_true, decide_true, decide_false, ite_true, ite_false, ne_eq, not_true_eq_false, not_false_eq_true, xj, c_1, hjc, c_3, hic, c_5]; try rfl) (by simp only [opCross, Bool.and_true, Bool.true_and, Bool.and_false, Bool.false_and, Bool.or_true, Bool.true_or, Bool.or_false, Bool.false_or, Bool.not_true, Bool.not_false, if_true, if_false, Bool.false_eq_true, decide_true, decide_false, ite_true, ite_false, ne_eq, not_true_eq_false, not_false_eq_true, xj, c_1, hjc, c_3, hic, c_5]; try rfl) (Nat.le_of_ble_eq_true rfl) (Nat.le_of_ble_eq_true rfl) dX7_cross_64
      · refine J_iload cx dX7_cross_41 4 rfl ?_
        refine J_iconst cx (v := nI 0) dX7_cross_43 (by decide) ?_
        refine J_iconst cx (v := nI 5) dX7_cross_44 (by decide) ?_
        refine J_callSi cx kX7_67 (As := [.int ln, .int (nI 0), .int (nI 5)]) (tX7_isIn l D g A ad κ (if false then (nI 1) else nI 0) ch cm rm row  ln (nI 0) (nI 5) ) ⟨rfl, rfl, by decide, by decide⟩ ⟨by decide, by decide⟩ rfl rfl (Nat.le_of_ble_eq_true rfl) dX7_cross_45 ?_
        intro _ _ hr; cases hr
        refine J_ifz_ne cx (tgt := 55) dX7_cross_48 (by decide) (fun c_7 => ?_) (fun c_7 => ?_)
        · refine J_iconst cx (v := nI 0) dX7_cross_55 (by decide) ?_
          refine J_iconst cx (v := nI 2) dX7_cross_56 (by decide) ?_
          refine J_callVi cx kX7_78 (As := [.int (nI 0), .int (nI 2)]) (tX7_isThrown l D g A ad κ (if false then (nI 1) else nI 0) ch cm rm row  false (nI 2) ) ⟨rfl, rfl, by decide, by decide⟩ ⟨by decide, by decide⟩ rfl 0 rfl rfl rfl (Nat.le_of_ble_eq_true rfl) dX7_cross_57 ?_
          intro _ _ hr; cases hr
          refine J_ifz_eq cx (tgt := 65) dX7_cross_60 (by decide) (fun _ => ?_) (fun h => absurd h (by decide))
          refine J_aload_n cx dX7_cross_65 rfl 0 rfl ?_
          refine J_aload_n cx dX7_cross_66 rfl 0 rfl ?_
          refine J_get cx (v := .ref (ad 11)) fX7_40 0 rfl rfl dX7_cross_67 ?_
          refine J_iload_n cx dX7_cross_70 rfl 1 rfl ?_
          refine J_zald cx (j := j) (f := fun i => zb (κ.2.1 0 i)) 11 rfl rfl (by omega) (by decide) dX7_cross_71 ?_
          refine J_ifz_eq cx (tgt := 122) dX7_cross_72 (by decide) (fun c_9 => ?_) (fun c_9 => ?_)
          · refine J_iconst cx (v := nI 1) dX7_cross_122 (by decide) ?_
            refine J_goto cx (tgt := 127) dX7_cross_123 (by decide) ?_
            refine J_iconst cx (v := nI 3) dX7_cross_127 (by decide) ?_
            refine J_callVi cx kX7_78 (As := [.int (nI 1), .int (nI 3)]) (tX7_isThrown l D g A ad κ (if false then (nI 2) else nI 0) ch cm rm row  true (nI 3) ) ⟨rfl, rfl, by decide, by decide⟩ ⟨by decide, by decide⟩ rfl 0 rfl rfl rfl (Nat.le_of_ble_eq_true rfl) dX7_cross_128 ?_
            intro _ _ hr; cases hr
            refine J_ifz_eq cx (tgt := 136) dX7_cross_131 (by decide) (fun h => absurd h (by decide)) (fun _ => ?_)
            refine J_iconst cx (v := nI 0) dX7_cross_134 (by decide) ?_
            exact J_iret cx rfl (u := ()) (by simp only [opCross, Bool.and_true, Bool.true_and, Bool.and_false, Bool.false_and, Bool.or_true, Bool.true_or, Bool.or_false, Bool.false_or, Bool.not_true, Bool.not_false, if_true, if_false, Bool.false_eq_true, decide_true, decide_false, ite_true, ite_false, ne_eq, not_true_eq_false, not_false_eq_true, xj, c_1, hjc, c_3, hic, c_5, c_7, c_9]; try rfl) (by simp only [opCross, Bool.and_true, Bool.true_and, Bool.and_false, Bool.false_and, Bool.or_true, Bool.true_or, Bool.or_false, Bool.false_or, Bool.not_true, Bool.not_false, if_true, if_false, Bool.false_eq_true, decide_true, decide_false, ite_true, ite_false, ne_eq, not_true_eq_false, not_false_eq_true, xj, c_1, hjc, c_3, hic, c_5, c_7, c_9]; try rfl) (Nat.le_of_ble_eq_true rfl) (Nat.le_of_ble_eq_true rfl) dX7_cross_135
          · refine J_aload_n cx dX7_cross_75 rfl 0 rfl ?_
            refine J_get cx (v := .ref (ad 11)) fX7_40 0 rfl rfl dX7_cross_76 ?_
            refine J_iload_n cx dX7_cross_79 rfl 2 rfl ?_
            refine J_zald cx (j := i) (f := fun i => zb (κ.2.1 0 i)) 11 rfl rfl (by omega) (by decide) dX7_cross_80 ?_
            refine J_ifz_eq cx (tgt := 122) dX7_cross_81 (by decide) (fun c_11 => ?_) (fun c_11 => ?_)
            · refine J_iconst cx (v := nI 1) dX7_cross_122 (by decide) ?_
              refine J_goto cx (tgt := 127) dX7_cross_123 (by decide) ?_
              refine J_iconst cx (v := nI 3) dX7_cross_127 (by decide) ?_
              refine J_callVi cx kX7_78 (As := [.int (nI 1), .int (nI 3)]) (tX7_isThrown l D g A ad κ (if false then (nI 2) else nI 0) ch cm rm row  true (nI 3) ) ⟨rfl, rfl, by decide, by decide⟩ ⟨by decide, by decide⟩ rfl 0 rfl rfl rfl (Nat.le_of_ble_eq_true rfl) dX7_cross_128 ?_
              intro _ _ hr; cases hr
              refine J_ifz_eq cx (tgt := 136) dX7_cross_131 (by decide) (fun h => absurd h (by decide)) (fun _ => ?_)
              refine J_iconst cx (v := nI 0) dX7_cross_134 (by decide) ?_
              exact J_iret cx rfl (u := ()) (by simp only [opCross, Bool.and_true, Bool.true_and, Bool.and_false, Bool.false_and, Bool.or_true, Bool.true_or, Bool.or_false, Bool.false_or, Bool.not_true, Bool.not_false, if_true, if_false, Bool.false_eq_true, decide_true, decide_false, ite_true, ite_false, ne_eq, not_true_eq_false, not_false_eq_true, xj, c_1, hjc, c_3, hic, c_5, c_7, c_9, c_11]; try rfl) (by simp only [opCross, Bool.and_true, Bool.true_and, Bool.and_false, Bool.false_and, Bool.or_true, Bool.true_or, Bool.or_false, Bool.false_or, Bool.not_true, Bool.not_false, if_true, if_false, Bool.false_eq_true, decide_true, decide_false, ite_true, ite_false, ne_eq, not_true_eq_false, not_false_eq_true, xj, c_1, hjc, c_3, hic, c_5, c_7, c_9, c_11]; try rfl) (Nat.le_of_ble_eq_true rfl) (Nat.le_of_ble_eq_true rfl) dX7_cross_135
            · refine J_aload_n cx dX7_cross_84 rfl 0 rfl ?_
              refine J_get cx (v := .ref (ad 2)) fX7_13 0 rfl rfl dX7_cross_85 ?_
              refine J_iload_n cx dX7_cross_88 rfl 1 rfl ?_
              refine J_iald cx (j := j) (f := κ.1 1) 2 rfl rfl (by omega) (by decide) dX7_cross_89 ?_
              refine J_aload_n cx dX7_cross_90 rfl 0 rfl ?_
              refine J_get cx (v := .ref (ad 2)) fX7_13 0 rfl rfl dX7_cross_91 ?_
              refine J_iload_n cx dX7_cross_94 rfl 2 rfl ?_
              refine J_iald cx (j := i) (f := κ.1 1) 2 rfl rfl (by omega) (by decide) dX7_cross_95 ?_
              refine J_icmp_eq cx (tgt := 122) dX7_cross_96 (by decide) (fun c_13 => ?_) (fun c_13 => ?_)
              · have c_13d := decide_eq_true c_13
                refine J_iconst cx (v := nI 1) dX7_cross_122 (by decide) ?_
                refine J_goto cx (tgt := 127) dX7_cross_123 (by decide) ?_
                refine J_iconst cx (v := nI 3) dX7_cross_127 (by decide) ?_
                refine J_callVi cx kX7_78 (As := [.int (nI 1), .int (nI 3)]) (tX7_isThrown l D g A ad κ (if false then (nI 2) else nI 0) ch cm rm row  true (nI 3) ) ⟨rfl, rfl, by decide, by decide⟩ ⟨by decide, by decide⟩ rfl 0 rfl rfl rfl (Nat.le_of_ble_eq_true rfl) dX7_cross_128 ?_
                intro _ _ hr; cases hr
                refine J_ifz_eq cx (tgt := 136) dX7_cross_131 (by decide) (fun h => absurd h (by decide)) (fun _ => ?_)
                refine J_iconst cx (v := nI 0) dX7_cross_134 (by decide) ?_
                exact J_iret cx rfl (u := ()) (by simp only [opCross, Bool.and_true, Bool.true_and, Bool.and_false, Bool.false_and, Bool.or_true, Bool.true_or, Bool.or_false, Bool.false_or, Bool.not_true, Bool.not_false, if_true, if_false, Bool.false_eq_true, decide_true, decide_false, ite_true, ite_false, ne_eq, not_true_eq_false, not_false_eq_true, xj, c_1, hjc, c_3, hic, c_5, c_7, c_9, c_11, c_13d]; try rfl) (by simp only [opCross, Bool.and_true, Bool.true_and, Bool.and_false, Bool.false_and, Bool.or_true, Bool.true_or, Bool.or_false, Bool.false_or, Bool.not_true, Bool.not_false, if_true, if_false, Bool.false_eq_true, decide_true, decide_false, ite_true, ite_false, ne_eq, not_true_eq_false, not_false_eq_true, xj, c_1, hjc, c_3, hic, c_5, c_7, c_9, c_11, c_13d]; try rfl) (Nat.le_of_ble_eq_true rfl) (Nat.le_of_ble_eq_true rfl) dX7_cross_135
              · have c_13d := decide_eq_false c_13
                refine J_aload_n cx dX7_cross_99 rfl 0 rfl ?_
                refine J_aload_n cx dX7_cross_100 rfl 0 rfl ?_
                refine J_get cx (v := .ref (ad 2)) fX7_13 0 rfl rfl dX7_cross_101 ?_
                refine J_iload_n cx dX7_cross_104 rfl 2 rfl ?_
                refine J_iald cx (j := i) (f := κ.1 1) 2 rfl rfl (by omega) (by decide) dX7_cross_105 ?_
                refine J_callVi cx kX7_106 (As := [.int (κ.1 1 i)]) (tX7_withKey l D g A ad κ (if false then (nI 2) else nI 0) ch cm rm row  (κ.1 1 i) (by first | assumption | omega)) ⟨rfl, rfl, by decide, by decide⟩ ⟨by decide, by decide⟩ rfl 0 rfl rfl rfl (Nat.le_of_ble_eq_true rfl) dX7_cross_106 ?_
                intro _ _ hr; cases hr
                have hcb := cnt_le (wkB κ (κ.1 1 i)) (κ.2.2.1 0)
                refine J_iconst cx (v := nI 2) dX7_cross_109 (by decide) ?_
                refine J_icmp_gt cx (tgt := 122) dX7_cross_110 (by decide) (fun c_15 => ?_) (fun c_15 => ?_)
                · have c_15 := (nat_ic_gt (by omega) (by omega)).mp c_15
                  have c_15d := decide_eq_true c_15
                  refine J_iconst cx (v := nI 1) dX7_cross_122 (by decide) ?_
                  refine J_goto cx (tgt := 127) dX7_cross_123 (by decide) ?_
                  refine J_iconst cx (v := nI 3) dX7_cross_127 (by decide) ?_
                  refine J_callVi cx kX7_78 (As := [.int (nI 1), .int (nI 3)]) (tX7_isThrown l D g A ad κ (if false then (nI 2) else nI 0) ch cm rm row  true (nI 3) ) ⟨rfl, rfl, by decide, by decide⟩ ⟨by decide, by decide⟩ rfl 0 rfl rfl rfl (Nat.le_of_ble_eq_true rfl) dX7_cross_128 ?_
                  intro _ _ hr; cases hr
                  refine J_ifz_eq cx (tgt := 136) dX7_cross_131 (by decide) (fun h => absurd h (by decide)) (fun _ => ?_)
                  refine J_iconst cx (v := nI 0) dX7_cross_134 (by decide) ?_
                  exact J_iret cx rfl (u := ()) (by simp only [opCross, Bool.and_true, Bool.true_and, Bool.and_false, Bool.false_and, Bool.or_true, Bool.true_or, Bool.or_false, Bool.false_or, Bool.not_true, Bool.not_false, if_true, if_false, Bool.false_eq_true, decide_true, decide_false, ite_true, ite_false, ne_eq, not_true_eq_false, not_false_eq_true, xj, c_1, hjc, c_3, hic, c_5, c_7, c_9, c_11, c_13, c_13d, c_15, c_15d]; try rfl) (by simp only [opCross, Bool.and_true, Bool.true_and, Bool.and_false, Bool.false_and, Bool.or_true, Bool.true_or, Bool.or_false, Bool.false_or, Bool.not_true, Bool.not_false, if_true, if_false, Bool.false_eq_true, decide_true, decide_false, ite_true, ite_false, ne_eq, not_true_eq_false, not_false_eq_true, xj, c_1, hjc, c_3, hic, c_5, c_7, c_9, c_11, c_13, c_13d, c_15, c_15d]; try rfl) (Nat.le_of_ble_eq_true rfl) (Nat.le_of_ble_eq_true rfl) dX7_cross_135
                · have c_15 := (nat_ic_gt_f (by omega) (by omega)).mp c_15
                  have c_15d := decide_eq_false (Nat.not_lt.mpr c_15)
                  refine J_aload_n cx dX7_cross_113 rfl 0 rfl ?_
                  refine J_get cx (v := .int (nI (κ.2.2.1 0))) fX7_71 0 rfl rfl dX7_cross_114 ?_
                  refine J_bipush cx (v := nI 40) dX7_cross_117 (by decide) ?_
                  refine J_icmp_ne cx (tgt := 126) dX7_cross_119 (by decide) (fun c_17 => ?_) (fun c_17 => ?_)
                  · have c_17 := (nat_ic_ne (by omega) (by omega)).mp c_17
                    have c_17d := decide_eq_false c_17
                    refine J_iconst cx (v := nI 0) dX7_cross_126 (by decide) ?_
                    refine J_iconst cx (v := nI 3) dX7_cross_127 (by decide) ?_
                    refine J_callVi cx kX7_78 (As := [.int (nI 0), .int (nI 3)]) (tX7_isThrown l D g A ad κ (if false then (nI 2) else nI 0) ch cm rm row  false (nI 3) ) ⟨rfl, rfl, by decide, by decide⟩ ⟨by decide, by decide⟩ rfl 0 rfl rfl rfl (Nat.le_of_ble_eq_true rfl) dX7_cross_128 ?_
                    intro _ _ hr; cases hr
                    refine J_ifz_eq cx (tgt := 136) dX7_cross_131 (by decide) (fun _ => ?_) (fun h => absurd h (by decide))
                    refine J_aload_n cx dX7_cross_136 rfl 0 rfl ?_
                    refine J_aload_n cx dX7_cross_137 rfl 0 rfl ?_
                    refine J_aload_n cx dX7_cross_138 rfl 0 rfl ?_
                    refine J_get cx (v := .ref (ad 1)) fX7_9 0 rfl rfl dX7_cross_139 ?_
                    refine J_iload_n cx dX7_cross_142 rfl 2 rfl ?_
                    refine J_iald cx (j := i) (f := κ.1 0) 1 rfl rfl (by omega) (by decide) dX7_cross_143 ?_
                    refine J_aload_n cx dX7_cross_144 rfl 0 rfl ?_
                    refine J_get cx (v := .ref (ad 2)) fX7_13 0 rfl rfl dX7_cross_145 ?_
                    refine J_iload_n cx dX7_cross_148 rfl 2 rfl ?_
                    refine J_iald cx (j := i) (f := κ.1 1) 2 rfl rfl (by omega) (by decide) dX7_cross_149 ?_
                    refine J_aload_n cx dX7_cross_150 rfl 0 rfl ?_
                    refine J_get cx (v := .ref (ad 1)) fX7_9 0 rfl rfl dX7_cross_151 ?_
                    refine J_iload_n cx dX7_cross_154 rfl 1 rfl ?_
                    refine J_iald cx (j := j) (f := κ.1 0) 1 rfl rfl (by omega) (by decide) dX7_cross_155 ?_
                    refine J_aload_n cx dX7_cross_156 rfl 0 rfl ?_
                    refine J_get cx (v := .ref (ad 2)) fX7_13 0 rfl rfl dX7_cross_157 ?_
                    refine J_iload_n cx dX7_cross_160 rfl 1 rfl ?_
                    refine J_iald cx (j := j) (f := κ.1 1) 2 rfl rfl (by omega) (by decide) dX7_cross_161 ?_
                    refine J_iload_n cx dX7_cross_162 rfl 3 rfl ?_
                    refine J_callVi cx kX7_91 (As := [.int (κ.1 0 i), .int (κ.1 1 i), .int (κ.1 0 j), .int (κ.1 1 j), .int dy]) (tX7_makes l D g A ad κ (if false then (nI 3) else nI 0) ch cm rm row  (κ.1 0 i) (κ.1 1 i) (κ.1 0 j) (κ.1 1 j) dy (show κ.2.2.1 0 < 40 by omega)) ⟨rfl, rfl, by decide, by decide⟩ ⟨by decide, by decide⟩ rfl 0 rfl rfl rfl (Nat.le_of_ble_eq_true rfl) dX7_cross_163 ?_
                    intro _ _ hr; cases hr
                    refine J_iload cx dX7_cross_166 4 rfl ?_
                    refine J_callVi cx kX7_95 (As := [.int (nI (κ.2.2.1 0)), .int ln]) (tX7_authority l D g A ad (mkK κ (κ.1 0 i) (κ.1 1 i) (κ.1 0 j) (κ.1 1 j) dy) (if false then (nI 3) else nI 0) ch cm rm row  (κ.2.2.1 0) ln (by omega)) ⟨rfl, rfl, by decide, by decide⟩ ⟨by decide, by decide⟩ rfl 0 rfl rfl rfl (Nat.le_of_ble_eq_true rfl) dX7_cross_168 ?_
                    intro _ _ hr; cases hr
                    exact J_iret cx rfl (u := ()) (by simp only [opCross, Bool.and_true, Bool.true_and, Bool.and_false, Bool.false_and, Bool.or_true, Bool.true_or, Bool.or_false, Bool.false_or, Bool.not_true, Bool.not_false, if_true, if_false, Bool.false_eq_true, decide_true, decide_false, ite_true, ite_false, ne_eq, not_true_eq_false, not_false_eq_true, xj, c_1, hjc, c_3, hic, c_5, c_7, c_9, c_11, c_13, c_13d, c_15, c_15d, c_17, c_17d]; try rfl) (by simp only [opCross, Bool.and_true, Bool.true_and, Bool.and_false, Bool.false_and, Bool.or_true, Bool.true_or, Bool.or_false, Bool.false_or, Bool.not_true, Bool.not_false, if_true, if_false, Bool.false_eq_true, decide_true, decide_false, ite_true, ite_false, ne_eq, not_true_eq_false, not_false_eq_true, xj, c_1, hjc, c_3, hic, c_5, c_7, c_9, c_11, c_13, c_13d, c_15, c_15d, c_17, c_17d]; try rfl) (Nat.le_of_ble_eq_true rfl) (Nat.le_of_ble_eq_true rfl) dX7_cross_171
                  · have c_17 := (nat_ic_ne_f (by omega) (by omega)).mp c_17
                    have c_17d := decide_eq_true c_17
                    refine J_iconst cx (v := nI 1) dX7_cross_122 (by decide) ?_
                    refine J_goto cx (tgt := 127) dX7_cross_123 (by decide) ?_
                    refine J_iconst cx (v := nI 3) dX7_cross_127 (by decide) ?_
                    refine J_callVi cx kX7_78 (As := [.int (nI 1), .int (nI 3)]) (tX7_isThrown l D g A ad κ (if false then (nI 2) else nI 0) ch cm rm row  true (nI 3) ) ⟨rfl, rfl, by decide, by decide⟩ ⟨by decide, by decide⟩ rfl 0 rfl rfl rfl (Nat.le_of_ble_eq_true rfl) dX7_cross_128 ?_
                    intro _ _ hr; cases hr
                    refine J_ifz_eq cx (tgt := 136) dX7_cross_131 (by decide) (fun h => absurd h (by decide)) (fun _ => ?_)
                    refine J_iconst cx (v := nI 0) dX7_cross_134 (by decide) ?_
                    exact J_iret cx rfl (u := ()) (by simp only [opCross, Bool.and_true, Bool.true_and, Bool.and_false, Bool.false_and, Bool.or_true, Bool.true_or, Bool.or_false, Bool.false_or, Bool.not_true, Bool.not_false, if_true, if_false, Bool.false_eq_true, decide_true, decide_false, ite_true, ite_false, ne_eq, not_true_eq_false, not_false_eq_true, xj, c_1, hjc, c_3, hic, c_5, c_7, c_9, c_11, c_13, c_13d, c_15, c_15d, c_17d]; try rfl) (by simp only [opCross, Bool.and_true, Bool.true_and, Bool.and_false, Bool.false_and, Bool.or_true, Bool.true_or, Bool.or_false, Bool.false_or, Bool.not_true, Bool.not_false, if_true, if_false, Bool.false_eq_true, decide_true, decide_false, ite_true, ite_false, ne_eq, not_true_eq_false, not_false_eq_true, xj, c_1, hjc, c_3, hic, c_5, c_7, c_9, c_11, c_13, c_13d, c_15, c_15d, c_17d]; try rfl) (Nat.le_of_ble_eq_true rfl) (Nat.le_of_ble_eq_true rfl) dX7_cross_135
        · refine J_iconst cx (v := nI 1) dX7_cross_51 (by decide) ?_
          refine J_goto cx (tgt := 56) dX7_cross_52 (by decide) ?_
          refine J_iconst cx (v := nI 2) dX7_cross_56 (by decide) ?_
          refine J_callVi cx kX7_78 (As := [.int (nI 1), .int (nI 2)]) (tX7_isThrown l D g A ad κ (if false then (nI 1) else nI 0) ch cm rm row  true (nI 2) ) ⟨rfl, rfl, by decide, by decide⟩ ⟨by decide, by decide⟩ rfl 0 rfl rfl rfl (Nat.le_of_ble_eq_true rfl) dX7_cross_57 ?_
          intro _ _ hr; cases hr
          refine J_ifz_eq cx (tgt := 65) dX7_cross_60 (by decide) (fun h => absurd h (by decide)) (fun _ => ?_)
          refine J_iconst cx (v := nI 0) dX7_cross_63 (by decide) ?_
          exact J_iret cx rfl (u := ()) (by simp only [opCross, Bool.and_true, Bool.true_and, Bool.and_false, Bool.false_and, Bool.or_true, Bool.true_or, Bool.or_false, Bool.false_or, Bool.not_true, Bool.not_false, if_true, if_false, Bool.false_eq_true, decide_true, decide_false, ite_true, ite_false, ne_eq, not_true_eq_false, not_false_eq_true, xj, c_1, hjc, c_3, hic, c_5, c_7]; try rfl) (by simp only [opCross, Bool.and_true, Bool.true_and, Bool.and_false, Bool.false_and, Bool.or_true, Bool.true_or, Bool.or_false, Bool.false_or, Bool.not_true, Bool.not_false, if_true, if_false, Bool.false_eq_true, decide_true, decide_false, ite_true, ite_false, ne_eq, not_true_eq_false, not_false_eq_true, xj, c_1, hjc, c_3, hic, c_5, c_7]; try rfl) (Nat.le_of_ble_eq_true rfl) (Nat.le_of_ble_eq_true rfl) dX7_cross_64
    · refine J_iconst cx (v := nI 1) dX7_cross_17 (by decide) ?_
      refine J_goto cx (tgt := 22) dX7_cross_18 (by decide) ?_
      refine J_iconst cx (v := nI 1) dX7_cross_22 (by decide) ?_
      refine J_callVi cx kX7_78 (As := [.int (nI 1), .int (nI 1)]) (tX7_isThrown l D g A ad κ th ch cm rm row  true (nI 1) ) ⟨rfl, rfl, by decide, by decide⟩ ⟨by decide, by decide⟩ rfl 0 rfl rfl rfl (Nat.le_of_ble_eq_true rfl) dX7_cross_23 ?_
      intro _ _ hr; cases hr
      refine J_ifz_ne cx (tgt := 63) dX7_cross_26 (by decide) (fun _ => ?_) (fun h => absurd h (by decide))
      refine J_iconst cx (v := nI 0) dX7_cross_63 (by decide) ?_
      exact J_iret cx rfl (u := ()) (by simp only [opCross, Bool.and_true, Bool.true_and, Bool.and_false, Bool.false_and, Bool.or_true, Bool.true_or, Bool.or_false, Bool.false_or, Bool.not_true, Bool.not_false, if_true, if_false, Bool.false_eq_true, decide_true, decide_false, ite_true, ite_false, ne_eq, not_true_eq_false, not_false_eq_true, xj, c_1, hjc, c_3]; try rfl) (by simp only [opCross, Bool.and_true, Bool.true_and, Bool.and_false, Bool.false_and, Bool.or_true, Bool.true_or, Bool.or_false, Bool.false_or, Bool.not_true, Bool.not_false, if_true, if_false, Bool.false_eq_true, decide_true, decide_false, ite_true, ite_false, ne_eq, not_true_eq_false, not_false_eq_true, xj, c_1, hjc, c_3]; try rfl) (Nat.le_of_ble_eq_true rfl) (Nat.le_of_ble_eq_true rfl) dX7_cross_64
set_option maxHeartbeats 4000000 in
set_option maxRecDepth 100000 in
theorem tX7_setNames (l : Launch) (D : va_G) (g : Nat → ClassId) (A : Nat → Prop) (ad : Nat → Nat) (κ : CS) (th : Int32) (ch : Nat → Nat) (cm rm : Nat) (row : Nat → Int64)  (xc : Int32) (xp : Int32) (xe : Int32) (hn : κ.2.2.1 0 ≤ 40) : CtI l D g A yX7_setNames cX7_setNames 5 .int ({ frames := 3, cells := 0, slots := 0, locals := 64 } : Room) [.ref (ad 0), .int xc, .int xp, .int xe] (mW ad g κ th ch cm rm row) ((opSetNames κ xc xp xe).2.1) (mW ad g ((opSetNames κ xc xp xe).2.2) (nI (opSetNames κ xc xp xe).1) ch cm rm row) := by
  refine metJ (by decide) (Nat.le_of_ble_eq_true rfl) ?_
  intro p e s m args below meth c _ _ cx
  have JN : J p l e ({ frames := 3, cells := 0, slots := 0, locals := 64 } : Room) s m args below meth c D A 5 (MQ below (va_Qi (fun (r : Int32) (_ : Unit) => r = ((opSetNames κ xc xp xe).2.1)) (fun _ => PO D A (mW ad g ((opSetNames κ xc xp xe).2.2) (nI (opSetNames κ xc xp xe).1) ch cm rm row)) A) args s 0 0 A) 0 0 (mW ad g κ th ch cm rm row) [(4, .int (zb (nm0 xp && nm0 xe))), (0, .ref (ad 0)), (1, .int xc), (2, .int xp), (3, .int xe)] 29 [] := by
    refine J_aload_n cx dX7_setNames_29 rfl 1 rfl ?_
    refine J_iload_n cx dX7_setNames_30 rfl 2 rfl ?_
    refine J_callVi cx kX7_99 (As := [.int xc]) (tX7_isNone l D g A ad κ th ch cm rm row  xc (by first | assumption | omega)) ⟨rfl, rfl, by decide, by decide⟩ ⟨by decide, by decide⟩ rfl 0 rfl rfl rfl (Nat.le_of_ble_eq_true rfl) dX7_setNames_31 ?_
    intro _ _ hr; cases hr
    refine J_ifz_ne cx (tgt := 90) dX7_setNames_34 (by decide) (fun c_1 => ?_) (fun c_1 => ?_)
    · have c_1 := bn_t c_1
      refine J_iconst cx (v := nI 0) dX7_setNames_90 (by decide) ?_
      exact J_iret cx rfl (u := ()) (by simp only [opSetNames, Bool.and_true, Bool.true_and, Bool.and_false, Bool.false_and, Bool.or_true, Bool.true_or, Bool.or_false, Bool.false_or, Bool.not_true, Bool.not_false, if_true, if_false, Bool.false_eq_true, decide_true, decide_false, ite_true, ite_false, ne_eq, not_true_eq_false, not_false_eq_true, xj, c_1]; try rfl) (by simp only [opSetNames, Bool.and_true, Bool.true_and, Bool.and_false, Bool.false_and, Bool.or_true, Bool.true_or, Bool.or_false, Bool.false_or, Bool.not_true, Bool.not_false, if_true, if_false, Bool.false_eq_true, decide_true, decide_false, ite_true, ite_false, ne_eq, not_true_eq_false, not_false_eq_true, xj, c_1]; try rfl) (Nat.le_of_ble_eq_true rfl) (Nat.le_of_ble_eq_true rfl) dX7_setNames_91
    · have c_1 := bn_f c_1
      obtain ⟨j, hj, hxj⟩ := inR_spec c_1 (by omega)
      subst hxj
      have hjc : (nI j).toNatClampNeg = j := nI_clamp (by omega)
      refine J_aload_n cx dX7_setNames_37 rfl 1 rfl ?_
      refine J_iload cx dX7_setNames_38 0 rfl ?_
      refine J_ifz_ne cx (tgt := 47) dX7_setNames_40 (by decide) (fun c_2 => ?_) (fun c_2 => ?_)
      · refine J_iconst cx (v := nI 0) dX7_setNames_47 (by decide) ?_
        refine J_iconst cx (v := nI 2) dX7_setNames_48 (by decide) ?_
        refine J_callVi cx kX7_78 (As := [.int (nI 0), .int (nI 2)]) (tX7_isThrown l D g A ad κ (if inR (κ.2.2.1 0) (nI j) then nI 0 else nI 1) ch cm rm row  false (nI 2) ) ⟨rfl, rfl, by decide, by decide⟩ ⟨by decide, by decide⟩ rfl 0 rfl rfl rfl (Nat.le_of_ble_eq_true rfl) dX7_setNames_49 ?_
        intro _ _ hr; cases hr
        refine J_ifz_ne cx (tgt := 90) dX7_setNames_52 (by decide) (fun h => absurd h (by decide)) (fun _ => ?_)
        refine J_aload_n cx dX7_setNames_55 rfl 1 rfl ?_
        refine J_aload_n cx dX7_setNames_56 rfl 1 rfl ?_
        refine J_get cx (v := .ref (ad 11)) fX7_40 0 rfl rfl dX7_setNames_57 ?_
        refine J_iload_n cx dX7_setNames_60 rfl 2 rfl ?_
        refine J_zald cx (j := j) (f := fun i => zb (κ.2.1 0 i)) 11 rfl rfl (by omega) (by decide) dX7_setNames_61 ?_
        refine J_ifz_eq cx (tgt := 78) dX7_setNames_62 (by decide) (fun c_4 => ?_) (fun c_4 => ?_)
        · refine J_iconst cx (v := nI 1) dX7_setNames_78 (by decide) ?_
          refine J_goto cx (tgt := 83) dX7_setNames_79 (by decide) ?_
          refine J_iconst cx (v := nI 3) dX7_setNames_83 (by decide) ?_
          refine J_callVi cx kX7_78 (As := [.int (nI 1), .int (nI 3)]) (tX7_isThrown l D g A ad κ (if false then (nI 2) else nI 0) ch cm rm row  true (nI 3) ) ⟨rfl, rfl, by decide, by decide⟩ ⟨by decide, by decide⟩ rfl 0 rfl rfl rfl (Nat.le_of_ble_eq_true rfl) dX7_setNames_84 ?_
          intro _ _ hr; cases hr
          refine J_ifz_eq cx (tgt := 92) dX7_setNames_87 (by decide) (fun h => absurd h (by decide)) (fun _ => ?_)
          refine J_iconst cx (v := nI 0) dX7_setNames_90 (by decide) ?_
          exact J_iret cx rfl (u := ()) (by simp only [opSetNames, Bool.and_true, Bool.true_and, Bool.and_false, Bool.false_and, Bool.or_true, Bool.true_or, Bool.or_false, Bool.false_or, Bool.not_true, Bool.not_false, if_true, if_false, Bool.false_eq_true, decide_true, decide_false, ite_true, ite_false, ne_eq, not_true_eq_false, not_false_eq_true, xj, c_1, hjc, c_2, c_4]; try rfl) (by simp only [opSetNames, Bool.and_true, Bool.true_and, Bool.and_false, Bool.false_and, Bool.or_true, Bool.true_or, Bool.or_false, Bool.false_or, Bool.not_true, Bool.not_false, if_true, if_false, Bool.false_eq_true, decide_true, decide_false, ite_true, ite_false, ne_eq, not_true_eq_false, not_false_eq_true, xj, c_1, hjc, c_2, c_4]; try rfl) (Nat.le_of_ble_eq_true rfl) (Nat.le_of_ble_eq_true rfl) dX7_setNames_91
        · refine J_aload_n cx dX7_setNames_65 rfl 1 rfl ?_
          refine J_aload_n cx dX7_setNames_66 rfl 1 rfl ?_
          refine J_get cx (v := .ref (ad 2)) fX7_13 0 rfl rfl dX7_setNames_67 ?_
          refine J_iload_n cx dX7_setNames_70 rfl 2 rfl ?_
          refine J_iald cx (j := j) (f := κ.1 1) 2 rfl rfl (by omega) (by decide) dX7_setNames_71 ?_
          refine J_callVi cx kX7_110 (As := [.int (κ.1 1 j)]) (tX7_hasIssued l D g A ad κ (if false then (nI 2) else nI 0) ch cm rm row  (κ.1 1 j) (by first | assumption | omega)) ⟨rfl, rfl, by decide, by decide⟩ ⟨by decide, by decide⟩ rfl 0 rfl rfl rfl (Nat.le_of_ble_eq_true rfl) dX7_setNames_72 ?_
          intro _ _ hr; cases hr
          refine J_ifz_eq cx (tgt := 82) dX7_setNames_75 (by decide) (fun c_6 => ?_) (fun c_6 => ?_)
          · refine J_iconst cx (v := nI 0) dX7_setNames_82 (by decide) ?_
            refine J_iconst cx (v := nI 3) dX7_setNames_83 (by decide) ?_
            refine J_callVi cx kX7_78 (As := [.int (nI 0), .int (nI 3)]) (tX7_isThrown l D g A ad κ (if false then (nI 2) else nI 0) ch cm rm row  false (nI 3) ) ⟨rfl, rfl, by decide, by decide⟩ ⟨by decide, by decide⟩ rfl 0 rfl rfl rfl (Nat.le_of_ble_eq_true rfl) dX7_setNames_84 ?_
            intro _ _ hr; cases hr
            refine J_ifz_eq cx (tgt := 92) dX7_setNames_87 (by decide) (fun _ => ?_) (fun h => absurd h (by decide))
            refine J_aload_n cx dX7_setNames_92 rfl 1 rfl ?_
            refine J_get cx (v := .ref (ad 8)) fX7_31 0 rfl rfl dX7_setNames_93 ?_
            refine J_iload_n cx dX7_setNames_96 rfl 2 rfl ?_
            refine J_iload_n cx dX7_setNames_97 rfl 3 rfl ?_
            refine J_iast cx (ws' := (mW ad g (upI κ.1 7 j xp, κ.2.1, κ.2.2.1, κ.2.2.2.1, κ.2.2.2.2) (if false then (nI 3) else nI 0) ch cm rm row)) (j := j) 8 rfl  rfl (by omega) (by decide) rfl dX7_setNames_98 ?_
            refine J_aload_n cx dX7_setNames_99 rfl 1 rfl ?_
            refine J_get cx (v := .ref (ad 9)) fX7_34 0 rfl rfl dX7_setNames_100 ?_
            refine J_iload_n cx dX7_setNames_103 rfl 2 rfl ?_
            refine J_iload_n cx dX7_setNames_104 rfl 4 rfl ?_
            refine J_iast cx (ws' := (mW ad g (upI (upI κ.1 7 j xp) 8 j xe, κ.2.1, κ.2.2.1, κ.2.2.2.1, κ.2.2.2.2) (if false then (nI 3) else nI 0) ch cm rm row)) (j := j) 9 rfl  rfl (by omega) (by decide) rfl dX7_setNames_105 ?_
            refine J_iload_n cx dX7_setNames_106 rfl 3 rfl ?_
            refine J_if_eq cx (tgt := 114) dX7_setNames_107 (by decide) (fun c_8 => ?_) (fun c_8 => ?_)
            · have c_8d := decide_eq_true c_8
              refine J_iconst cx (v := nI 0) dX7_setNames_114 (by decide) ?_
              refine J_iload_n cx dX7_setNames_115 rfl 4 rfl ?_
              refine J_if_eq cx (tgt := 123) dX7_setNames_116 (by decide) (fun c_9 => ?_) (fun c_9 => ?_)
              · have c_9d := decide_eq_true c_9
                refine J_iconst cx (v := nI 0) dX7_setNames_123 (by decide) ?_
                refine J_iadd cx dX7_setNames_124 ?_
                refine J_top (v' := .int (nI (0 + 0))) (congrArg Value.int (nI_add 0 0)) ?_
                exact J_iret cx rfl (u := ()) (by simp only [opSetNames, Bool.and_true, Bool.true_and, Bool.and_false, Bool.false_and, Bool.or_true, Bool.true_or, Bool.or_false, Bool.false_or, Bool.not_true, Bool.not_false, if_true, if_false, Bool.false_eq_true, decide_true, decide_false, ite_true, ite_false, ne_eq, not_true_eq_false, not_false_eq_true, xj, c_1, hjc, c_2, c_4, c_6, c_8d, c_9d]; try rfl) (by simp only [opSetNames, Bool.and_true, Bool.true_and, Bool.and_false, Bool.false_and, Bool.or_true, Bool.true_or, Bool.or_false, Bool.false_or, Bool.not_true, Bool.not_false, if_true, if_false, Bool.false_eq_true, decide_true, decide_false, ite_true, ite_false, ne_eq, not_true_eq_false, not_false_eq_true, xj, c_1, hjc, c_2, c_4, c_6, c_8d, c_9d]; try rfl) (Nat.le_of_ble_eq_true rfl) (Nat.le_of_ble_eq_true rfl) dX7_setNames_125
              · have c_9d := decide_eq_false c_9
                refine J_iconst cx (v := nI 1) dX7_setNames_119 (by decide) ?_
                refine J_goto cx (tgt := 124) dX7_setNames_120 (by decide) ?_
                refine J_iadd cx dX7_setNames_124 ?_
                refine J_top (v' := .int (nI (0 + 1))) (congrArg Value.int (nI_add 0 1)) ?_
                exact J_iret cx rfl (u := ()) (by simp only [opSetNames, Bool.and_true, Bool.true_and, Bool.and_false, Bool.false_and, Bool.or_true, Bool.true_or, Bool.or_false, Bool.false_or, Bool.not_true, Bool.not_false, if_true, if_false, Bool.false_eq_true, decide_true, decide_false, ite_true, ite_false, ne_eq, not_true_eq_false, not_false_eq_true, xj, c_1, hjc, c_2, c_4, c_6, c_8d, c_9, c_9d]; try rfl) (by simp only [opSetNames, Bool.and_true, Bool.true_and, Bool.and_false, Bool.false_and, Bool.or_true, Bool.true_or, Bool.or_false, Bool.false_or, Bool.not_true, Bool.not_false, if_true, if_false, Bool.false_eq_true, decide_true, decide_false, ite_true, ite_false, ne_eq, not_true_eq_false, not_false_eq_true, xj, c_1, hjc, c_2, c_4, c_6, c_8d, c_9, c_9d]; try rfl) (Nat.le_of_ble_eq_true rfl) (Nat.le_of_ble_eq_true rfl) dX7_setNames_125
            · have c_8d := decide_eq_false c_8
              refine J_iconst cx (v := nI 1) dX7_setNames_110 (by decide) ?_
              refine J_goto cx (tgt := 115) dX7_setNames_111 (by decide) ?_
              refine J_iload_n cx dX7_setNames_115 rfl 4 rfl ?_
              refine J_if_eq cx (tgt := 123) dX7_setNames_116 (by decide) (fun c_10 => ?_) (fun c_10 => ?_)
              · have c_10d := decide_eq_true c_10
                refine J_iconst cx (v := nI 0) dX7_setNames_123 (by decide) ?_
                refine J_iadd cx dX7_setNames_124 ?_
                refine J_top (v' := .int (nI (1 + 0))) (congrArg Value.int (nI_add 1 0)) ?_
                exact J_iret cx rfl (u := ()) (by simp only [opSetNames, Bool.and_true, Bool.true_and, Bool.and_false, Bool.false_and, Bool.or_true, Bool.true_or, Bool.or_false, Bool.false_or, Bool.not_true, Bool.not_false, if_true, if_false, Bool.false_eq_true, decide_true, decide_false, ite_true, ite_false, ne_eq, not_true_eq_false, not_false_eq_true, xj, c_1, hjc, c_2, c_4, c_6, c_8, c_8d, c_10d]; try rfl) (by simp only [opSetNames, Bool.and_true, Bool.true_and, Bool.and_false, Bool.false_and, Bool.or_true, Bool.true_or, Bool.or_false, Bool.false_or, Bool.not_true, Bool.not_false, if_true, if_false, Bool.false_eq_true, decide_true, decide_false, ite_true, ite_false, ne_eq, not_true_eq_false, not_false_eq_true, xj, c_1, hjc, c_2, c_4, c_6, c_8, c_8d, c_10d]; try rfl) (Nat.le_of_ble_eq_true rfl) (Nat.le_of_ble_eq_true rfl) dX7_setNames_125
              · have c_10d := decide_eq_false c_10
                refine J_iconst cx (v := nI 1) dX7_setNames_119 (by decide) ?_
                refine J_goto cx (tgt := 124) dX7_setNames_120 (by decide) ?_
                refine J_iadd cx dX7_setNames_124 ?_
                refine J_top (v' := .int (nI (1 + 1))) (congrArg Value.int (nI_add 1 1)) ?_
                exact J_iret cx rfl (u := ()) (by simp only [opSetNames, Bool.and_true, Bool.true_and, Bool.and_false, Bool.false_and, Bool.or_true, Bool.true_or, Bool.or_false, Bool.false_or, Bool.not_true, Bool.not_false, if_true, if_false, Bool.false_eq_true, decide_true, decide_false, ite_true, ite_false, ne_eq, not_true_eq_false, not_false_eq_true, xj, c_1, hjc, c_2, c_4, c_6, c_8, c_8d, c_10, c_10d]; try rfl) (by simp only [opSetNames, Bool.and_true, Bool.true_and, Bool.and_false, Bool.false_and, Bool.or_true, Bool.true_or, Bool.or_false, Bool.false_or, Bool.not_true, Bool.not_false, if_true, if_false, Bool.false_eq_true, decide_true, decide_false, ite_true, ite_false, ne_eq, not_true_eq_false, not_false_eq_true, xj, c_1, hjc, c_2, c_4, c_6, c_8, c_8d, c_10, c_10d]; try rfl) (Nat.le_of_ble_eq_true rfl) (Nat.le_of_ble_eq_true rfl) dX7_setNames_125
          · refine J_iconst cx (v := nI 1) dX7_setNames_78 (by decide) ?_
            refine J_goto cx (tgt := 83) dX7_setNames_79 (by decide) ?_
            refine J_iconst cx (v := nI 3) dX7_setNames_83 (by decide) ?_
            refine J_callVi cx kX7_78 (As := [.int (nI 1), .int (nI 3)]) (tX7_isThrown l D g A ad κ (if false then (nI 2) else nI 0) ch cm rm row  true (nI 3) ) ⟨rfl, rfl, by decide, by decide⟩ ⟨by decide, by decide⟩ rfl 0 rfl rfl rfl (Nat.le_of_ble_eq_true rfl) dX7_setNames_84 ?_
            intro _ _ hr; cases hr
            refine J_ifz_eq cx (tgt := 92) dX7_setNames_87 (by decide) (fun h => absurd h (by decide)) (fun _ => ?_)
            refine J_iconst cx (v := nI 0) dX7_setNames_90 (by decide) ?_
            exact J_iret cx rfl (u := ()) (by simp only [opSetNames, Bool.and_true, Bool.true_and, Bool.and_false, Bool.false_and, Bool.or_true, Bool.true_or, Bool.or_false, Bool.false_or, Bool.not_true, Bool.not_false, if_true, if_false, Bool.false_eq_true, decide_true, decide_false, ite_true, ite_false, ne_eq, not_true_eq_false, not_false_eq_true, xj, c_1, hjc, c_2, c_4, c_6]; try rfl) (by simp only [opSetNames, Bool.and_true, Bool.true_and, Bool.and_false, Bool.false_and, Bool.or_true, Bool.true_or, Bool.or_false, Bool.false_or, Bool.not_true, Bool.not_false, if_true, if_false, Bool.false_eq_true, decide_true, decide_false, ite_true, ite_false, ne_eq, not_true_eq_false, not_false_eq_true, xj, c_1, hjc, c_2, c_4, c_6]; try rfl) (Nat.le_of_ble_eq_true rfl) (Nat.le_of_ble_eq_true rfl) dX7_setNames_91
      · refine J_iconst cx (v := nI 1) dX7_setNames_43 (by decide) ?_
        refine J_goto cx (tgt := 48) dX7_setNames_44 (by decide) ?_
        refine J_iconst cx (v := nI 2) dX7_setNames_48 (by decide) ?_
        refine J_callVi cx kX7_78 (As := [.int (nI 1), .int (nI 2)]) (tX7_isThrown l D g A ad κ (if inR (κ.2.2.1 0) (nI j) then nI 0 else nI 1) ch cm rm row  true (nI 2) ) ⟨rfl, rfl, by decide, by decide⟩ ⟨by decide, by decide⟩ rfl 0 rfl rfl rfl (Nat.le_of_ble_eq_true rfl) dX7_setNames_49 ?_
        intro _ _ hr; cases hr
        refine J_ifz_ne cx (tgt := 90) dX7_setNames_52 (by decide) (fun _ => ?_) (fun h => absurd h (by decide))
        refine J_iconst cx (v := nI 0) dX7_setNames_90 (by decide) ?_
        exact J_iret cx rfl (u := ()) (by simp only [opSetNames, Bool.and_true, Bool.true_and, Bool.and_false, Bool.false_and, Bool.or_true, Bool.true_or, Bool.or_false, Bool.false_or, Bool.not_true, Bool.not_false, if_true, if_false, Bool.false_eq_true, decide_true, decide_false, ite_true, ite_false, ne_eq, not_true_eq_false, not_false_eq_true, xj, c_1, hjc, c_2]; try rfl) (by simp only [opSetNames, Bool.and_true, Bool.true_and, Bool.and_false, Bool.false_and, Bool.or_true, Bool.true_or, Bool.or_false, Bool.false_or, Bool.not_true, Bool.not_false, if_true, if_false, Bool.false_eq_true, decide_true, decide_false, ite_true, ite_false, ne_eq, not_true_eq_false, not_false_eq_true, xj, c_1, hjc, c_2]; try rfl) (Nat.le_of_ble_eq_true rfl) (Nat.le_of_ble_eq_true rfl) dX7_setNames_91
  refine J_iload_n cx dX7_setNames_0 rfl 2 rfl ?_
  refine J_if_eq cx (tgt := 11) dX7_setNames_1 (by decide) (fun c_13 => ?_) (fun c_13 => ?_)
  · have c_13d := decide_eq_true c_13
    refine J_iload_n cx dX7_setNames_11 rfl 3 rfl ?_
    refine J_if_eq cx (tgt := 22) dX7_setNames_12 (by decide) (fun c_14 => ?_) (fun c_14 => ?_)
    · have c_14d := decide_eq_true c_14
      refine J_iconst cx (v := nI 1) dX7_setNames_22 (by decide) ?_
      refine J_goto cx (tgt := 27) dX7_setNames_23 (by decide) ?_
      refine J_top (v' := .int (zb (nm0 xp && nm0 xe))) (congrArg Value.int (by simp [nm0, zb, c_13d, c_14d])) ?_
      refine J_istore cx (L' := [(4, .int (zb (nm0 xp && nm0 xe))), (0, .ref (ad 0)), (1, .int xc), (2, .int xp), (3, .int xe)]) dX7_setNames_27 (by decide) rfl ?_
      refine J_L [0, 1, 2, 3, 4] rfl ?_
      exact JN  
    · have c_14d := decide_eq_false c_14
      refine J_iload_n cx dX7_setNames_15 rfl 3 rfl ?_
      refine J_callSi cx kX7_85 (As := [.int xe]) (tX7_isName l D g A ad κ th ch cm rm row  xe ) ⟨rfl, rfl, by decide, by decide⟩ ⟨by decide, by decide⟩ rfl rfl (Nat.le_of_ble_eq_true rfl) dX7_setNames_16 ?_
      intro _ _ hr; cases hr
      refine J_ifz_eq cx (tgt := 26) dX7_setNames_19 (by decide) (fun c_15 => ?_) (fun c_15 => ?_)
      · refine J_iconst cx (v := nI 0) dX7_setNames_26 (by decide) ?_
        refine J_top (v' := .int (zb (nm0 xp && nm0 xe))) (congrArg Value.int (by simp [nm0, zb, c_13d, c_14, c_14d, c_15])) ?_
        refine J_istore cx (L' := [(4, .int (zb (nm0 xp && nm0 xe))), (0, .ref (ad 0)), (1, .int xc), (2, .int xp), (3, .int xe)]) dX7_setNames_27 (by decide) rfl ?_
        refine J_L [0, 1, 2, 3, 4] rfl ?_
        exact JN  
      · refine J_iconst cx (v := nI 1) dX7_setNames_22 (by decide) ?_
        refine J_goto cx (tgt := 27) dX7_setNames_23 (by decide) ?_
        refine J_top (v' := .int (zb (nm0 xp && nm0 xe))) (congrArg Value.int (by simp [nm0, zb, c_13d, c_14, c_14d, c_15])) ?_
        refine J_istore cx (L' := [(4, .int (zb (nm0 xp && nm0 xe))), (0, .ref (ad 0)), (1, .int xc), (2, .int xp), (3, .int xe)]) dX7_setNames_27 (by decide) rfl ?_
        refine J_L [0, 1, 2, 3, 4] rfl ?_
        exact JN  
  · have c_13d := decide_eq_false c_13
    refine J_iload_n cx dX7_setNames_4 rfl 2 rfl ?_
    refine J_callSi cx kX7_85 (As := [.int xp]) (tX7_isName l D g A ad κ th ch cm rm row  xp ) ⟨rfl, rfl, by decide, by decide⟩ ⟨by decide, by decide⟩ rfl rfl (Nat.le_of_ble_eq_true rfl) dX7_setNames_5 ?_
    intro _ _ hr; cases hr
    refine J_ifz_eq cx (tgt := 26) dX7_setNames_8 (by decide) (fun c_16 => ?_) (fun c_16 => ?_)
    · refine J_iconst cx (v := nI 0) dX7_setNames_26 (by decide) ?_
      refine J_top (v' := .int (zb (nm0 xp && nm0 xe))) (congrArg Value.int (by simp [nm0, zb, c_13, c_13d, c_16])) ?_
      refine J_istore cx (L' := [(4, .int (zb (nm0 xp && nm0 xe))), (0, .ref (ad 0)), (1, .int xc), (2, .int xp), (3, .int xe)]) dX7_setNames_27 (by decide) rfl ?_
      refine J_L [0, 1, 2, 3, 4] rfl ?_
      exact JN  
    · refine J_iload_n cx dX7_setNames_11 rfl 3 rfl ?_
      refine J_if_eq cx (tgt := 22) dX7_setNames_12 (by decide) (fun c_17 => ?_) (fun c_17 => ?_)
      · have c_17d := decide_eq_true c_17
        refine J_iconst cx (v := nI 1) dX7_setNames_22 (by decide) ?_
        refine J_goto cx (tgt := 27) dX7_setNames_23 (by decide) ?_
        refine J_top (v' := .int (zb (nm0 xp && nm0 xe))) (congrArg Value.int (by simp [nm0, zb, c_13, c_13d, c_16, c_17d])) ?_
        refine J_istore cx (L' := [(4, .int (zb (nm0 xp && nm0 xe))), (0, .ref (ad 0)), (1, .int xc), (2, .int xp), (3, .int xe)]) dX7_setNames_27 (by decide) rfl ?_
        refine J_L [0, 1, 2, 3, 4] rfl ?_
        exact JN  
      · have c_17d := decide_eq_false c_17
        refine J_iload_n cx dX7_setNames_15 rfl 3 rfl ?_
        refine J_callSi cx kX7_85 (As := [.int xe]) (tX7_isName l D g A ad κ th ch cm rm row  xe ) ⟨rfl, rfl, by decide, by decide⟩ ⟨by decide, by decide⟩ rfl rfl (Nat.le_of_ble_eq_true rfl) dX7_setNames_16 ?_
        intro _ _ hr; cases hr
        refine J_ifz_eq cx (tgt := 26) dX7_setNames_19 (by decide) (fun c_18 => ?_) (fun c_18 => ?_)
        · refine J_iconst cx (v := nI 0) dX7_setNames_26 (by decide) ?_
          refine J_top (v' := .int (zb (nm0 xp && nm0 xe))) (congrArg Value.int (by simp [nm0, zb, c_13, c_13d, c_16, c_17, c_17d, c_18])) ?_
          refine J_istore cx (L' := [(4, .int (zb (nm0 xp && nm0 xe))), (0, .ref (ad 0)), (1, .int xc), (2, .int xp), (3, .int xe)]) dX7_setNames_27 (by decide) rfl ?_
          refine J_L [0, 1, 2, 3, 4] rfl ?_
          exact JN  
        · refine J_iconst cx (v := nI 1) dX7_setNames_22 (by decide) ?_
          refine J_goto cx (tgt := 27) dX7_setNames_23 (by decide) ?_
          refine J_top (v' := .int (zb (nm0 xp && nm0 xe))) (congrArg Value.int (by simp [nm0, zb, c_13, c_13d, c_16, c_17, c_17d, c_18])) ?_
          refine J_istore cx (L' := [(4, .int (zb (nm0 xp && nm0 xe))), (0, .ref (ad 0)), (1, .int xc), (2, .int xp), (3, .int xe)]) dX7_setNames_27 (by decide) rfl ?_
          refine J_L [0, 1, 2, 3, 4] rfl ?_
          exact JN  
set_option maxHeartbeats 4000000 in
set_option maxRecDepth 100000 in
theorem tX7_trust (l : Launch) (D : va_G) (g : Nat → ClassId) (A : Nat → Prop) (ad : Nat → Nat) (κ : CS) (th : Int32) (ch : Nat → Nat) (cm rm : Nat) (row : Nat → Int64)  (xc : Int32) (b : Bool) (hn : κ.2.2.1 0 ≤ 40) : CtI l D g A yX7_trust cX7_trust 5 .int ({ frames := 3, cells := 0, slots := 0, locals := 64 } : Room) [.ref (ad 0), .int xc, .int (zb b)] (mW ad g κ th ch cm rm row) ((opTrust κ xc b).2.1) (mW ad g ((opTrust κ xc b).2.2) (nI (opTrust κ xc b).1) ch cm rm row) := by
  refine metJ (by decide) (Nat.le_of_ble_eq_true rfl) ?_
  intro p e s m args below meth c _ _ cx
  refine J_aload_n cx dX7_trust_0 rfl 0 rfl ?_
  refine J_iload_n cx dX7_trust_1 rfl 1 rfl ?_
  refine J_callVi cx kX7_99 (As := [.int xc]) (tX7_isNone l D g A ad κ th ch cm rm row  xc (by first | assumption | omega)) ⟨rfl, rfl, by decide, by decide⟩ ⟨by decide, by decide⟩ rfl 0 rfl rfl rfl (Nat.le_of_ble_eq_true rfl) dX7_trust_2 ?_
  intro _ _ hr; cases hr
  refine J_ifz_ne cx (tgt := 30) dX7_trust_5 (by decide) (fun c_1 => ?_) (fun c_1 => ?_)
  · have c_1 := bn_t c_1
    refine J_iconst cx (v := nI 0) dX7_trust_30 (by decide) ?_
    exact J_iret cx rfl (u := ()) (by simp only [opTrust, Bool.and_true, Bool.true_and, Bool.and_false, Bool.false_and, Bool.or_true, Bool.true_or, Bool.or_false, Bool.false_or, Bool.not_true, Bool.not_false, if_true, if_false, Bool.false_eq_true, decide_true, decide_false, ite_true, ite_false, ne_eq, not_true_eq_false, not_false_eq_true, xj, c_1]; try rfl) (by simp only [opTrust, Bool.and_true, Bool.true_and, Bool.and_false, Bool.false_and, Bool.or_true, Bool.true_or, Bool.or_false, Bool.false_or, Bool.not_true, Bool.not_false, if_true, if_false, Bool.false_eq_true, decide_true, decide_false, ite_true, ite_false, ne_eq, not_true_eq_false, not_false_eq_true, xj, c_1]; try rfl) (Nat.le_of_ble_eq_true rfl) (Nat.le_of_ble_eq_true rfl) dX7_trust_31
  · have c_1 := bn_f c_1
    obtain ⟨j, hj, hxj⟩ := inR_spec c_1 (by omega)
    subst hxj
    have hjc : (nI j).toNatClampNeg = j := nI_clamp (by omega)
    refine J_aload_n cx dX7_trust_8 rfl 0 rfl ?_
    refine J_aload_n cx dX7_trust_9 rfl 0 rfl ?_
    refine J_get cx (v := .ref (ad 12)) fX7_44 0 rfl rfl dX7_trust_10 ?_
    refine J_iload_n cx dX7_trust_13 rfl 1 rfl ?_
    refine J_zald cx (j := j) (f := fun i => zb (κ.2.1 1 i)) 12 rfl rfl (by omega) (by decide) dX7_trust_14 ?_
    refine J_ifz_ne cx (tgt := 22) dX7_trust_15 (by decide) (fun c_2 => ?_) (fun c_2 => ?_)
    · refine J_iconst cx (v := nI 0) dX7_trust_22 (by decide) ?_
      refine J_iconst cx (v := nI 2) dX7_trust_23 (by decide) ?_
      refine J_callVi cx kX7_78 (As := [.int (nI 0), .int (nI 2)]) (tX7_isThrown l D g A ad κ (if inR (κ.2.2.1 0) (nI j) then nI 0 else nI 1) ch cm rm row  false (nI 2) ) ⟨rfl, rfl, by decide, by decide⟩ ⟨by decide, by decide⟩ rfl 0 rfl rfl rfl (Nat.le_of_ble_eq_true rfl) dX7_trust_24 ?_
      intro _ _ hr; cases hr
      refine J_ifz_eq cx (tgt := 32) dX7_trust_27 (by decide) (fun _ => ?_) (fun h => absurd h (by decide))
      refine J_aload_n cx dX7_trust_32 rfl 0 rfl ?_
      refine J_get cx (v := .ref (ad 13)) fX7_47 0 rfl rfl dX7_trust_33 ?_
      refine J_iload_n cx dX7_trust_36 rfl 1 rfl ?_
      refine J_iload_n cx dX7_trust_37 rfl 2 rfl ?_
      refine J_zast cx (ws' := (mW ad g (κ.1, upB κ.2.1 2 j b, κ.2.2.1, κ.2.2.2.1, κ.2.2.2.2) (if false then (nI 2) else nI 0) ch cm rm row)) (j := j) 13 rfl  rfl (by omega) (by decide) (by rw [show vp_nar .boolean (zb b) = zb b from zb_vnar b, upb_zb]; rfl) dX7_trust_38 ?_
      refine J_iconst cx (v := nI 0) dX7_trust_39 (by decide) ?_
      refine J_istore_n cx (L' := [(3, .int (nI 0)), (0, .ref (ad 0)), (1, .int (nI j)), (2, .int (zb b))]) dX7_trust_40 rfl (by decide) rfl ?_
      refine J_iconst cx (v := nI 0) dX7_trust_41 (by decide) ?_
      refine J_istore cx (L' := [(4, .int (nI 0)), (3, .int (nI 0)), (0, .ref (ad 0)), (1, .int (nI j)), (2, .int (zb b))]) dX7_trust_42 (by decide) rfl ?_
      have LP : ∀ (fu : Nat) (k : Nat), (k ≤ κ.2.2.1 0) → κ.2.2.1 0 - k < fu → J p l e ({ frames := 3, cells := 0, slots := 0, locals := 64 } : Room) s m args below meth c D A 5 (MQ below (va_Qi (fun (r : Int32) (_ : Unit) => r = ((opTrust κ (nI j) b).2.1)) (fun _ => PO D A (mW ad g ((opTrust κ (nI j) b).2.2) (nI (opTrust κ (nI j) b).1) ch cm rm row)) A) args s 0 0 A) 0 0 (mW ad g (κ.1, upB κ.2.1 2 j b, κ.2.2.1, κ.2.2.2.1, κ.2.2.2.2) (if false then (nI 2) else nI 0) ch cm rm row) [(3, .int (nI (cnt (upB κ.2.1 2 j b 2) k))), (4, .int (nI k)), (0, .ref (ad 0)), (1, .int (nI j)), (2, .int (zb b))] 44 [] := by
        intro fu; induction fu with
        | zero => intro k hk hfu; exact absurd hfu (Nat.not_lt_zero _)
        | succ fu ih =>
          intro k hk hfu
          refine J_iload cx dX7_trust_44 1 rfl ?_
          refine J_aload_n cx dX7_trust_46 rfl 2 rfl ?_
          refine J_get cx (v := .int (nI (κ.2.2.1 0))) fX7_71 0 rfl rfl dX7_trust_47 ?_
          refine J_icmp_ge cx (tgt := 77) dX7_trust_50 (by decide) (fun c_4 => ?_) (fun c_4 => ?_)
          · have c_4 := (nat_ic_ge (by omega) (by omega)).mp c_4
            have c_4d := decide_eq_true c_4
            refine J_iload_n cx dX7_trust_77 rfl 0 rfl ?_
            exact J_iret cx rfl (u := ()) (by rw [show k = κ.2.2.1 0 from by omega]; simp only [opTrust, Bool.and_true, Bool.true_and, Bool.and_false, Bool.false_and, Bool.or_true, Bool.true_or, Bool.or_false, Bool.false_or, Bool.not_true, Bool.not_false, if_true, if_false, Bool.false_eq_true, decide_true, decide_false, ite_true, ite_false, ne_eq, not_true_eq_false, not_false_eq_true, xj, c_1, hjc, c_2, hk, c_4, c_4d]; try rfl) (by simp only [opTrust, Bool.and_true, Bool.true_and, Bool.and_false, Bool.false_and, Bool.or_true, Bool.true_or, Bool.or_false, Bool.false_or, Bool.not_true, Bool.not_false, if_true, if_false, Bool.false_eq_true, decide_true, decide_false, ite_true, ite_false, ne_eq, not_true_eq_false, not_false_eq_true, xj, c_1, hjc, c_2, hk, c_4, c_4d]; try rfl) (Nat.le_of_ble_eq_true rfl) (Nat.le_of_ble_eq_true rfl) dX7_trust_78
          · have c_4 := (nat_ic_ge_f (by omega) (by omega)).mp c_4
            have c_4d := decide_eq_false (Nat.not_le.mpr c_4)
            refine J_iload_n cx dX7_trust_53 rfl 0 rfl ?_
            refine J_aload_n cx dX7_trust_54 rfl 2 rfl ?_
            refine J_get cx (v := .ref (ad 13)) fX7_47 0 rfl rfl dX7_trust_55 ?_
            refine J_iload cx dX7_trust_58 1 rfl ?_
            refine J_zald cx (j := k) (f := fun i => zb ((upB κ.2.1 2 j b) 2 i)) 13 rfl rfl (by omega) (by decide) dX7_trust_60 ?_
            refine J_ifz_eq cx (tgt := 68) dX7_trust_61 (by decide) (fun c_5 => ?_) (fun c_5 => ?_)
            · refine J_iconst cx (v := nI 0) dX7_trust_68 (by decide) ?_
              refine J_iadd cx dX7_trust_69 ?_
              refine J_top (v' := .int (nI ((cnt (upB κ.2.1 2 j b 2) k) + 0))) (congrArg Value.int (nI_add (cnt (upB κ.2.1 2 j b 2) k) 0)) ?_
              refine J_top (v' := .int (nI (cnt (upB κ.2.1 2 j b 2) (k + 1)))) (congrArg (fun z => Value.int (nI z)) (cnt_f (by simp [true_and, c_1, hjc, c_2, hk, c_4, c_4d, c_5]))) ?_
              refine J_istore_n cx (L' := [(3, .int (nI (cnt (upB κ.2.1 2 j b 2) (k + 1)))), (4, .int (nI k)), (0, .ref (ad 0)), (1, .int (nI j)), (2, .int (zb b))]) dX7_trust_70 rfl (by decide) rfl ?_
              refine J_iinc cx (v := (nI (k + 1))) (L' := [(4, .int (nI (k + 1))), (3, .int (nI (cnt (upB κ.2.1 2 j b 2) (k + 1)))), (0, .ref (ad 0)), (1, .int (nI j)), (2, .int (zb b))]) dX7_trust_71 1 rfl (by exact nI_add k 1) (by decide) rfl ?_
              refine J_goto cx (tgt := 44) dX7_trust_74 (by decide) ?_
              refine J_L [1, 0, 2, 3, 4] rfl ?_
              exact ih (k + 1) (by omega) (by omega)
            · refine J_iconst cx (v := nI 1) dX7_trust_64 (by decide) ?_
              refine J_goto cx (tgt := 69) dX7_trust_65 (by decide) ?_
              refine J_iadd cx dX7_trust_69 ?_
              refine J_top (v' := .int (nI ((cnt (upB κ.2.1 2 j b 2) k) + 1))) (congrArg Value.int (nI_add (cnt (upB κ.2.1 2 j b 2) k) 1)) ?_
              refine J_top (v' := .int (nI (cnt (upB κ.2.1 2 j b 2) (k + 1)))) (congrArg (fun z => Value.int (nI z)) (cnt_t (by simp [true_and, c_1, hjc, c_2, hk, c_4, c_4d, c_5]))) ?_
              refine J_istore_n cx (L' := [(3, .int (nI (cnt (upB κ.2.1 2 j b 2) (k + 1)))), (4, .int (nI k)), (0, .ref (ad 0)), (1, .int (nI j)), (2, .int (zb b))]) dX7_trust_70 rfl (by decide) rfl ?_
              refine J_iinc cx (v := (nI (k + 1))) (L' := [(4, .int (nI (k + 1))), (3, .int (nI (cnt (upB κ.2.1 2 j b 2) (k + 1)))), (0, .ref (ad 0)), (1, .int (nI j)), (2, .int (zb b))]) dX7_trust_71 1 rfl (by exact nI_add k 1) (by decide) rfl ?_
              refine J_goto cx (tgt := 44) dX7_trust_74 (by decide) ?_
              refine J_L [1, 0, 2, 3, 4] rfl ?_
              exact ih (k + 1) (by omega) (by omega)
      refine J_L [1, 0, 2, 3, 4] rfl ?_
      exact LP _ 0 (by omega) (Nat.lt_succ_self _)
    · refine J_iconst cx (v := nI 1) dX7_trust_18 (by decide) ?_
      refine J_goto cx (tgt := 23) dX7_trust_19 (by decide) ?_
      refine J_iconst cx (v := nI 2) dX7_trust_23 (by decide) ?_
      refine J_callVi cx kX7_78 (As := [.int (nI 1), .int (nI 2)]) (tX7_isThrown l D g A ad κ (if inR (κ.2.2.1 0) (nI j) then nI 0 else nI 1) ch cm rm row  true (nI 2) ) ⟨rfl, rfl, by decide, by decide⟩ ⟨by decide, by decide⟩ rfl 0 rfl rfl rfl (Nat.le_of_ble_eq_true rfl) dX7_trust_24 ?_
      intro _ _ hr; cases hr
      refine J_ifz_eq cx (tgt := 32) dX7_trust_27 (by decide) (fun h => absurd h (by decide)) (fun _ => ?_)
      refine J_iconst cx (v := nI 0) dX7_trust_30 (by decide) ?_
      exact J_iret cx rfl (u := ()) (by simp only [opTrust, Bool.and_true, Bool.true_and, Bool.and_false, Bool.false_and, Bool.or_true, Bool.true_or, Bool.or_false, Bool.false_or, Bool.not_true, Bool.not_false, if_true, if_false, Bool.false_eq_true, decide_true, decide_false, ite_true, ite_false, ne_eq, not_true_eq_false, not_false_eq_true, xj, c_1, hjc, c_2]; try rfl) (by simp only [opTrust, Bool.and_true, Bool.true_and, Bool.and_false, Bool.false_and, Bool.or_true, Bool.true_or, Bool.or_false, Bool.false_or, Bool.not_true, Bool.not_false, if_true, if_false, Bool.false_eq_true, decide_true, decide_false, ite_true, ite_false, ne_eq, not_true_eq_false, not_false_eq_true, xj, c_1, hjc, c_2]; try rfl) (Nat.le_of_ble_eq_true rfl) (Nat.le_of_ble_eq_true rfl) dX7_trust_31
