set_option maxHeartbeats 4000000 in
set_option maxRecDepth 100000 in
theorem tX7_best (l : Launch) (D : va_G) (g : Nat → ClassId) (A : Nat → Prop) (ad : Nat → Nat) (κ : CS) (th : Int32) (ch : Nat → Nat) (cm rm : Nat) (row : Nat → Int64)  (i : Nat) (on : Int32) (hI : InvM κ) (hi : i < κ.2.2.1 0) : CtI l D g A yX7_best cX7_best 4 .int ({ frames := 11, cells := 0, slots := 0, locals := 272 } : Room) [.ref (ad 0), .int (nI i), .int on] (mW ad g κ th ch cm rm row) (nI (bestK κ i on 7 0 (upn ch 0 i)).1) (mW ad g κ th ((bestK κ i on 7 0 (upn ch 0 i)).2) cm rm row) := by
  have hn := hI.1
  refine metJ (by decide) (Nat.le_of_ble_eq_true rfl) ?_
  intro p e s m args below meth c _ _ cx
  refine J_aload_n cx dX7_best_0 rfl 0 rfl ?_
  refine J_get cx (v := .ref (ad 15)) fX7_53 0 rfl rfl dX7_best_1 ?_
  refine J_iconst cx (v := nI 0) dX7_best_4 (by decide) ?_
  refine J_iload_n cx dX7_best_5 rfl 1 rfl ?_
  refine J_iast cx (ws' := (mW ad g κ th (upn ch 0 i) cm rm row)) (j := 0) 15 rfl  rfl (by omega) (by decide) (by rw [upn_nI]; rfl) dX7_best_6 ?_
  refine J_iconst cx (v := nI 1) dX7_best_7 (by decide) ?_
  refine J_istore_n cx (L' := [(3, .int (nI 1)), (0, .ref (ad 0)), (1, .int (nI i)), (2, .int on)]) dX7_best_8 rfl (by decide) rfl ?_
  have LP : ∀ (fu : Nat) (d : Nat) (c9 : Nat → Nat), (d ≤ 7) → (bestK κ i on (7 - d) d c9 = bestK κ i on 7 0 (upn ch 0 i)) → (c9 0 = i) → 7 - d < fu → J p l e ({ frames := 11, cells := 0, slots := 0, locals := 272 } : Room) s m args below meth c D A 4 (MQ below (va_Qi (fun (r : Int32) (_ : Unit) => r = (nI (bestK κ i on 7 0 (upn ch 0 i)).1)) (fun _ => PO D A (mW ad g κ th ((bestK κ i on 7 0 (upn ch 0 i)).2) cm rm row)) A) args s 0 0 A) 0 0 (mW ad g κ th c9 cm rm row) [(3, .int (nI (1 + d))), (0, .ref (ad 0)), (1, .int (nI i)), (2, .int on)] 9 [] := by
    intro fu; induction fu with
    | zero => intro d c9 hk heq hc0 hfu; exact absurd hfu (Nat.not_lt_zero _)
    | succ fu ih =>
      intro d c9 hk heq hc0 hfu
      refine J_iload_n cx dX7_best_9 rfl 0 rfl ?_
      refine J_bipush cx (v := nI 8) dX7_best_10 (by decide) ?_
      refine J_icmp_ge cx (tgt := 42) dX7_best_12 (by decide) (fun c_1 => ?_) (fun c_1 => ?_)
      · have c_1 := (nat_ic_ge (by omega) (by omega)).mp c_1
        have c_1d := decide_eq_true c_1
        refine J_iconst cx (v := nI 0) dX7_best_42 (by decide) ?_
        exact J_iret cx rfl (u := ()) (by rw [← heq, show 7 - d = 0 from by omega]; rfl) (by rw [← heq, show 7 - d = 0 from by omega]; rfl) (Nat.le_of_ble_eq_true rfl) (Nat.le_of_ble_eq_true rfl) dX7_best_43
      · have c_1 := (nat_ic_ge_f (by omega) (by omega)).mp c_1
        have c_1d := decide_eq_false (Nat.not_le.mpr c_1)
        refine J_aload_n cx dX7_best_15 rfl 1 rfl ?_
        refine J_iload_n cx dX7_best_16 rfl 2 rfl ?_
        refine J_iload_n cx dX7_best_17 rfl 3 rfl ?_
        refine J_callVi cx kX7_149 (As := [.int (nI i), .int on]) (tX7_canBegin l D g A ad κ th c9 cm rm row  i on (by omega)) ⟨rfl, rfl, (by first | decide | (simp only [rmF]; omega)), (by first | decide | (simp only [rmF]; omega))⟩ ⟨(by first | decide | (simp only [rmF]; omega)), (by first | decide | (simp only [rmF]; omega))⟩ rfl 0 rfl rfl rfl (Nat.le_of_ble_eq_true rfl) dX7_best_18 ?_
        intro _ _ hr; cases hr
        refine J_ifz_eq cx (tgt := 42) dX7_best_21 (by decide) (fun c_2 => ?_) (fun c_2 => ?_)
        · refine J_iconst cx (v := nI 0) dX7_best_42 (by decide) ?_
          exact J_iret cx rfl (u := ()) (by rw [← heq, show 7 - d = (7 - (d + 1)) + 1 from by omega]; simp [bestK, c_1, c_1d, c_2]) (by rw [← heq, show 7 - d = (7 - (d + 1)) + 1 from by omega]; simp [bestK, c_1, c_1d, c_2]) (Nat.le_of_ble_eq_true rfl) (Nat.le_of_ble_eq_true rfl) dX7_best_43
        · refine J_aload_n cx dX7_best_24 rfl 1 rfl ?_
          refine J_iconst cx (v := nI 1) dX7_best_25 (by decide) ?_
          refine J_iload_n cx dX7_best_26 rfl 0 rfl ?_
          refine J_iload_n cx dX7_best_27 rfl 3 rfl ?_
          refine J_callVi cx kX7_146 (As := [.int (nI 1), .int (nI (1 + d)), .int on]) (tX7_finds l D g A ad κ th cm rm row on d 1 c9 hI (by omega) (by omega) (fun z hz => by rw [show z = 0 from by omega, hc0]; exact hi)) ⟨rfl, rfl, (by first | decide | (simp only [rmF]; omega)), (by first | decide | (simp only [rmF]; omega))⟩ ⟨(by first | decide | (simp only [rmF]; omega)), (by first | decide | (simp only [rmF]; omega))⟩ rfl 0 rfl rfl rfl (Nat.le_of_ble_eq_true rfl) dX7_best_28 ?_
          intro _ _ hr; cases hr
          refine J_ifz_eq cx (tgt := 36) dX7_best_31 (by decide) (fun c_3 => ?_) (fun c_3 => ?_)
          · refine J_iinc cx (v := (nI ((1 + d) + 1))) (L' := [(3, .int (nI ((1 + d) + 1))), (0, .ref (ad 0)), (1, .int (nI i)), (2, .int on)]) dX7_best_36 0 rfl (by exact nI_add (1 + d) 1) (by decide) rfl ?_
            refine J_Le (L' := [(3, .int (nI (1 + (d + 1)))), (0, .ref (ad 0)), (1, .int (nI i)), (2, .int on)]) (by rw [show 1 + d + 1 = 1 + (d + 1) from by omega]) ?_
            refine J_goto cx (tgt := 9) dX7_best_39 (by decide) ?_
            refine J_L [0, 1, 2, 3] rfl ?_
            exact ih (d + 1) _ (by omega) (by rw [← heq, show 7 - d = (7 - (d + 1)) + 1 from by omega]; simp [bestK, c_1, c_1d, c_2, c_3]) (by rw [fndK_pre κ on d 1 c9 0 (by omega)]; exact hc0) (by omega)
          · refine J_iload_n cx dX7_best_34 rfl 0 rfl ?_
            exact J_iret cx rfl (u := ()) (by rw [← heq, show 7 - d = (7 - (d + 1)) + 1 from by omega]; simp [bestK, c_1, c_1d, c_2, c_3]) (by rw [← heq, show 7 - d = (7 - (d + 1)) + 1 from by omega]; simp [bestK, c_1, c_1d, c_2, c_3]) (Nat.le_of_ble_eq_true rfl) (Nat.le_of_ble_eq_true rfl) dX7_best_35
  refine J_L [0, 1, 2, 3] rfl ?_
  exact LP _ 0 _ (by omega) rfl upn_eq (Nat.lt_succ_self _)
set_option maxHeartbeats 4000000 in
set_option maxRecDepth 100000 in
theorem tX7_chainSize (l : Launch) (D : va_G) (g : Nat → ClassId) (A : Nat → Prop) (ad : Nat → Nat) (κ : CS) (th : Int32) (ch : Nat → Nat) (cm rm : Nat) (row : Nat → Int64)  (xc : Int32) (dy : Int32) (hI : InvM κ) : CtI l D g A yX7_chainSize cX7_chainSize 3 .int ({ frames := 12, cells := 0, slots := 0, locals := 295 } : Room) [.ref (ad 0), .int xc, .int dy] (mW ad g κ th ch cm rm row) ((opChainSize κ ch xc dy).2) (mW ad g κ (nI (opChainSize κ ch xc dy).1) (chCh κ ch xc dy) cm rm row) := by
  have hn := hI.1
  refine metJ (by decide) (Nat.le_of_ble_eq_true rfl) ?_
  intro p e s m args below meth c _ _ cx
  refine J_aload_n cx dX7_chainSize_0 rfl 0 rfl ?_
  refine J_iload_n cx dX7_chainSize_1 rfl 1 rfl ?_
  refine J_iload_n cx dX7_chainSize_2 rfl 2 rfl ?_
  refine J_callVi cx kX7_120 (As := [.int xc, .int dy]) (tX7_isWrong l D g A ad κ th ch cm rm row  xc dy hn) ⟨rfl, rfl, by decide, by decide⟩ ⟨by decide, by decide⟩ rfl 0 rfl rfl rfl (Nat.le_of_ble_eq_true rfl) dX7_chainSize_3 ?_
  intro _ _ hr; cases hr
  refine J_ifz_eq cx (tgt := 13) dX7_chainSize_6 (by decide) (fun c_1 => ?_) (fun c_1 => ?_)
  · have c_1 := bn_f c_1
    have c_1 := of_decide_eq_true c_1
    obtain ⟨j, hj, hxj, hdy⟩ := wrong_0 c_1 hn; subst hxj
    have hjc : (nI j).toNatClampNeg = j := nI_clamp (by omega)
    have hdyd := decide_eq_false hdy
    refine J_aload_n cx dX7_chainSize_13 rfl 0 rfl ?_
    refine J_iload_n cx dX7_chainSize_14 rfl 1 rfl ?_
    refine J_iload_n cx dX7_chainSize_15 rfl 2 rfl ?_
    refine J_callVi cx kX7_152 (As := [.int (nI j), .int dy]) (tX7_best l D g A ad κ (nI (wrongC κ (nI j) dy)) ch cm rm row  j dy hI hj) ⟨rfl, rfl, by decide, by decide⟩ ⟨by decide, by decide⟩ rfl 0 rfl rfl rfl (Nat.le_of_ble_eq_true rfl) dX7_chainSize_16 ?_
    intro _ _ hr; cases hr
    exact J_iret cx rfl (u := ()) (by simp only [opChainSize, chCh, Bool.and_true, Bool.true_and, Bool.and_false, Bool.false_and, Bool.or_true, Bool.true_or, Bool.or_false, Bool.false_or, Bool.not_true, Bool.not_false, if_true, if_false, Bool.false_eq_true, decide_true, decide_false, ite_true, ite_false, ne_eq, not_true_eq_false, not_false_eq_true, xj, c_1, hjc, hdyd]; try rfl) (by simp only [opChainSize, chCh, Bool.and_true, Bool.true_and, Bool.and_false, Bool.false_and, Bool.or_true, Bool.true_or, Bool.or_false, Bool.false_or, Bool.not_true, Bool.not_false, if_true, if_false, Bool.false_eq_true, decide_true, decide_false, ite_true, ite_false, ne_eq, not_true_eq_false, not_false_eq_true, xj, c_1, hjc, hdyd]; try rfl) (Nat.le_of_ble_eq_true rfl) (Nat.le_of_ble_eq_true rfl) dX7_chainSize_19
  · have c_1 := bn_t c_1
    have c_1 := of_decide_eq_false c_1
    refine J_iconst cx (v := nI 0) dX7_chainSize_9 (by decide) ?_
    refine J_goto cx (tgt := 19) dX7_chainSize_10 (by decide) ?_
    exact J_iret cx rfl (u := ()) (by simp only [opChainSize, chCh, Bool.and_true, Bool.true_and, Bool.and_false, Bool.false_and, Bool.or_true, Bool.true_or, Bool.or_false, Bool.false_or, Bool.not_true, Bool.not_false, if_true, if_false, Bool.false_eq_true, decide_true, decide_false, ite_true, ite_false, ne_eq, not_true_eq_false, not_false_eq_true, xj, c_1]; try rfl) (by simp only [opChainSize, chCh, Bool.and_true, Bool.true_and, Bool.and_false, Bool.false_and, Bool.or_true, Bool.true_or, Bool.or_false, Bool.false_or, Bool.not_true, Bool.not_false, if_true, if_false, Bool.false_eq_true, decide_true, decide_false, ite_true, ite_false, ne_eq, not_true_eq_false, not_false_eq_true, xj, c_1]; try rfl) (Nat.le_of_ble_eq_true rfl) (Nat.le_of_ble_eq_true rfl) dX7_chainSize_19
set_option maxHeartbeats 4000000 in
set_option maxRecDepth 100000 in
theorem tX7_chainAt (l : Launch) (D : va_G) (g : Nat → ClassId) (A : Nat → Prop) (ad : Nat → Nat) (κ : CS) (th : Int32) (ch : Nat → Nat) (cm rm : Nat) (row : Nat → Int64)  (xc : Int32) (dy : Int32) (xi : Int32) (hI : InvM κ) : CtI l D g A yX7_chainAt cX7_chainAt 5 .int ({ frames := 12, cells := 0, slots := 0, locals := 295 } : Room) [.ref (ad 0), .int xc, .int dy, .int xi] (mW ad g κ th ch cm rm row) ((opChainAt κ ch xc dy xi).2) (mW ad g κ (nI (opChainAt κ ch xc dy xi).1) (chCh κ ch xc dy) cm rm row) := by
  have hn := hI.1
  refine metJ (by decide) (Nat.le_of_ble_eq_true rfl) ?_
  intro p e s m args below meth c _ _ cx
  refine J_aload_n cx dX7_chainAt_0 rfl 0 rfl ?_
  refine J_iload_n cx dX7_chainAt_1 rfl 1 rfl ?_
  refine J_iload_n cx dX7_chainAt_2 rfl 2 rfl ?_
  refine J_callVi cx kX7_120 (As := [.int xc, .int dy]) (tX7_isWrong l D g A ad κ th ch cm rm row  xc dy hn) ⟨rfl, rfl, by decide, by decide⟩ ⟨by decide, by decide⟩ rfl 0 rfl rfl rfl (Nat.le_of_ble_eq_true rfl) dX7_chainAt_3 ?_
  intro _ _ hr; cases hr
  refine J_ifz_eq cx (tgt := 11) dX7_chainAt_6 (by decide) (fun c_1 => ?_) (fun c_1 => ?_)
  · have c_1 := bn_f c_1
    have c_1 := of_decide_eq_true c_1
    obtain ⟨j, hj, hxj, hdy⟩ := wrong_0 c_1 hn; subst hxj
    have hjc : (nI j).toNatClampNeg = j := nI_clamp (by omega)
    have hdyd := decide_eq_false hdy
    refine J_aload_n cx dX7_chainAt_11 rfl 0 rfl ?_
    refine J_iload_n cx dX7_chainAt_12 rfl 1 rfl ?_
    refine J_iload_n cx dX7_chainAt_13 rfl 2 rfl ?_
    refine J_callVi cx kX7_152 (As := [.int (nI j), .int dy]) (tX7_best l D g A ad κ (nI (wrongC κ (nI j) dy)) ch cm rm row  j dy hI hj) ⟨rfl, rfl, by decide, by decide⟩ ⟨by decide, by decide⟩ rfl 0 rfl rfl rfl (Nat.le_of_ble_eq_true rfl) dX7_chainAt_14 ?_
    intro _ _ hr; cases hr
    refine J_istore cx (L' := [(4, .int (nI (bestK κ j dy 7 0 (upn ch 0 j)).1)), (0, .ref (ad 0)), (1, .int (nI j)), (2, .int dy), (3, .int xi)]) dX7_chainAt_17 (by decide) rfl ?_
    have hbl : (bst κ j dy ch).1 ≤ 7 := bestK_le κ j dy 7 0 (upn ch 0 j)
    refine J_aload_n cx dX7_chainAt_19 rfl 1 rfl ?_
    refine J_iload_n cx dX7_chainAt_20 rfl 4 rfl ?_
    refine J_iconst cx (v := nI 0) dX7_chainAt_21 (by decide) ?_
    refine J_iload cx dX7_chainAt_22 0 rfl ?_
    refine J_iconst cx (v := nI 1) dX7_chainAt_24 (by decide) ?_
    refine J_isub cx dX7_chainAt_25 ?_
    refine J_callSi cx kX7_67 (As := [.int xi, .int (nI 0), .int ((nI (bestK κ j dy 7 0 (upn ch 0 j)).1) - (nI 1))]) (tX7_isIn l D g A ad κ (nI (wrongC κ (nI j) dy)) ((bestK κ j dy 7 0 (upn ch 0 j)).2) cm rm row  xi (nI 0) ((nI (bestK κ j dy 7 0 (upn ch 0 j)).1) - (nI 1)) ) ⟨rfl, rfl, by decide, by decide⟩ ⟨by decide, by decide⟩ rfl rfl (Nat.le_of_ble_eq_true rfl) dX7_chainAt_26 ?_
    intro _ _ hr; cases hr
    refine J_top (v' := .int (zb (inR (bst κ j dy ch).1 xi))) (congrArg (fun z => Value.int (zb z)) (isInB_inR (n := (bst κ j dy ch).1) (by omega))) ?_
    refine J_ifz_ne cx (tgt := 36) dX7_chainAt_29 (by decide) (fun c_2 => ?_) (fun c_2 => ?_)
    · obtain ⟨z, hz, hxz⟩ := inR_spec c_2 (by omega)
      subst hxz
      have hzc : (nI z).toNatClampNeg = z := nI_clamp (by omega)
      refine J_iconst cx (v := nI 0) dX7_chainAt_36 (by decide) ?_
      refine J_iconst cx (v := nI 3) dX7_chainAt_37 (by decide) ?_
      refine J_callVi cx kX7_78 (As := [.int (nI 0), .int (nI 3)]) (tX7_isThrown l D g A ad κ (nI (wrongC κ (nI j) dy)) ((bestK κ j dy 7 0 (upn ch 0 j)).2) cm rm row  false (nI 3) ) ⟨rfl, rfl, by decide, by decide⟩ ⟨by decide, by decide⟩ rfl 0 rfl rfl rfl (Nat.le_of_ble_eq_true rfl) dX7_chainAt_38 ?_
      intro _ _ hr; cases hr
      refine J_ifz_eq cx (tgt := 48) dX7_chainAt_41 (by decide) (fun _ => ?_) (fun h => absurd h (by decide))
      refine J_aload_n cx dX7_chainAt_48 rfl 1 rfl ?_
      refine J_get cx (v := .ref (ad 15)) fX7_53 0 rfl rfl dX7_chainAt_49 ?_
      refine J_iload_n cx dX7_chainAt_52 rfl 4 rfl ?_
      refine J_iald cx (j := z) (f := fun i => nI (((bestK κ j dy 7 0 (upn ch 0 j)).2) i)) 15 rfl rfl (by omega) (by decide) dX7_chainAt_53 ?_
      exact J_iret cx rfl (u := ()) (by simp only [opChainAt, chCh, Bool.and_true, Bool.true_and, Bool.and_false, Bool.false_and, Bool.or_true, Bool.true_or, Bool.or_false, Bool.false_or, Bool.not_true, Bool.not_false, if_true, if_false, Bool.false_eq_true, decide_true, decide_false, ite_true, ite_false, ne_eq, not_true_eq_false, not_false_eq_true, xj, c_1, hjc, hdyd, c_2, hzc]; try rfl) (by simp only [opChainAt, chCh, Bool.and_true, Bool.true_and, Bool.and_false, Bool.false_and, Bool.or_true, Bool.true_or, Bool.or_false, Bool.false_or, Bool.not_true, Bool.not_false, if_true, if_false, Bool.false_eq_true, decide_true, decide_false, ite_true, ite_false, ne_eq, not_true_eq_false, not_false_eq_true, xj, c_1, hjc, hdyd, c_2, hzc]; try rfl) (Nat.le_of_ble_eq_true rfl) (Nat.le_of_ble_eq_true rfl) dX7_chainAt_54
    · refine J_iconst cx (v := nI 1) dX7_chainAt_32 (by decide) ?_
      refine J_goto cx (tgt := 37) dX7_chainAt_33 (by decide) ?_
      refine J_iconst cx (v := nI 3) dX7_chainAt_37 (by decide) ?_
      refine J_callVi cx kX7_78 (As := [.int (nI 1), .int (nI 3)]) (tX7_isThrown l D g A ad κ (nI (wrongC κ (nI j) dy)) ((bestK κ j dy 7 0 (upn ch 0 j)).2) cm rm row  true (nI 3) ) ⟨rfl, rfl, by decide, by decide⟩ ⟨by decide, by decide⟩ rfl 0 rfl rfl rfl (Nat.le_of_ble_eq_true rfl) dX7_chainAt_38 ?_
      intro _ _ hr; cases hr
      refine J_ifz_eq cx (tgt := 48) dX7_chainAt_41 (by decide) (fun h => absurd h (by decide)) (fun _ => ?_)
      refine J_iconst cx (v := nI 0) dX7_chainAt_44 (by decide) ?_
      refine J_goto cx (tgt := 54) dX7_chainAt_45 (by decide) ?_
      exact J_iret cx rfl (u := ()) (by simp only [opChainAt, chCh, Bool.and_true, Bool.true_and, Bool.and_false, Bool.false_and, Bool.or_true, Bool.true_or, Bool.or_false, Bool.false_or, Bool.not_true, Bool.not_false, if_true, if_false, Bool.false_eq_true, decide_true, decide_false, ite_true, ite_false, ne_eq, not_true_eq_false, not_false_eq_true, xj, c_1, hjc, hdyd, c_2]; try rfl) (by simp only [opChainAt, chCh, Bool.and_true, Bool.true_and, Bool.and_false, Bool.false_and, Bool.or_true, Bool.true_or, Bool.or_false, Bool.false_or, Bool.not_true, Bool.not_false, if_true, if_false, Bool.false_eq_true, decide_true, decide_false, ite_true, ite_false, ne_eq, not_true_eq_false, not_false_eq_true, xj, c_1, hjc, hdyd, c_2]; try rfl) (Nat.le_of_ble_eq_true rfl) (Nat.le_of_ble_eq_true rfl) dX7_chainAt_54
  · have c_1 := bn_t c_1
    have c_1 := of_decide_eq_false c_1
    refine J_iconst cx (v := nI 0) dX7_chainAt_9 (by decide) ?_
    exact J_iret cx rfl (u := ()) (by simp only [opChainAt, chCh, Bool.and_true, Bool.true_and, Bool.and_false, Bool.false_and, Bool.or_true, Bool.true_or, Bool.or_false, Bool.false_or, Bool.not_true, Bool.not_false, if_true, if_false, Bool.false_eq_true, decide_true, decide_false, ite_true, ite_false, ne_eq, not_true_eq_false, not_false_eq_true, xj, c_1]; try rfl) (by simp only [opChainAt, chCh, Bool.and_true, Bool.true_and, Bool.and_false, Bool.false_and, Bool.or_true, Bool.true_or, Bool.or_false, Bool.false_or, Bool.not_true, Bool.not_false, if_true, if_false, Bool.false_eq_true, decide_true, decide_false, ite_true, ite_false, ne_eq, not_true_eq_false, not_false_eq_true, xj, c_1]; try rfl) (Nat.le_of_ble_eq_true rfl) (Nat.le_of_ble_eq_true rfl) dX7_chainAt_10
