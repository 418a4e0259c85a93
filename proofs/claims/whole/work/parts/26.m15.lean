set_option maxHeartbeats 4000000 in
set_option maxRecDepth 100000 in
theorem tX7_soundShare (l : Launch) (D : va_G) (g : Nat → ClassId) (A : Nat → Prop) (ad : Nat → Nat) (κ : CS) (th : Int32) (ch : Nat → Nat) (cm rm : Nat) (row : Nat → Int64)   (hn : κ.2.2.1 0 ≤ 40) : CtF l D g A yX7_soundShare cX7_soundShare 3 .float ({ frames := 3, cells := 0, slots := 0, locals := 66 } : Room) [.ref (ad 0)] (mW ad g κ th ch cm rm row) ((opSound κ).2) (mW ad g κ (nI (opSound κ).1) ch cm rm row) := by
  refine metJ (by decide) (Nat.le_of_ble_eq_true rfl) ?_
  intro p e s m args below meth c _ _ cx
  refine J_iconst cx (v := nI 0) dX7_soundShare_0 (by decide) ?_
  refine J_istore_n cx (L' := [(1, .int (nI 0)), (0, .ref (ad 0))]) dX7_soundShare_1 rfl (by decide) rfl ?_
  refine J_iconst cx (v := nI 0) dX7_soundShare_2 (by decide) ?_
  refine J_istore_n cx (L' := [(2, .int (nI 0)), (1, .int (nI 0)), (0, .ref (ad 0))]) dX7_soundShare_3 rfl (by decide) rfl ?_
  have LP : ∀ (fu : Nat) (k : Nat), (k ≤ κ.2.2.1 0) → κ.2.2.1 0 - k < fu → J p l e ({ frames := 3, cells := 0, slots := 0, locals := 66 } : Room) s m args below meth c D A 3 (MQ below (va_Qf (fun (r : UInt32) (_ : Unit) => r = ((opSound κ).2)) (fun _ => PO D A (mW ad g κ (nI (opSound κ).1) ch cm rm row)) A) args s 0 0 A) 0 0 (mW ad g κ th ch cm rm row) [(1, .int (nI (cnt (sndB κ) k))), (2, .int (nI k)), (0, .ref (ad 0))] 4 [] := by
    intro fu; induction fu with
    | zero => intro k hk hfu; exact absurd hfu (Nat.not_lt_zero _)
    | succ fu ih =>
      intro k hk hfu
      refine J_iload_n cx dX7_soundShare_4 rfl 1 rfl ?_
      refine J_aload_n cx dX7_soundShare_5 rfl 2 rfl ?_
      refine J_get cx (v := .int (nI (κ.2.2.1 0))) fX7_71 0 rfl rfl dX7_soundShare_6 ?_
      refine J_icmp_ge cx (tgt := 38) dX7_soundShare_9 (by decide) (fun c_1 => ?_) (fun c_1 => ?_)
      · have c_1 := (nat_ic_ge (by omega) (by omega)).mp c_1
        have c_1d := decide_eq_true c_1
        refine J_aload_n cx dX7_soundShare_38 rfl 2 rfl ?_
        refine J_aload_n cx dX7_soundShare_39 rfl 2 rfl ?_
        refine J_get cx (v := .int (nI (κ.2.2.1 0))) fX7_71 0 rfl rfl dX7_soundShare_40 ?_
        refine J_if_ne cx (tgt := 50) dX7_soundShare_43 (by decide) (fun c_2 => ?_) (fun c_2 => ?_)
        · have c_2 := (nat_if_ne (by omega)).mp c_2
          have c_2d := decide_eq_false c_2
          refine J_iconst cx (v := nI 0) dX7_soundShare_50 (by decide) ?_
          refine J_iconst cx (v := nI 1) dX7_soundShare_51 (by decide) ?_
          refine J_callVi cx kX7_78 (As := [.int (nI 0), .int (nI 1)]) (tX7_isThrown l D g A ad κ th ch cm rm row  false (nI 1) ) ⟨rfl, rfl, by decide, by decide⟩ ⟨by decide, by decide⟩ rfl 0 rfl rfl rfl (Nat.le_of_ble_eq_true rfl) dX7_soundShare_52 ?_
          intro _ _ hr; cases hr
          refine J_ifz_eq cx (tgt := 62) dX7_soundShare_55 (by decide) (fun _ => ?_) (fun h => absurd h (by decide))
          refine J_iload_n cx dX7_soundShare_62 rfl 0 rfl ?_
          refine J_i2f cx dX7_soundShare_63 ?_
          refine J_aload_n cx dX7_soundShare_64 rfl 2 rfl ?_
          refine J_get cx (v := .int (nI (κ.2.2.1 0))) fX7_71 0 rfl rfl dX7_soundShare_65 ?_
          refine J_i2f cx dX7_soundShare_68 ?_
          refine J_fdiv cx dX7_soundShare_69 (by exact fdiv_ok _ (by have := cnt_le (sndB κ) k; omega) _ (by omega) (by omega)) ?_
          exact J_fret cx rfl (u := ()) (by have hkn : k = κ.2.2.1 0 := (by omega); subst hkn; simp only [opSound, Bool.and_true, Bool.true_and, Bool.and_false, Bool.false_and, Bool.or_true, Bool.true_or, Bool.or_false, Bool.false_or, Bool.not_true, Bool.not_false, if_true, if_false, Bool.false_eq_true, decide_true, decide_false, ite_true, ite_false, ne_eq, not_true_eq_false, not_false_eq_true, xj, hk, c_1, c_1d, c_2, c_2d]; try rfl) (by have hkn : k = κ.2.2.1 0 := (by omega); subst hkn; simp only [opSound, Bool.and_true, Bool.true_and, Bool.and_false, Bool.false_and, Bool.or_true, Bool.true_or, Bool.or_false, Bool.false_or, Bool.not_true, Bool.not_false, if_true, if_false, Bool.false_eq_true, decide_true, decide_false, ite_true, ite_false, ne_eq, not_true_eq_false, not_false_eq_true, xj, hk, c_1, c_1d, c_2, c_2d]; try rfl) (Nat.le_of_ble_eq_true rfl) (Nat.le_of_ble_eq_true rfl) dX7_soundShare_70
        · have c_2 := (nat_if_ne_f (by omega)).mp c_2
          have c_2d := decide_eq_true c_2
          refine J_iconst cx (v := nI 1) dX7_soundShare_46 (by decide) ?_
          refine J_goto cx (tgt := 51) dX7_soundShare_47 (by decide) ?_
          refine J_iconst cx (v := nI 1) dX7_soundShare_51 (by decide) ?_
          refine J_callVi cx kX7_78 (As := [.int (nI 1), .int (nI 1)]) (tX7_isThrown l D g A ad κ th ch cm rm row  true (nI 1) ) ⟨rfl, rfl, by decide, by decide⟩ ⟨by decide, by decide⟩ rfl 0 rfl rfl rfl (Nat.le_of_ble_eq_true rfl) dX7_soundShare_52 ?_
          intro _ _ hr; cases hr
          refine J_ifz_eq cx (tgt := 62) dX7_soundShare_55 (by decide) (fun h => absurd h (by decide)) (fun _ => ?_)
          refine J_fconst0 cx dX7_soundShare_58 ?_
          refine J_goto cx (tgt := 70) dX7_soundShare_59 (by decide) ?_
          exact J_fret cx rfl (u := ()) (by have hkn : k = κ.2.2.1 0 := (by omega); subst hkn; simp only [opSound, Bool.and_true, Bool.true_and, Bool.and_false, Bool.false_and, Bool.or_true, Bool.true_or, Bool.or_false, Bool.false_or, Bool.not_true, Bool.not_false, if_true, if_false, Bool.false_eq_true, decide_true, decide_false, ite_true, ite_false, ne_eq, not_true_eq_false, not_false_eq_true, xj, hk, c_1, c_1d, c_2d]; try rfl) (by have hkn : k = κ.2.2.1 0 := (by omega); subst hkn; simp only [opSound, Bool.and_true, Bool.true_and, Bool.and_false, Bool.false_and, Bool.or_true, Bool.true_or, Bool.or_false, Bool.false_or, Bool.not_true, Bool.not_false, if_true, if_false, Bool.false_eq_true, decide_true, decide_false, ite_true, ite_false, ne_eq, not_true_eq_false, not_false_eq_true, xj, hk, c_1, c_1d, c_2d]; try rfl) (Nat.le_of_ble_eq_true rfl) (Nat.le_of_ble_eq_true rfl) dX7_soundShare_70
      · have c_1 := (nat_ic_ge_f (by omega) (by omega)).mp c_1
        have c_1d := decide_eq_false (Nat.not_le.mpr c_1)
        refine J_iload_n cx dX7_soundShare_12 rfl 0 rfl ?_
        refine J_aload_n cx dX7_soundShare_13 rfl 2 rfl ?_
        refine J_iload_n cx dX7_soundShare_14 rfl 1 rfl ?_
        refine J_aload_n cx dX7_soundShare_15 rfl 2 rfl ?_
        refine J_get cx (v := .int (nI (κ.2.2.1 2))) fX7_82 0 rfl rfl dX7_soundShare_16 ?_
        refine J_callVi cx kX7_149 (As := [.int (nI k), .int (nI (κ.2.2.1 2))]) (tX7_canBegin l D g A ad κ th ch cm rm row  k (nI (κ.2.2.1 2)) (by omega)) ⟨rfl, rfl, by decide, by decide⟩ ⟨by decide, by decide⟩ rfl 0 rfl rfl rfl (Nat.le_of_ble_eq_true rfl) dX7_soundShare_19 ?_
        intro _ _ hr; cases hr
        refine J_ifz_eq cx (tgt := 29) dX7_soundShare_22 (by decide) (fun c_5 => ?_) (fun c_5 => ?_)
        · refine J_iconst cx (v := nI 0) dX7_soundShare_29 (by decide) ?_
          refine J_iadd cx dX7_soundShare_30 ?_
          refine J_top (v' := .int (nI ((cnt (sndB κ) k) + 0))) (congrArg Value.int (nI_add (cnt (sndB κ) k) 0)) ?_
          refine J_top (v' := .int (nI (cnt (sndB κ) (k + 1)))) (congrArg (fun z => Value.int (nI z)) (cnt_f (by simp [sndB, hk, c_1, c_1d, c_5]))) ?_
          refine J_istore_n cx (L' := [(1, .int (nI (cnt (sndB κ) (k + 1)))), (2, .int (nI k)), (0, .ref (ad 0))]) dX7_soundShare_31 rfl (by decide) rfl ?_
          refine J_iinc cx (v := (nI (k + 1))) (L' := [(2, .int (nI (k + 1))), (1, .int (nI (cnt (sndB κ) (k + 1)))), (0, .ref (ad 0))]) dX7_soundShare_32 1 rfl (by exact nI_add k 1) (by decide) rfl ?_
          refine J_goto cx (tgt := 4) dX7_soundShare_35 (by decide) ?_
          refine J_L [1, 0, 2] rfl ?_
          exact ih (k + 1) (by omega) (by omega)
        · refine J_iconst cx (v := nI 1) dX7_soundShare_25 (by decide) ?_
          refine J_goto cx (tgt := 30) dX7_soundShare_26 (by decide) ?_
          refine J_iadd cx dX7_soundShare_30 ?_
          refine J_top (v' := .int (nI ((cnt (sndB κ) k) + 1))) (congrArg Value.int (nI_add (cnt (sndB κ) k) 1)) ?_
          refine J_top (v' := .int (nI (cnt (sndB κ) (k + 1)))) (congrArg (fun z => Value.int (nI z)) (cnt_t (by simp [sndB, hk, c_1, c_1d, c_5]))) ?_
          refine J_istore_n cx (L' := [(1, .int (nI (cnt (sndB κ) (k + 1)))), (2, .int (nI k)), (0, .ref (ad 0))]) dX7_soundShare_31 rfl (by decide) rfl ?_
          refine J_iinc cx (v := (nI (k + 1))) (L' := [(2, .int (nI (k + 1))), (1, .int (nI (cnt (sndB κ) (k + 1)))), (0, .ref (ad 0))]) dX7_soundShare_32 1 rfl (by exact nI_add k 1) (by decide) rfl ?_
          refine J_goto cx (tgt := 4) dX7_soundShare_35 (by decide) ?_
          refine J_L [1, 0, 2] rfl ?_
          exact ih (k + 1) (by omega) (by omega)
  refine J_L [1, 0, 2] rfl ?_
  exact LP _ 0 (by omega) (Nat.lt_succ_self _)
set_option maxHeartbeats 4000000 in
set_option maxRecDepth 100000 in
theorem tX7_meanChain (l : Launch) (D : va_G) (g : Nat → ClassId) (A : Nat → Prop) (ad : Nat → Nat) (κ : CS) (th : Int32) (ch : Nat → Nat) (cm rm : Nat) (row : Nat → Int64)   (hI : InvM κ) : CtD l D g A yX7_meanChain cX7_meanChain 5 .double ({ frames := 12, cells := 0, slots := 0, locals := 295 } : Room) [.ref (ad 0)] (mW ad g κ th ch cm rm row) ((opMean κ ch).2) (mW ad g κ (nI (opMean κ ch).1) ((mcK κ ch (κ.2.2.1 0)).2.2) cm rm row) := by
  have hn := hI.1
  refine metJ (by decide) (Nat.le_of_ble_eq_true rfl) ?_
  intro p e s m args below meth c _ _ cx
  refine J_iconst cx (v := nI 0) dX7_meanChain_0 (by decide) ?_
  refine J_istore_n cx (L' := [(1, .int (nI 0)), (0, .ref (ad 0))]) dX7_meanChain_1 rfl (by decide) rfl ?_
  refine J_iconst cx (v := nI 0) dX7_meanChain_2 (by decide) ?_
  refine J_istore_n cx (L' := [(2, .int (nI 0)), (1, .int (nI 0)), (0, .ref (ad 0))]) dX7_meanChain_3 rfl (by decide) rfl ?_
  refine J_iconst cx (v := nI 0) dX7_meanChain_4 (by decide) ?_
  refine J_istore_n cx (L' := [(3, .int (nI 0)), (2, .int (nI 0)), (1, .int (nI 0)), (0, .ref (ad 0))]) dX7_meanChain_5 rfl (by decide) rfl ?_
  have LP : ∀ (fu : Nat) (k : Nat), (k ≤ κ.2.2.1 0) → κ.2.2.1 0 - k < fu → J p l e ({ frames := 12, cells := 0, slots := 0, locals := 295 } : Room) s m args below meth c D A 5 (MQ below (va_Qd (fun (r : UInt64) (_ : Unit) => r = ((opMean κ ch).2)) (fun _ => PO D A (mW ad g κ (nI (opMean κ ch).1) ((mcK κ ch (κ.2.2.1 0)).2.2) cm rm row)) A) args s 0 0 A) 0 0 (mW ad g κ th ((mcK κ ch k).2.2) cm rm row) [(1, .int (nI (mcK κ ch k).1)), (2, .int (nI (mcK κ ch k).2.1)), (3, .int (nI k)), (0, .ref (ad 0))] 6 [] := by
    intro fu; induction fu with
    | zero => intro k hk hfu; exact absurd hfu (Nat.not_lt_zero _)
    | succ fu ih =>
      intro k hk hfu
      have hml := mcK_le κ ch k
      have hbl : (bestK κ k (nI (κ.2.2.1 2)) 7 0 (upn (mcK κ ch k).2.2 0 k)).1 ≤ 7 := bestK_le κ k _ 7 0 _
      refine J_iload_n cx dX7_meanChain_6 rfl 2 rfl ?_
      refine J_aload_n cx dX7_meanChain_7 rfl 3 rfl ?_
      refine J_get cx (v := .int (nI (κ.2.2.1 0))) fX7_71 0 rfl rfl dX7_meanChain_8 ?_
      refine J_icmp_ge cx (tgt := 49) dX7_meanChain_11 (by decide) (fun c_1 => ?_) (fun c_1 => ?_)
      · have c_1 := (nat_ic_ge (by omega) (by omega)).mp c_1
        have c_1d := decide_eq_true c_1
        refine J_aload_n cx dX7_meanChain_49 rfl 3 rfl ?_
        refine J_iload_n cx dX7_meanChain_50 rfl 1 rfl ?_
        refine J_if_ne cx (tgt := 58) dX7_meanChain_51 (by decide) (fun c_2 => ?_) (fun c_2 => ?_)
        · have c_2 := (nat_if_ne (by omega)).mp c_2
          have c_2d := decide_eq_false c_2
          refine J_iconst cx (v := nI 0) dX7_meanChain_58 (by decide) ?_
          refine J_iconst cx (v := nI 1) dX7_meanChain_59 (by decide) ?_
          refine J_callVi cx kX7_78 (As := [.int (nI 0), .int (nI 1)]) (tX7_isThrown l D g A ad κ th ((mcK κ ch k).2.2) cm rm row  false (nI 1) ) ⟨rfl, rfl, (by first | decide | (simp only [rmF]; omega)), (by first | decide | (simp only [rmF]; omega))⟩ ⟨(by first | decide | (simp only [rmF]; omega)), (by first | decide | (simp only [rmF]; omega))⟩ rfl 0 rfl rfl rfl (Nat.le_of_ble_eq_true rfl) dX7_meanChain_60 ?_
          intro _ _ hr; cases hr
          refine J_ifz_eq cx (tgt := 70) dX7_meanChain_63 (by decide) (fun _ => ?_) (fun h => absurd h (by decide))
          refine J_iload_n cx dX7_meanChain_70 rfl 0 rfl ?_
          refine J_i2d cx dX7_meanChain_71 ?_
          refine J_iload_n cx dX7_meanChain_72 rfl 1 rfl ?_
          refine J_i2d cx dX7_meanChain_73 ?_
          refine J_ddiv cx dX7_meanChain_74 (by exact ddiv_ok _ (by omega) _ (by omega) (by omega)) ?_
          exact J_dret cx rfl (u := ()) (by have hkn : k = κ.2.2.1 0 := (by omega); subst hkn; simp only [opMean, Bool.and_true, Bool.true_and, Bool.and_false, Bool.false_and, Bool.or_true, Bool.true_or, Bool.or_false, Bool.false_or, Bool.not_true, Bool.not_false, if_true, if_false, Bool.false_eq_true, decide_true, decide_false, ite_true, ite_false, ne_eq, not_true_eq_false, not_false_eq_true, xj, hk, c_1, c_1d, c_2, c_2d]; try rfl) (by have hkn : k = κ.2.2.1 0 := (by omega); subst hkn; simp only [opMean, Bool.and_true, Bool.true_and, Bool.and_false, Bool.false_and, Bool.or_true, Bool.true_or, Bool.or_false, Bool.false_or, Bool.not_true, Bool.not_false, if_true, if_false, Bool.false_eq_true, decide_true, decide_false, ite_true, ite_false, ne_eq, not_true_eq_false, not_false_eq_true, xj, hk, c_1, c_1d, c_2, c_2d]; try rfl) (Nat.le_of_ble_eq_true rfl) (Nat.le_of_ble_eq_true rfl) dX7_meanChain_75
        · have c_2 := (nat_if_ne_f (by omega)).mp c_2
          have c_2d := decide_eq_true c_2
          refine J_iconst cx (v := nI 1) dX7_meanChain_54 (by decide) ?_
          refine J_goto cx (tgt := 59) dX7_meanChain_55 (by decide) ?_
          refine J_iconst cx (v := nI 1) dX7_meanChain_59 (by decide) ?_
          refine J_callVi cx kX7_78 (As := [.int (nI 1), .int (nI 1)]) (tX7_isThrown l D g A ad κ th ((mcK κ ch k).2.2) cm rm row  true (nI 1) ) ⟨rfl, rfl, (by first | decide | (simp only [rmF]; omega)), (by first | decide | (simp only [rmF]; omega))⟩ ⟨(by first | decide | (simp only [rmF]; omega)), (by first | decide | (simp only [rmF]; omega))⟩ rfl 0 rfl rfl rfl (Nat.le_of_ble_eq_true rfl) dX7_meanChain_60 ?_
          intro _ _ hr; cases hr
          refine J_ifz_eq cx (tgt := 70) dX7_meanChain_63 (by decide) (fun h => absurd h (by decide)) (fun _ => ?_)
          refine J_dconst0 cx dX7_meanChain_66 ?_
          refine J_goto cx (tgt := 75) dX7_meanChain_67 (by decide) ?_
          exact J_dret cx rfl (u := ()) (by have hkn : k = κ.2.2.1 0 := (by omega); subst hkn; simp only [opMean, Bool.and_true, Bool.true_and, Bool.and_false, Bool.false_and, Bool.or_true, Bool.true_or, Bool.or_false, Bool.false_or, Bool.not_true, Bool.not_false, if_true, if_false, Bool.false_eq_true, decide_true, decide_false, ite_true, ite_false, ne_eq, not_true_eq_false, not_false_eq_true, xj, hk, c_1, c_1d, c_2d]; try rfl) (by have hkn : k = κ.2.2.1 0 := (by omega); subst hkn; simp only [opMean, Bool.and_true, Bool.true_and, Bool.and_false, Bool.false_and, Bool.or_true, Bool.true_or, Bool.or_false, Bool.false_or, Bool.not_true, Bool.not_false, if_true, if_false, Bool.false_eq_true, decide_true, decide_false, ite_true, ite_false, ne_eq, not_true_eq_false, not_false_eq_true, xj, hk, c_1, c_1d, c_2d]; try rfl) (Nat.le_of_ble_eq_true rfl) (Nat.le_of_ble_eq_true rfl) dX7_meanChain_75
      · have c_1 := (nat_ic_ge_f (by omega) (by omega)).mp c_1
        have c_1d := decide_eq_false (Nat.not_le.mpr c_1)
        refine J_aload_n cx dX7_meanChain_14 rfl 3 rfl ?_
        refine J_iload_n cx dX7_meanChain_15 rfl 2 rfl ?_
        refine J_aload_n cx dX7_meanChain_16 rfl 3 rfl ?_
        refine J_get cx (v := .int (nI (κ.2.2.1 2))) fX7_82 0 rfl rfl dX7_meanChain_17 ?_
        refine J_callVi cx kX7_152 (As := [.int (nI k), .int (nI (κ.2.2.1 2))]) (tX7_best l D g A ad κ th ((mcK κ ch k).2.2) cm rm row  k (nI (κ.2.2.1 2)) hI (by omega)) ⟨rfl, rfl, (by first | decide | (simp only [rmF]; omega)), (by first | decide | (simp only [rmF]; omega))⟩ ⟨(by first | decide | (simp only [rmF]; omega)), (by first | decide | (simp only [rmF]; omega))⟩ rfl 0 rfl rfl rfl (Nat.le_of_ble_eq_true rfl) dX7_meanChain_20 ?_
        intro _ _ hr; cases hr
        refine J_istore cx (L' := [(4, .int (nI (bestK κ k (nI (κ.2.2.1 2)) 7 0 (upn ((mcK κ ch k).2.2) 0 k)).1)), (1, .int (nI (mcK κ ch k).1)), (2, .int (nI (mcK κ ch k).2.1)), (3, .int (nI k)), (0, .ref (ad 0))]) dX7_meanChain_23 (by decide) rfl ?_
        refine J_iload_n cx dX7_meanChain_25 rfl 1 rfl ?_
        refine J_iload cx dX7_meanChain_26 0 rfl ?_
        refine J_iadd cx dX7_meanChain_28 ?_
        refine J_top (v' := .int (nI ((mcK κ ch k).1 + (bestK κ k (nI (κ.2.2.1 2)) 7 0 (upn ((mcK κ ch k).2.2) 0 k)).1))) (congrArg Value.int (nI_add ((mcK κ ch k).1) ((bestK κ k (nI (κ.2.2.1 2)) 7 0 (upn ((mcK κ ch k).2.2) 0 k)).1))) ?_
        refine J_istore_n cx (L' := [(1, .int (nI ((mcK κ ch k).1 + (bestK κ k (nI (κ.2.2.1 2)) 7 0 (upn ((mcK κ ch k).2.2) 0 k)).1))), (4, .int (nI (bestK κ k (nI (κ.2.2.1 2)) 7 0 (upn ((mcK κ ch k).2.2) 0 k)).1)), (2, .int (nI (mcK κ ch k).2.1)), (3, .int (nI k)), (0, .ref (ad 0))]) dX7_meanChain_29 rfl (by decide) rfl ?_
        refine J_iload_n cx dX7_meanChain_30 rfl 2 rfl ?_
        refine J_iload cx dX7_meanChain_31 1 rfl ?_
        refine J_if_le cx (tgt := 40) dX7_meanChain_33 (by decide) (fun c_5 => ?_) (fun c_5 => ?_)
        · have c_5 := (nat_if_le (by omega)).mp c_5
          refine J_iconst cx (v := nI 0) dX7_meanChain_40 (by decide) ?_
          refine J_iadd cx dX7_meanChain_41 ?_
          refine J_top (v' := .int (nI ((mcK κ ch k).2.1 + 0))) (congrArg Value.int (nI_add ((mcK κ ch k).2.1) 0)) ?_
          refine J_istore_n cx (L' := [(2, .int (nI ((mcK κ ch k).2.1 + 0))), (1, .int (nI ((mcK κ ch k).1 + (bestK κ k (nI (κ.2.2.1 2)) 7 0 (upn ((mcK κ ch k).2.2) 0 k)).1))), (4, .int (nI (bestK κ k (nI (κ.2.2.1 2)) 7 0 (upn ((mcK κ ch k).2.2) 0 k)).1)), (3, .int (nI k)), (0, .ref (ad 0))]) dX7_meanChain_42 rfl (by decide) rfl ?_
          have e2 : (mcK κ ch k).2.1 + 0 = (mcK κ ch (k + 1)).2.1 := by show _ = (mcK κ ch k).2.1 + _; rw [if_neg (fun q => absurd (of_decide_eq_true q) (by show ¬ 0 < (bestK κ k _ 7 0 (upn _ 0 k)).1; omega))]
          refine J_Le (L' := [(2, .int (nI (mcK κ ch (k + 1)).2.1)), (1, .int (nI (mcK κ ch (k + 1)).1)), (4, .int (nI (bestK κ k (nI (κ.2.2.1 2)) 7 0 (upn ((mcK κ ch k).2.2) 0 k)).1)), (3, .int (nI k)), (0, .ref (ad 0))]) (by rw [← e2]; rfl) ?_
          refine J_ws (ws' := (mW ad g κ th ((mcK κ ch (k + 1)).2.2) cm rm row)) rfl ?_
          refine J_iinc cx (v := (nI (k + 1))) (L' := [(3, .int (nI (k + 1))), (2, .int (nI (mcK κ ch (k + 1)).2.1)), (1, .int (nI (mcK κ ch (k + 1)).1)), (4, .int (nI (bestK κ k (nI (κ.2.2.1 2)) 7 0 (upn ((mcK κ ch k).2.2) 0 k)).1)), (0, .ref (ad 0))]) dX7_meanChain_43 3 rfl (by exact nI_add k 1) (by decide) rfl ?_
          refine J_goto cx (tgt := 6) dX7_meanChain_46 (by decide) ?_
          refine J_L [2, 1, 0, 4] rfl ?_
          exact ih (k + 1) (by omega) (by omega)
        · have c_5 := (nat_if_le_f (by omega)).mp c_5
          refine J_iconst cx (v := nI 1) dX7_meanChain_36 (by decide) ?_
          refine J_goto cx (tgt := 41) dX7_meanChain_37 (by decide) ?_
          refine J_iadd cx dX7_meanChain_41 ?_
          refine J_top (v' := .int (nI ((mcK κ ch k).2.1 + 1))) (congrArg Value.int (nI_add ((mcK κ ch k).2.1) 1)) ?_
          refine J_istore_n cx (L' := [(2, .int (nI ((mcK κ ch k).2.1 + 1))), (1, .int (nI ((mcK κ ch k).1 + (bestK κ k (nI (κ.2.2.1 2)) 7 0 (upn ((mcK κ ch k).2.2) 0 k)).1))), (4, .int (nI (bestK κ k (nI (κ.2.2.1 2)) 7 0 (upn ((mcK κ ch k).2.2) 0 k)).1)), (3, .int (nI k)), (0, .ref (ad 0))]) dX7_meanChain_42 rfl (by decide) rfl ?_
          have e2 : (mcK κ ch k).2.1 + 1 = (mcK κ ch (k + 1)).2.1 := by show _ = (mcK κ ch k).2.1 + _; rw [if_pos (decide_eq_true (by show 0 < (bestK κ k _ 7 0 (upn _ 0 k)).1; omega))]
          refine J_Le (L' := [(2, .int (nI (mcK κ ch (k + 1)).2.1)), (1, .int (nI (mcK κ ch (k + 1)).1)), (4, .int (nI (bestK κ k (nI (κ.2.2.1 2)) 7 0 (upn ((mcK κ ch k).2.2) 0 k)).1)), (3, .int (nI k)), (0, .ref (ad 0))]) (by rw [← e2]; rfl) ?_
          refine J_ws (ws' := (mW ad g κ th ((mcK κ ch (k + 1)).2.2) cm rm row)) rfl ?_
          refine J_iinc cx (v := (nI (k + 1))) (L' := [(3, .int (nI (k + 1))), (2, .int (nI (mcK κ ch (k + 1)).2.1)), (1, .int (nI (mcK κ ch (k + 1)).1)), (4, .int (nI (bestK κ k (nI (κ.2.2.1 2)) 7 0 (upn ((mcK κ ch k).2.2) 0 k)).1)), (0, .ref (ad 0))]) dX7_meanChain_43 3 rfl (by exact nI_add k 1) (by decide) rfl ?_
          refine J_goto cx (tgt := 6) dX7_meanChain_46 (by decide) ?_
          refine J_L [2, 1, 0, 4] rfl ?_
          exact ih (k + 1) (by omega) (by omega)
  refine J_L [2, 1, 0, 3] rfl ?_
  exact LP _ 0 (by omega) (Nat.lt_succ_self _)
