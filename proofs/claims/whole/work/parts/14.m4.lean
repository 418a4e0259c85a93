set_option maxHeartbeats 4000000 in
set_option maxRecDepth 100000 in
theorem tX7_revoke (l : Launch) (D : va_G) (g : Nat → ClassId) (A : Nat → Prop) (ad : Nat → Nat) (κ : CS) (th : Int32) (ch : Nat → Nat) (cm rm : Nat) (row : Nat → Int64)  (xc : Int32) (hn : κ.2.2.1 0 ≤ 40) : CtI l D g A yX7_revoke cX7_revoke 4 .int ({ frames := 3, cells := 0, slots := 0, locals := 64 } : Room) [.ref (ad 0), .int xc] (mW ad g κ th ch cm rm row) ((opRevoke κ xc).2.1) (mW ad g ((opRevoke κ xc).2.2) (nI (opRevoke κ xc).1) ch cm rm row) := by
  refine metJ (by decide) (Nat.le_of_ble_eq_true rfl) ?_
  intro p e s m args below meth c _ _ cx
  refine J_aload_n cx dX7_revoke_0 rfl 0 rfl ?_
  refine J_iload_n cx dX7_revoke_1 rfl 1 rfl ?_
  refine J_callVi cx kX7_99 (As := [.int xc]) (tX7_isNone l D g A ad κ th ch cm rm row  xc (by first | assumption | omega)) ⟨rfl, rfl, by decide, by decide⟩ ⟨by decide, by decide⟩ rfl 0 rfl rfl rfl (Nat.le_of_ble_eq_true rfl) dX7_revoke_2 ?_
  intro _ _ hr; cases hr
  refine J_ifz_ne cx (tgt := 39) dX7_revoke_5 (by decide) (fun c_1 => ?_) (fun c_1 => ?_)
  · have c_1 := bn_t c_1
    refine J_iconst cx (v := nI 0) dX7_revoke_39 (by decide) ?_
    exact J_iret cx rfl (u := ()) (by simp only [opRevoke, Bool.and_true, Bool.true_and, Bool.and_false, Bool.false_and, Bool.or_true, Bool.true_or, Bool.or_false, Bool.false_or, Bool.not_true, Bool.not_false, if_true, if_false, Bool.false_eq_true, decide_true, decide_false, ite_true, ite_false, ne_eq, not_true_eq_false, not_false_eq_true, xj, c_1]; try rfl) (by simp only [opRevoke, Bool.and_true, Bool.true_and, Bool.and_false, Bool.false_and, Bool.or_true, Bool.true_or, Bool.or_false, Bool.false_or, Bool.not_true, Bool.not_false, if_true, if_false, Bool.false_eq_true, decide_true, decide_false, ite_true, ite_false, ne_eq, not_true_eq_false, not_false_eq_true, xj, c_1]; try rfl) (Nat.le_of_ble_eq_true rfl) (Nat.le_of_ble_eq_true rfl) dX7_revoke_40
  · have c_1 := bn_f c_1
    obtain ⟨j, hj, hxj⟩ := inR_spec c_1 (by omega)
    subst hxj
    have hjc : (nI j).toNatClampNeg = j := nI_clamp (by omega)
    refine J_aload_n cx dX7_revoke_8 rfl 0 rfl ?_
    refine J_aload_n cx dX7_revoke_9 rfl 0 rfl ?_
    refine J_get cx (v := .ref (ad 12)) fX7_44 0 rfl rfl dX7_revoke_10 ?_
    refine J_iload_n cx dX7_revoke_13 rfl 1 rfl ?_
    refine J_zald cx (j := j) (f := fun i => zb (κ.2.1 1 i)) 12 rfl rfl (by omega) (by decide) dX7_revoke_14 ?_
    refine J_ifz_ne cx (tgt := 27) dX7_revoke_15 (by decide) (fun c_2 => ?_) (fun c_2 => ?_)
    · refine J_iconst cx (v := nI 1) dX7_revoke_27 (by decide) ?_
      refine J_goto cx (tgt := 32) dX7_revoke_28 (by decide) ?_
      refine J_iconst cx (v := nI 2) dX7_revoke_32 (by decide) ?_
      refine J_callVi cx kX7_78 (As := [.int (nI 1), .int (nI 2)]) (tX7_isThrown l D g A ad κ (if inR (κ.2.2.1 0) (nI j) then nI 0 else nI 1) ch cm rm row  true (nI 2) ) ⟨rfl, rfl, by decide, by decide⟩ ⟨by decide, by decide⟩ rfl 0 rfl rfl rfl (Nat.le_of_ble_eq_true rfl) dX7_revoke_33 ?_
      intro _ _ hr; cases hr
      refine J_ifz_eq cx (tgt := 41) dX7_revoke_36 (by decide) (fun h => absurd h (by decide)) (fun _ => ?_)
      refine J_iconst cx (v := nI 0) dX7_revoke_39 (by decide) ?_
      exact J_iret cx rfl (u := ()) (by simp only [opRevoke, Bool.and_true, Bool.true_and, Bool.and_false, Bool.false_and, Bool.or_true, Bool.true_or, Bool.or_false, Bool.false_or, Bool.not_true, Bool.not_false, if_true, if_false, Bool.false_eq_true, decide_true, decide_false, ite_true, ite_false, ne_eq, not_true_eq_false, not_false_eq_true, xj, c_1, hjc, c_2]; try rfl) (by simp only [opRevoke, Bool.and_true, Bool.true_and, Bool.and_false, Bool.false_and, Bool.or_true, Bool.true_or, Bool.or_false, Bool.false_or, Bool.not_true, Bool.not_false, if_true, if_false, Bool.false_eq_true, decide_true, decide_false, ite_true, ite_false, ne_eq, not_true_eq_false, not_false_eq_true, xj, c_1, hjc, c_2]; try rfl) (Nat.le_of_ble_eq_true rfl) (Nat.le_of_ble_eq_true rfl) dX7_revoke_40
    · refine J_aload_n cx dX7_revoke_18 rfl 0 rfl ?_
      refine J_get cx (v := .ref (ad 14)) fX7_50 0 rfl rfl dX7_revoke_19 ?_
      refine J_iload_n cx dX7_revoke_22 rfl 1 rfl ?_
      refine J_zald cx (j := j) (f := fun i => zb (κ.2.1 3 i)) 14 rfl rfl (by omega) (by decide) dX7_revoke_23 ?_
      refine J_ifz_eq cx (tgt := 31) dX7_revoke_24 (by decide) (fun c_4 => ?_) (fun c_4 => ?_)
      · refine J_iconst cx (v := nI 0) dX7_revoke_31 (by decide) ?_
        refine J_iconst cx (v := nI 2) dX7_revoke_32 (by decide) ?_
        refine J_callVi cx kX7_78 (As := [.int (nI 0), .int (nI 2)]) (tX7_isThrown l D g A ad κ (if inR (κ.2.2.1 0) (nI j) then nI 0 else nI 1) ch cm rm row  false (nI 2) ) ⟨rfl, rfl, by decide, by decide⟩ ⟨by decide, by decide⟩ rfl 0 rfl rfl rfl (Nat.le_of_ble_eq_true rfl) dX7_revoke_33 ?_
        intro _ _ hr; cases hr
        refine J_ifz_eq cx (tgt := 41) dX7_revoke_36 (by decide) (fun _ => ?_) (fun h => absurd h (by decide))
        refine J_aload_n cx dX7_revoke_41 rfl 0 rfl ?_
        refine J_get cx (v := .ref (ad 14)) fX7_50 0 rfl rfl dX7_revoke_42 ?_
        refine J_iload_n cx dX7_revoke_45 rfl 1 rfl ?_
        refine J_iconst cx (v := nI 1) dX7_revoke_46 (by decide) ?_
        refine J_zast cx (ws' := (mW ad g (κ.1, upB κ.2.1 3 j true, κ.2.2.1, κ.2.2.2.1, κ.2.2.2.2) (if false then (nI 2) else nI 0) ch cm rm row)) (j := j) 14 rfl  rfl (by omega) (by decide) (by rw [show vp_nar .boolean (nI 1) = zb true from zb_vnar true, upb_zb]; rfl) dX7_revoke_47 ?_
        refine J_iconst cx (v := nI 0) dX7_revoke_48 (by decide) ?_
        refine J_istore_n cx (L' := [(2, .int (nI 0)), (0, .ref (ad 0)), (1, .int (nI j))]) dX7_revoke_49 rfl (by decide) rfl ?_
        refine J_iconst cx (v := nI 0) dX7_revoke_50 (by decide) ?_
        refine J_istore_n cx (L' := [(3, .int (nI 0)), (2, .int (nI 0)), (0, .ref (ad 0)), (1, .int (nI j))]) dX7_revoke_51 rfl (by decide) rfl ?_
        have LP : ∀ (fu : Nat) (k : Nat), (k ≤ κ.2.2.1 0) → κ.2.2.1 0 - k < fu → J p l e ({ frames := 3, cells := 0, slots := 0, locals := 64 } : Room) s m args below meth c D A 4 (MQ below (va_Qi (fun (r : Int32) (_ : Unit) => r = ((opRevoke κ (nI j)).2.1)) (fun _ => PO D A (mW ad g ((opRevoke κ (nI j)).2.2) (nI (opRevoke κ (nI j)).1) ch cm rm row)) A) args s 0 0 A) 0 0 (mW ad g (κ.1, upB κ.2.1 3 j true, κ.2.2.1, κ.2.2.2.1, κ.2.2.2.2) (if false then (nI 2) else nI 0) ch cm rm row) [(2, .int (nI (cnt (pendF (κ.1 5) (κ.1 9) (upB κ.2.1 3 j true 3) (κ.1 5 j)) k))), (3, .int (nI k)), (0, .ref (ad 0)), (1, .int (nI j))] 52 [] := by
          intro fu; induction fu with
          | zero => intro k hk hfu; exact absurd hfu (Nat.not_lt_zero _)
          | succ fu ih =>
            intro k hk hfu
            refine J_iload_n cx dX7_revoke_52 rfl 1 rfl ?_
            refine J_aload_n cx dX7_revoke_53 rfl 2 rfl ?_
            refine J_get cx (v := .int (nI (κ.2.2.1 0))) fX7_71 0 rfl rfl dX7_revoke_54 ?_
            refine J_icmp_ge cx (tgt := 107) dX7_revoke_57 (by decide) (fun c_6 => ?_) (fun c_6 => ?_)
            · have c_6 := (nat_ic_ge (by omega) (by omega)).mp c_6
              have c_6d := decide_eq_true c_6
              refine J_iload_n cx dX7_revoke_107 rfl 0 rfl ?_
              exact J_iret cx rfl (u := ()) (by rw [show k = κ.2.2.1 0 from by omega]; simp only [opRevoke, Bool.and_true, Bool.true_and, Bool.and_false, Bool.false_and, Bool.or_true, Bool.true_or, Bool.or_false, Bool.false_or, Bool.not_true, Bool.not_false, if_true, if_false, Bool.false_eq_true, decide_true, decide_false, ite_true, ite_false, ne_eq, not_true_eq_false, not_false_eq_true, xj, c_1, hjc, c_2, c_4, hk, c_6, c_6d]; try rfl) (by simp only [opRevoke, Bool.and_true, Bool.true_and, Bool.and_false, Bool.false_and, Bool.or_true, Bool.true_or, Bool.or_false, Bool.false_or, Bool.not_true, Bool.not_false, if_true, if_false, Bool.false_eq_true, decide_true, decide_false, ite_true, ite_false, ne_eq, not_true_eq_false, not_false_eq_true, xj, c_1, hjc, c_2, c_4, hk, c_6, c_6d]; try rfl) (Nat.le_of_ble_eq_true rfl) (Nat.le_of_ble_eq_true rfl) dX7_revoke_108
            · have c_6 := (nat_ic_ge_f (by omega) (by omega)).mp c_6
              have c_6d := decide_eq_false (Nat.not_le.mpr c_6)
              refine J_iload_n cx dX7_revoke_60 rfl 0 rfl ?_
              refine J_aload_n cx dX7_revoke_61 rfl 2 rfl ?_
              refine J_get cx (v := .ref (ad 6)) fX7_25 0 rfl rfl dX7_revoke_62 ?_
              refine J_iload_n cx dX7_revoke_65 rfl 1 rfl ?_
              refine J_iald cx (j := k) (f := κ.1 5) 6 rfl rfl (by omega) (by decide) dX7_revoke_66 ?_
              refine J_aload_n cx dX7_revoke_67 rfl 2 rfl ?_
              refine J_get cx (v := .ref (ad 6)) fX7_25 0 rfl rfl dX7_revoke_68 ?_
              refine J_iload_n cx dX7_revoke_71 rfl 3 rfl ?_
              refine J_iald cx (j := j) (f := κ.1 5) 6 rfl rfl (by omega) (by decide) dX7_revoke_72 ?_
              refine J_icmp_ne cx (tgt := 98) dX7_revoke_73 (by decide) (fun c_7 => ?_) (fun c_7 => ?_)
              · have c_7d := decide_eq_false c_7
                refine J_iconst cx (v := nI 0) dX7_revoke_98 (by decide) ?_
                refine J_iadd cx dX7_revoke_99 ?_
                refine J_top (v' := .int (nI ((cnt (pendF (κ.1 5) (κ.1 9) (upB κ.2.1 3 j true 3) (κ.1 5 j)) k) + 0))) (congrArg Value.int (nI_add (cnt (pendF (κ.1 5) (κ.1 9) (upB κ.2.1 3 j true 3) (κ.1 5 j)) k) 0)) ?_
                refine J_top (v' := .int (nI (cnt (pendF (κ.1 5) (κ.1 9) (upB κ.2.1 3 j true 3) (κ.1 5 j)) (k + 1)))) (congrArg (fun z => Value.int (nI z)) (cnt_f (by simp [pendF, c_1, hjc, c_2, c_4, hk, c_6, c_6d, c_7, c_7d]))) ?_
                refine J_istore_n cx (L' := [(2, .int (nI (cnt (pendF (κ.1 5) (κ.1 9) (upB κ.2.1 3 j true 3) (κ.1 5 j)) (k + 1)))), (3, .int (nI k)), (0, .ref (ad 0)), (1, .int (nI j))]) dX7_revoke_100 rfl (by decide) rfl ?_
                refine J_iinc cx (v := (nI (k + 1))) (L' := [(3, .int (nI (k + 1))), (2, .int (nI (cnt (pendF (κ.1 5) (κ.1 9) (upB κ.2.1 3 j true 3) (κ.1 5 j)) (k + 1)))), (0, .ref (ad 0)), (1, .int (nI j))]) dX7_revoke_101 1 rfl (by exact nI_add k 1) (by decide) rfl ?_
                refine J_goto cx (tgt := 52) dX7_revoke_104 (by decide) ?_
                refine J_L [1, 0, 2, 3] rfl ?_
                exact ih (k + 1) (by omega) (by omega)
              · have c_7d := decide_eq_true c_7
                refine J_aload_n cx dX7_revoke_76 rfl 2 rfl ?_
                refine J_get cx (v := .ref (ad 14)) fX7_50 0 rfl rfl dX7_revoke_77 ?_
                refine J_iload_n cx dX7_revoke_80 rfl 1 rfl ?_
                refine J_zald cx (j := k) (f := fun i => zb ((upB κ.2.1 3 j true) 3 i)) 14 rfl rfl (by omega) (by decide) dX7_revoke_81 ?_
                refine J_ifz_eq cx (tgt := 98) dX7_revoke_82 (by decide) (fun c_8 => ?_) (fun c_8 => ?_)
                · refine J_iconst cx (v := nI 0) dX7_revoke_98 (by decide) ?_
                  refine J_iadd cx dX7_revoke_99 ?_
                  refine J_top (v' := .int (nI ((cnt (pendF (κ.1 5) (κ.1 9) (upB κ.2.1 3 j true 3) (κ.1 5 j)) k) + 0))) (congrArg Value.int (nI_add (cnt (pendF (κ.1 5) (κ.1 9) (upB κ.2.1 3 j true 3) (κ.1 5 j)) k) 0)) ?_
                  refine J_top (v' := .int (nI (cnt (pendF (κ.1 5) (κ.1 9) (upB κ.2.1 3 j true 3) (κ.1 5 j)) (k + 1)))) (congrArg (fun z => Value.int (nI z)) (cnt_f (by simp [pendF, c_1, hjc, c_2, c_4, hk, c_6, c_6d, c_7d, c_8]))) ?_
                  refine J_istore_n cx (L' := [(2, .int (nI (cnt (pendF (κ.1 5) (κ.1 9) (upB κ.2.1 3 j true 3) (κ.1 5 j)) (k + 1)))), (3, .int (nI k)), (0, .ref (ad 0)), (1, .int (nI j))]) dX7_revoke_100 rfl (by decide) rfl ?_
                  refine J_iinc cx (v := (nI (k + 1))) (L' := [(3, .int (nI (k + 1))), (2, .int (nI (cnt (pendF (κ.1 5) (κ.1 9) (upB κ.2.1 3 j true 3) (κ.1 5 j)) (k + 1)))), (0, .ref (ad 0)), (1, .int (nI j))]) dX7_revoke_101 1 rfl (by exact nI_add k 1) (by decide) rfl ?_
                  refine J_goto cx (tgt := 52) dX7_revoke_104 (by decide) ?_
                  refine J_L [1, 0, 2, 3] rfl ?_
                  exact ih (k + 1) (by omega) (by omega)
                · refine J_aload_n cx dX7_revoke_85 rfl 2 rfl ?_
                  refine J_get cx (v := .ref (ad 10)) fX7_37 0 rfl rfl dX7_revoke_86 ?_
                  refine J_iload_n cx dX7_revoke_89 rfl 1 rfl ?_
                  refine J_iald cx (j := k) (f := κ.1 9) 10 rfl rfl (by omega) (by decide) dX7_revoke_90 ?_
                  refine J_if_ge cx (tgt := 98) dX7_revoke_91 (by decide) (fun c_9 => ?_) (fun c_9 => ?_)
                  · have c_9d := decide_eq_true c_9
                    have c_9c := decide_eq_false (Int32.not_lt.mpr c_9)
                    refine J_iconst cx (v := nI 0) dX7_revoke_98 (by decide) ?_
                    refine J_iadd cx dX7_revoke_99 ?_
                    refine J_top (v' := .int (nI ((cnt (pendF (κ.1 5) (κ.1 9) (upB κ.2.1 3 j true 3) (κ.1 5 j)) k) + 0))) (congrArg Value.int (nI_add (cnt (pendF (κ.1 5) (κ.1 9) (upB κ.2.1 3 j true 3) (κ.1 5 j)) k) 0)) ?_
                    refine J_top (v' := .int (nI (cnt (pendF (κ.1 5) (κ.1 9) (upB κ.2.1 3 j true 3) (κ.1 5 j)) (k + 1)))) (congrArg (fun z => Value.int (nI z)) (cnt_f (by simp [pendF, c_1, hjc, c_2, c_4, hk, c_6, c_6d, c_7d, c_8, c_9, c_9d, c_9c]))) ?_
                    refine J_istore_n cx (L' := [(2, .int (nI (cnt (pendF (κ.1 5) (κ.1 9) (upB κ.2.1 3 j true 3) (κ.1 5 j)) (k + 1)))), (3, .int (nI k)), (0, .ref (ad 0)), (1, .int (nI j))]) dX7_revoke_100 rfl (by decide) rfl ?_
                    refine J_iinc cx (v := (nI (k + 1))) (L' := [(3, .int (nI (k + 1))), (2, .int (nI (cnt (pendF (κ.1 5) (κ.1 9) (upB κ.2.1 3 j true 3) (κ.1 5 j)) (k + 1)))), (0, .ref (ad 0)), (1, .int (nI j))]) dX7_revoke_101 1 rfl (by exact nI_add k 1) (by decide) rfl ?_
                    refine J_goto cx (tgt := 52) dX7_revoke_104 (by decide) ?_
                    refine J_L [1, 0, 2, 3] rfl ?_
                    exact ih (k + 1) (by omega) (by omega)
                  · have c_9d := decide_eq_false c_9
                    have c_9c := decide_eq_true (Int32.not_le.mp c_9)
                    refine J_iconst cx (v := nI 1) dX7_revoke_94 (by decide) ?_
                    refine J_goto cx (tgt := 99) dX7_revoke_95 (by decide) ?_
                    refine J_iadd cx dX7_revoke_99 ?_
                    refine J_top (v' := .int (nI ((cnt (pendF (κ.1 5) (κ.1 9) (upB κ.2.1 3 j true 3) (κ.1 5 j)) k) + 1))) (congrArg Value.int (nI_add (cnt (pendF (κ.1 5) (κ.1 9) (upB κ.2.1 3 j true 3) (κ.1 5 j)) k) 1)) ?_
                    refine J_top (v' := .int (nI (cnt (pendF (κ.1 5) (κ.1 9) (upB κ.2.1 3 j true 3) (κ.1 5 j)) (k + 1)))) (congrArg (fun z => Value.int (nI z)) (cnt_t (by simp [pendF, c_1, hjc, c_2, c_4, hk, c_6, c_6d, c_7d, c_8, c_9, c_9d, c_9c]))) ?_
                    refine J_istore_n cx (L' := [(2, .int (nI (cnt (pendF (κ.1 5) (κ.1 9) (upB κ.2.1 3 j true 3) (κ.1 5 j)) (k + 1)))), (3, .int (nI k)), (0, .ref (ad 0)), (1, .int (nI j))]) dX7_revoke_100 rfl (by decide) rfl ?_
                    refine J_iinc cx (v := (nI (k + 1))) (L' := [(3, .int (nI (k + 1))), (2, .int (nI (cnt (pendF (κ.1 5) (κ.1 9) (upB κ.2.1 3 j true 3) (κ.1 5 j)) (k + 1)))), (0, .ref (ad 0)), (1, .int (nI j))]) dX7_revoke_101 1 rfl (by exact nI_add k 1) (by decide) rfl ?_
                    refine J_goto cx (tgt := 52) dX7_revoke_104 (by decide) ?_
                    refine J_L [1, 0, 2, 3] rfl ?_
                    exact ih (k + 1) (by omega) (by omega)
        refine J_L [1, 0, 2, 3] rfl ?_
        exact LP _ 0 (by omega) (Nat.lt_succ_self _)
      · refine J_iconst cx (v := nI 1) dX7_revoke_27 (by decide) ?_
        refine J_goto cx (tgt := 32) dX7_revoke_28 (by decide) ?_
        refine J_iconst cx (v := nI 2) dX7_revoke_32 (by decide) ?_
        refine J_callVi cx kX7_78 (As := [.int (nI 1), .int (nI 2)]) (tX7_isThrown l D g A ad κ (if inR (κ.2.2.1 0) (nI j) then nI 0 else nI 1) ch cm rm row  true (nI 2) ) ⟨rfl, rfl, by decide, by decide⟩ ⟨by decide, by decide⟩ rfl 0 rfl rfl rfl (Nat.le_of_ble_eq_true rfl) dX7_revoke_33 ?_
        intro _ _ hr; cases hr
        refine J_ifz_eq cx (tgt := 41) dX7_revoke_36 (by decide) (fun h => absurd h (by decide)) (fun _ => ?_)
        refine J_iconst cx (v := nI 0) dX7_revoke_39 (by decide) ?_
        exact J_iret cx rfl (u := ()) (by simp only [opRevoke, Bool.and_true, Bool.true_and, Bool.and_false, Bool.false_and, Bool.or_true, Bool.true_or, Bool.or_false, Bool.false_or, Bool.not_true, Bool.not_false, if_true, if_false, Bool.false_eq_true, decide_true, decide_false, ite_true, ite_false, ne_eq, not_true_eq_false, not_false_eq_true, xj, c_1, hjc, c_2, c_4]; try rfl) (by simp only [opRevoke, Bool.and_true, Bool.true_and, Bool.and_false, Bool.false_and, Bool.or_true, Bool.true_or, Bool.or_false, Bool.false_or, Bool.not_true, Bool.not_false, if_true, if_false, Bool.false_eq_true, decide_true, decide_false, ite_true, ite_false, ne_eq, not_true_eq_false, not_false_eq_true, xj, c_1, hjc, c_2, c_4]; try rfl) (Nat.le_of_ble_eq_true rfl) (Nat.le_of_ble_eq_true rfl) dX7_revoke_40
set_option maxHeartbeats 4000000 in
set_option maxRecDepth 100000 in
theorem tX7_publish (l : Launch) (D : va_G) (g : Nat → ClassId) (A : Nat → Prop) (ad : Nat → Nat) (κ : CS) (th : Int32) (ch : Nat → Nat) (cm rm : Nat) (row : Nat → Int64)  (xc : Int32) (hn : κ.2.2.1 0 ≤ 40) : CtI l D g A yX7_publish cX7_publish 5 .int ({ frames := 3, cells := 0, slots := 0, locals := 64 } : Room) [.ref (ad 0), .int xc] (mW ad g κ th ch cm rm row) ((opPublish κ xc).2.1) (mW ad g ((opPublish κ xc).2.2) (nI (opPublish κ xc).1) ch cm rm row) := by
  refine metJ (by decide) (Nat.le_of_ble_eq_true rfl) ?_
  intro p e s m args below meth c _ _ cx
  refine J_aload_n cx dX7_publish_0 rfl 0 rfl ?_
  refine J_iload_n cx dX7_publish_1 rfl 1 rfl ?_
  refine J_callVi cx kX7_99 (As := [.int xc]) (tX7_isNone l D g A ad κ th ch cm rm row  xc (by first | assumption | omega)) ⟨rfl, rfl, by decide, by decide⟩ ⟨by decide, by decide⟩ rfl 0 rfl rfl rfl (Nat.le_of_ble_eq_true rfl) dX7_publish_2 ?_
  intro _ _ hr; cases hr
  refine J_ifz_ne cx (tgt := 30) dX7_publish_5 (by decide) (fun c_1 => ?_) (fun c_1 => ?_)
  · have c_1 := bn_t c_1
    refine J_iconst cx (v := nI 0) dX7_publish_30 (by decide) ?_
    exact J_iret cx rfl (u := ()) (by simp only [opPublish, Bool.and_true, Bool.true_and, Bool.and_false, Bool.false_and, Bool.or_true, Bool.true_or, Bool.or_false, Bool.false_or, Bool.not_true, Bool.not_false, if_true, if_false, Bool.false_eq_true, decide_true, decide_false, ite_true, ite_false, ne_eq, not_true_eq_false, not_false_eq_true, xj, c_1]; try rfl) (by simp only [opPublish, Bool.and_true, Bool.true_and, Bool.and_false, Bool.false_and, Bool.or_true, Bool.true_or, Bool.or_false, Bool.false_or, Bool.not_true, Bool.not_false, if_true, if_false, Bool.false_eq_true, decide_true, decide_false, ite_true, ite_false, ne_eq, not_true_eq_false, not_false_eq_true, xj, c_1]; try rfl) (Nat.le_of_ble_eq_true rfl) (Nat.le_of_ble_eq_true rfl) dX7_publish_31
  · have c_1 := bn_f c_1
    obtain ⟨j, hj, hxj⟩ := inR_spec c_1 (by omega)
    subst hxj
    have hjc : (nI j).toNatClampNeg = j := nI_clamp (by omega)
    refine J_aload_n cx dX7_publish_8 rfl 0 rfl ?_
    refine J_aload_n cx dX7_publish_9 rfl 0 rfl ?_
    refine J_get cx (v := .ref (ad 11)) fX7_40 0 rfl rfl dX7_publish_10 ?_
    refine J_iload_n cx dX7_publish_13 rfl 1 rfl ?_
    refine J_zald cx (j := j) (f := fun i => zb (κ.2.1 0 i)) 11 rfl rfl (by omega) (by decide) dX7_publish_14 ?_
    refine J_ifz_ne cx (tgt := 22) dX7_publish_15 (by decide) (fun c_2 => ?_) (fun c_2 => ?_)
    · refine J_iconst cx (v := nI 0) dX7_publish_22 (by decide) ?_
      refine J_iconst cx (v := nI 2) dX7_publish_23 (by decide) ?_
      refine J_callVi cx kX7_78 (As := [.int (nI 0), .int (nI 2)]) (tX7_isThrown l D g A ad κ (if inR (κ.2.2.1 0) (nI j) then nI 0 else nI 1) ch cm rm row  false (nI 2) ) ⟨rfl, rfl, by decide, by decide⟩ ⟨by decide, by decide⟩ rfl 0 rfl rfl rfl (Nat.le_of_ble_eq_true rfl) dX7_publish_24 ?_
      intro _ _ hr; cases hr
      refine J_ifz_eq cx (tgt := 32) dX7_publish_27 (by decide) (fun _ => ?_) (fun h => absurd h (by decide))
      refine J_ws (ws' := (mW ad g κ (nI 0) ch cm rm row)) rfl ?_
      refine J_iconst cx (v := nI 0) dX7_publish_32 (by decide) ?_
      refine J_istore_n cx (L' := [(2, .int (nI 0)), (0, .ref (ad 0)), (1, .int (nI j))]) dX7_publish_33 rfl (by decide) rfl ?_
      refine J_iconst cx (v := nI 0) dX7_publish_34 (by decide) ?_
      refine J_istore_n cx (L' := [(3, .int (nI 0)), (2, .int (nI 0)), (0, .ref (ad 0)), (1, .int (nI j))]) dX7_publish_35 rfl (by decide) rfl ?_
      have LP : ∀ (fu : Nat) (k : Nat), (k ≤ κ.2.2.1 0) → κ.2.2.1 0 - k < fu → J p l e ({ frames := 3, cells := 0, slots := 0, locals := 64 } : Room) s m args below meth c D A 5 (MQ below (va_Qi (fun (r : Int32) (_ : Unit) => r = ((opPublish κ (nI j)).2.1)) (fun _ => PO D A (mW ad g ((opPublish κ (nI j)).2.2) (nI (opPublish κ (nI j)).1) ch cm rm row)) A) args s 0 0 A) 0 0 (mW ad g (pubI κ (κ.1 1 j) k, κ.2.1, κ.2.2.1, κ.2.2.2.1, κ.2.2.2.2) (nI 0) ch cm rm row) [(2, .int (nI (cnt (pendB κ (κ.1 1 j)) k))), (3, .int (nI k)), (0, .ref (ad 0)), (1, .int (nI j))] 36 [] := by
        intro fu; induction fu with
        | zero => intro k hk hfu; exact absurd hfu (Nat.not_lt_zero _)
        | succ fu ih =>
          intro k hk hfu
          refine J_iload_n cx dX7_publish_36 rfl 1 rfl ?_
          refine J_aload_n cx dX7_publish_37 rfl 2 rfl ?_
          refine J_get cx (v := .int (nI (κ.2.2.1 0))) fX7_71 0 rfl rfl dX7_publish_38 ?_
          refine J_icmp_ge cx (tgt := 127) dX7_publish_41 (by decide) (fun c_4 => ?_) (fun c_4 => ?_)
          · have c_4 := (nat_ic_ge (by omega) (by omega)).mp c_4
            have c_4d := decide_eq_true c_4
            refine J_iload_n cx dX7_publish_127 rfl 0 rfl ?_
            exact J_iret cx rfl (u := ()) (by rw [show k = κ.2.2.1 0 from by omega]; simp only [opPublish, Bool.and_true, Bool.true_and, Bool.and_false, Bool.false_and, Bool.or_true, Bool.true_or, Bool.or_false, Bool.false_or, Bool.not_true, Bool.not_false, if_true, if_false, Bool.false_eq_true, decide_true, decide_false, ite_true, ite_false, ne_eq, not_true_eq_false, not_false_eq_true, xj, c_1, hjc, c_2, hk, c_4, c_4d]; try rfl) (by rw [show k = κ.2.2.1 0 from by omega]; simp only [opPublish, Bool.and_true, Bool.true_and, Bool.and_false, Bool.false_and, Bool.or_true, Bool.true_or, Bool.or_false, Bool.false_or, Bool.not_true, Bool.not_false, if_true, if_false, Bool.false_eq_true, decide_true, decide_false, ite_true, ite_false, ne_eq, not_true_eq_false, not_false_eq_true, xj, c_1, hjc, c_2, hk, c_4, c_4d]; try rfl) (Nat.le_of_ble_eq_true rfl) (Nat.le_of_ble_eq_true rfl) dX7_publish_128
          · have c_4 := (nat_ic_ge_f (by omega) (by omega)).mp c_4
            have c_4d := decide_eq_false (Nat.not_le.mpr c_4)
            refine J_aload_n cx dX7_publish_44 rfl 2 rfl ?_
            refine J_get cx (v := .ref (ad 6)) fX7_25 0 rfl rfl dX7_publish_45 ?_
            refine J_iload_n cx dX7_publish_48 rfl 1 rfl ?_
            refine J_iald cx (j := k) (f := (pubI κ (κ.1 1 j) k) 5) 6 rfl rfl (by omega) (by decide) dX7_publish_49 ?_
            refine J_top (v' := .int (κ.1 5 k)) (congrArg Value.int (congrFun (pubI_ne κ _ 5 (by decide) k) k)) ?_
            refine J_aload_n cx dX7_publish_50 rfl 2 rfl ?_
            refine J_get cx (v := .ref (ad 2)) fX7_13 0 rfl rfl dX7_publish_51 ?_
            refine J_iload_n cx dX7_publish_54 rfl 3 rfl ?_
            refine J_iald cx (j := j) (f := (pubI κ (κ.1 1 j) k) 1) 2 rfl rfl (by omega) (by decide) dX7_publish_55 ?_
            refine J_top (v' := .int (κ.1 1 j)) (congrArg Value.int (congrFun (pubI_ne κ _ 1 (by decide) k) j)) ?_
            refine J_icmp_ne cx (tgt := 81) dX7_publish_56 (by decide) (fun c_5 => ?_) (fun c_5 => ?_)
            · have c_5d := decide_eq_false c_5
              refine J_iconst cx (v := nI 0) dX7_publish_81 (by decide) ?_
              refine J_istore cx (L' := [(4, .int (nI 0)), (2, .int (nI (cnt (pendB κ (κ.1 1 j)) k))), (3, .int (nI k)), (0, .ref (ad 0)), (1, .int (nI j))]) dX7_publish_82 (by decide) rfl ?_
              refine J_aload_n cx dX7_publish_84 rfl 3 rfl ?_
              refine J_get cx (v := .ref (ad 10)) fX7_37 0 rfl rfl dX7_publish_85 ?_
              refine J_iload_n cx dX7_publish_88 rfl 2 rfl ?_
              refine J_iload cx dX7_publish_89 0 rfl ?_
              refine J_if_eq cx (tgt := 101) dX7_publish_91 (by decide) (fun _ => ?_) (fun h => absurd h (by decide))
              refine J_aload_n cx dX7_publish_101 rfl 3 rfl ?_
              refine J_get cx (v := .ref (ad 10)) fX7_37 0 rfl rfl dX7_publish_102 ?_
              refine J_iload_n cx dX7_publish_105 rfl 2 rfl ?_
              refine J_iald cx (j := k) (f := (pubI κ (κ.1 1 j) k) 9) 10 rfl rfl (by omega) (by decide) dX7_publish_106 ?_
              refine J_top (v' := .int (κ.1 9 k)) (congrArg Value.int (pubI_ge κ _ k k (Nat.le_refl _) 9)) ?_
              refine J_iast cx (ws' := (mW ad g (upI (pubI κ (κ.1 1 j) k) 9 k (κ.1 9 k), κ.2.1, κ.2.2.1, κ.2.2.2.1, κ.2.2.2.2) (nI 0) ch cm rm row)) (j := k) 10 rfl  rfl (by omega) (by decide) rfl dX7_publish_107 ?_
              refine J_iload_n cx dX7_publish_108 rfl 1 rfl ?_
              refine J_iload cx dX7_publish_109 0 rfl ?_
              refine J_if_eq cx (tgt := 118) dX7_publish_111 (by decide) (fun _ => ?_) (fun h => absurd h (by decide))
              refine J_iconst cx (v := nI 0) dX7_publish_118 (by decide) ?_
              refine J_iadd cx dX7_publish_119 ?_
              refine J_top (v' := .int (nI ((cnt (pendB κ (κ.1 1 j)) k) + 0))) (congrArg Value.int (nI_add (cnt (pendB κ (κ.1 1 j)) k) 0)) ?_
              refine J_top (v' := .int (nI (cnt (pendB κ (κ.1 1 j)) (k + 1)))) (congrArg (fun z => Value.int (nI z)) (cnt_f (by simp [pendB, pendF, c_1, hjc, c_2, hk, c_4, c_4d, c_5, c_5d]))) ?_
              refine J_istore_n cx (L' := [(2, .int (nI (cnt (pendB κ (κ.1 1 j)) (k + 1)))), (4, .int (nI 0)), (3, .int (nI k)), (0, .ref (ad 0)), (1, .int (nI j))]) dX7_publish_120 rfl (by decide) rfl ?_
              refine J_ws (ws' := (mW ad g (pubI κ (κ.1 1 j) (k + 1), κ.2.1, κ.2.2.1, κ.2.2.2.1, κ.2.2.2.2) (nI 0) ch cm rm row)) (by simp [pubI, pendB, pendF, c_1, hjc, c_2, hk, c_4, c_4d, c_5, c_5d]) ?_
              refine J_iinc cx (v := (nI (k + 1))) (L' := [(3, .int (nI (k + 1))), (2, .int (nI (cnt (pendB κ (κ.1 1 j)) (k + 1)))), (4, .int (nI 0)), (0, .ref (ad 0)), (1, .int (nI j))]) dX7_publish_121 2 rfl (by exact nI_add k 1) (by decide) rfl ?_
              refine J_goto cx (tgt := 36) dX7_publish_124 (by decide) ?_
              refine J_L [1, 0, 3, 4] rfl ?_
              exact ih (k + 1) (by omega) (by omega)
            · have c_5d := decide_eq_true c_5
              refine J_aload_n cx dX7_publish_59 rfl 2 rfl ?_
              refine J_get cx (v := .ref (ad 14)) fX7_50 0 rfl rfl dX7_publish_60 ?_
              refine J_iload_n cx dX7_publish_63 rfl 1 rfl ?_
              refine J_zald cx (j := k) (f := fun i => zb (κ.2.1 3 i)) 14 rfl rfl (by omega) (by decide) dX7_publish_64 ?_
              refine J_ifz_eq cx (tgt := 81) dX7_publish_65 (by decide) (fun c_8 => ?_) (fun c_8 => ?_)
              · refine J_iconst cx (v := nI 0) dX7_publish_81 (by decide) ?_
                refine J_istore cx (L' := [(4, .int (nI 0)), (2, .int (nI (cnt (pendB κ (κ.1 1 j)) k))), (3, .int (nI k)), (0, .ref (ad 0)), (1, .int (nI j))]) dX7_publish_82 (by decide) rfl ?_
                refine J_aload_n cx dX7_publish_84 rfl 3 rfl ?_
                refine J_get cx (v := .ref (ad 10)) fX7_37 0 rfl rfl dX7_publish_85 ?_
                refine J_iload_n cx dX7_publish_88 rfl 2 rfl ?_
                refine J_iload cx dX7_publish_89 0 rfl ?_
                refine J_if_eq cx (tgt := 101) dX7_publish_91 (by decide) (fun _ => ?_) (fun h => absurd h (by decide))
                refine J_aload_n cx dX7_publish_101 rfl 3 rfl ?_
                refine J_get cx (v := .ref (ad 10)) fX7_37 0 rfl rfl dX7_publish_102 ?_
                refine J_iload_n cx dX7_publish_105 rfl 2 rfl ?_
                refine J_iald cx (j := k) (f := (pubI κ (κ.1 1 j) k) 9) 10 rfl rfl (by omega) (by decide) dX7_publish_106 ?_
                refine J_top (v' := .int (κ.1 9 k)) (congrArg Value.int (pubI_ge κ _ k k (Nat.le_refl _) 9)) ?_
                refine J_iast cx (ws' := (mW ad g (upI (pubI κ (κ.1 1 j) k) 9 k (κ.1 9 k), κ.2.1, κ.2.2.1, κ.2.2.2.1, κ.2.2.2.2) (nI 0) ch cm rm row)) (j := k) 10 rfl  rfl (by omega) (by decide) rfl dX7_publish_107 ?_
                refine J_iload_n cx dX7_publish_108 rfl 1 rfl ?_
                refine J_iload cx dX7_publish_109 0 rfl ?_
                refine J_if_eq cx (tgt := 118) dX7_publish_111 (by decide) (fun _ => ?_) (fun h => absurd h (by decide))
                refine J_iconst cx (v := nI 0) dX7_publish_118 (by decide) ?_
                refine J_iadd cx dX7_publish_119 ?_
                refine J_top (v' := .int (nI ((cnt (pendB κ (κ.1 1 j)) k) + 0))) (congrArg Value.int (nI_add (cnt (pendB κ (κ.1 1 j)) k) 0)) ?_
                refine J_top (v' := .int (nI (cnt (pendB κ (κ.1 1 j)) (k + 1)))) (congrArg (fun z => Value.int (nI z)) (cnt_f (by simp [pendB, pendF, c_1, hjc, c_2, hk, c_4, c_4d, c_5d, c_8]))) ?_
                refine J_istore_n cx (L' := [(2, .int (nI (cnt (pendB κ (κ.1 1 j)) (k + 1)))), (4, .int (nI 0)), (3, .int (nI k)), (0, .ref (ad 0)), (1, .int (nI j))]) dX7_publish_120 rfl (by decide) rfl ?_
                refine J_ws (ws' := (mW ad g (pubI κ (κ.1 1 j) (k + 1), κ.2.1, κ.2.2.1, κ.2.2.2.1, κ.2.2.2.2) (nI 0) ch cm rm row)) (by simp [pubI, pendB, pendF, c_1, hjc, c_2, hk, c_4, c_4d, c_5d, c_8]) ?_
                refine J_iinc cx (v := (nI (k + 1))) (L' := [(3, .int (nI (k + 1))), (2, .int (nI (cnt (pendB κ (κ.1 1 j)) (k + 1)))), (4, .int (nI 0)), (0, .ref (ad 0)), (1, .int (nI j))]) dX7_publish_121 2 rfl (by exact nI_add k 1) (by decide) rfl ?_
                refine J_goto cx (tgt := 36) dX7_publish_124 (by decide) ?_
                refine J_L [1, 0, 3, 4] rfl ?_
                exact ih (k + 1) (by omega) (by omega)
              · refine J_aload_n cx dX7_publish_68 rfl 2 rfl ?_
                refine J_get cx (v := .ref (ad 10)) fX7_37 0 rfl rfl dX7_publish_69 ?_
                refine J_iload_n cx dX7_publish_72 rfl 1 rfl ?_
                refine J_iald cx (j := k) (f := (pubI κ (κ.1 1 j) k) 9) 10 rfl rfl (by omega) (by decide) dX7_publish_73 ?_
                refine J_top (v' := .int (κ.1 9 k)) (congrArg Value.int (pubI_ge κ _ k k (Nat.le_refl _) 9)) ?_
                refine J_if_ge cx (tgt := 81) dX7_publish_74 (by decide) (fun c_11 => ?_) (fun c_11 => ?_)
                · have c_11d := decide_eq_true c_11
                  have c_11c := decide_eq_false (Int32.not_lt.mpr c_11)
                  refine J_iconst cx (v := nI 0) dX7_publish_81 (by decide) ?_
                  refine J_istore cx (L' := [(4, .int (nI 0)), (2, .int (nI (cnt (pendB κ (κ.1 1 j)) k))), (3, .int (nI k)), (0, .ref (ad 0)), (1, .int (nI j))]) dX7_publish_82 (by decide) rfl ?_
                  refine J_aload_n cx dX7_publish_84 rfl 3 rfl ?_
                  refine J_get cx (v := .ref (ad 10)) fX7_37 0 rfl rfl dX7_publish_85 ?_
                  refine J_iload_n cx dX7_publish_88 rfl 2 rfl ?_
                  refine J_iload cx dX7_publish_89 0 rfl ?_
                  refine J_if_eq cx (tgt := 101) dX7_publish_91 (by decide) (fun _ => ?_) (fun h => absurd h (by decide))
                  refine J_aload_n cx dX7_publish_101 rfl 3 rfl ?_
                  refine J_get cx (v := .ref (ad 10)) fX7_37 0 rfl rfl dX7_publish_102 ?_
                  refine J_iload_n cx dX7_publish_105 rfl 2 rfl ?_
                  refine J_iald cx (j := k) (f := (pubI κ (κ.1 1 j) k) 9) 10 rfl rfl (by omega) (by decide) dX7_publish_106 ?_
                  refine J_top (v' := .int (κ.1 9 k)) (congrArg Value.int (pubI_ge κ _ k k (Nat.le_refl _) 9)) ?_
                  refine J_iast cx (ws' := (mW ad g (upI (pubI κ (κ.1 1 j) k) 9 k (κ.1 9 k), κ.2.1, κ.2.2.1, κ.2.2.2.1, κ.2.2.2.2) (nI 0) ch cm rm row)) (j := k) 10 rfl  rfl (by omega) (by decide) rfl dX7_publish_107 ?_
                  refine J_iload_n cx dX7_publish_108 rfl 1 rfl ?_
                  refine J_iload cx dX7_publish_109 0 rfl ?_
                  refine J_if_eq cx (tgt := 118) dX7_publish_111 (by decide) (fun _ => ?_) (fun h => absurd h (by decide))
                  refine J_iconst cx (v := nI 0) dX7_publish_118 (by decide) ?_
                  refine J_iadd cx dX7_publish_119 ?_
                  refine J_top (v' := .int (nI ((cnt (pendB κ (κ.1 1 j)) k) + 0))) (congrArg Value.int (nI_add (cnt (pendB κ (κ.1 1 j)) k) 0)) ?_
                  refine J_top (v' := .int (nI (cnt (pendB κ (κ.1 1 j)) (k + 1)))) (congrArg (fun z => Value.int (nI z)) (cnt_f (by simp [pendB, pendF, c_1, hjc, c_2, hk, c_4, c_4d, c_5d, c_8, c_11, c_11d, c_11c]))) ?_
                  refine J_istore_n cx (L' := [(2, .int (nI (cnt (pendB κ (κ.1 1 j)) (k + 1)))), (4, .int (nI 0)), (3, .int (nI k)), (0, .ref (ad 0)), (1, .int (nI j))]) dX7_publish_120 rfl (by decide) rfl ?_
                  refine J_ws (ws' := (mW ad g (pubI κ (κ.1 1 j) (k + 1), κ.2.1, κ.2.2.1, κ.2.2.2.1, κ.2.2.2.2) (nI 0) ch cm rm row)) (by simp [pubI, pendB, pendF, c_1, hjc, c_2, hk, c_4, c_4d, c_5d, c_8, c_11, c_11d, c_11c]) ?_
                  refine J_iinc cx (v := (nI (k + 1))) (L' := [(3, .int (nI (k + 1))), (2, .int (nI (cnt (pendB κ (κ.1 1 j)) (k + 1)))), (4, .int (nI 0)), (0, .ref (ad 0)), (1, .int (nI j))]) dX7_publish_121 2 rfl (by exact nI_add k 1) (by decide) rfl ?_
                  refine J_goto cx (tgt := 36) dX7_publish_124 (by decide) ?_
                  refine J_L [1, 0, 3, 4] rfl ?_
                  exact ih (k + 1) (by omega) (by omega)
                · have c_11d := decide_eq_false c_11
                  have c_11c := decide_eq_true (Int32.not_le.mp c_11)
                  refine J_iconst cx (v := nI 1) dX7_publish_77 (by decide) ?_
                  refine J_goto cx (tgt := 82) dX7_publish_78 (by decide) ?_
                  refine J_istore cx (L' := [(4, .int (nI 1)), (2, .int (nI (cnt (pendB κ (κ.1 1 j)) k))), (3, .int (nI k)), (0, .ref (ad 0)), (1, .int (nI j))]) dX7_publish_82 (by decide) rfl ?_
                  refine J_aload_n cx dX7_publish_84 rfl 3 rfl ?_
                  refine J_get cx (v := .ref (ad 10)) fX7_37 0 rfl rfl dX7_publish_85 ?_
                  refine J_iload_n cx dX7_publish_88 rfl 2 rfl ?_
                  refine J_iload cx dX7_publish_89 0 rfl ?_
                  refine J_if_eq cx (tgt := 101) dX7_publish_91 (by decide) (fun h => absurd h (by decide)) (fun _ => ?_)
                  refine J_aload_n cx dX7_publish_94 rfl 3 rfl ?_
                  refine J_get cx (v := .int (nI (κ.2.2.1 2))) fX7_82 0 rfl rfl dX7_publish_95 ?_
                  refine J_goto cx (tgt := 107) dX7_publish_98 (by decide) ?_
                  refine J_iast cx (ws' := (mW ad g (upI (pubI κ (κ.1 1 j) k) 9 k (nI (κ.2.2.1 2)), κ.2.1, κ.2.2.1, κ.2.2.2.1, κ.2.2.2.2) (nI 0) ch cm rm row)) (j := k) 10 rfl  rfl (by omega) (by decide) rfl dX7_publish_107 ?_
                  refine J_iload_n cx dX7_publish_108 rfl 1 rfl ?_
                  refine J_iload cx dX7_publish_109 0 rfl ?_
                  refine J_if_eq cx (tgt := 118) dX7_publish_111 (by decide) (fun h => absurd h (by decide)) (fun _ => ?_)
                  refine J_iconst cx (v := nI 1) dX7_publish_114 (by decide) ?_
                  refine J_goto cx (tgt := 119) dX7_publish_115 (by decide) ?_
                  refine J_iadd cx dX7_publish_119 ?_
                  refine J_top (v' := .int (nI ((cnt (pendB κ (κ.1 1 j)) k) + 1))) (congrArg Value.int (nI_add (cnt (pendB κ (κ.1 1 j)) k) 1)) ?_
                  refine J_top (v' := .int (nI (cnt (pendB κ (κ.1 1 j)) (k + 1)))) (congrArg (fun z => Value.int (nI z)) (cnt_t (by simp [pendB, pendF, c_1, hjc, c_2, hk, c_4, c_4d, c_5d, c_8, c_11, c_11d, c_11c]))) ?_
                  refine J_istore_n cx (L' := [(2, .int (nI (cnt (pendB κ (κ.1 1 j)) (k + 1)))), (4, .int (nI 1)), (3, .int (nI k)), (0, .ref (ad 0)), (1, .int (nI j))]) dX7_publish_120 rfl (by decide) rfl ?_
                  refine J_ws (ws' := (mW ad g (pubI κ (κ.1 1 j) (k + 1), κ.2.1, κ.2.2.1, κ.2.2.2.1, κ.2.2.2.2) (nI 0) ch cm rm row)) (by simp [pubI, pendB, pendF, c_1, hjc, c_2, hk, c_4, c_4d, c_5d, c_8, c_11, c_11d, c_11c]) ?_
                  refine J_iinc cx (v := (nI (k + 1))) (L' := [(3, .int (nI (k + 1))), (2, .int (nI (cnt (pendB κ (κ.1 1 j)) (k + 1)))), (4, .int (nI 1)), (0, .ref (ad 0)), (1, .int (nI j))]) dX7_publish_121 2 rfl (by exact nI_add k 1) (by decide) rfl ?_
                  refine J_goto cx (tgt := 36) dX7_publish_124 (by decide) ?_
                  refine J_L [1, 0, 3, 4] rfl ?_
                  exact ih (k + 1) (by omega) (by omega)
      refine J_L [1, 0, 2, 3] rfl ?_
      exact LP _ 0 (by omega) (Nat.lt_succ_self _)
    · refine J_iconst cx (v := nI 1) dX7_publish_18 (by decide) ?_
      refine J_goto cx (tgt := 23) dX7_publish_19 (by decide) ?_
      refine J_iconst cx (v := nI 2) dX7_publish_23 (by decide) ?_
      refine J_callVi cx kX7_78 (As := [.int (nI 1), .int (nI 2)]) (tX7_isThrown l D g A ad κ (if inR (κ.2.2.1 0) (nI j) then nI 0 else nI 1) ch cm rm row  true (nI 2) ) ⟨rfl, rfl, by decide, by decide⟩ ⟨by decide, by decide⟩ rfl 0 rfl rfl rfl (Nat.le_of_ble_eq_true rfl) dX7_publish_24 ?_
      intro _ _ hr; cases hr
      refine J_ifz_eq cx (tgt := 32) dX7_publish_27 (by decide) (fun h => absurd h (by decide)) (fun _ => ?_)
      refine J_iconst cx (v := nI 0) dX7_publish_30 (by decide) ?_
      exact J_iret cx rfl (u := ()) (by simp only [opPublish, Bool.and_true, Bool.true_and, Bool.and_false, Bool.false_and, Bool.or_true, Bool.true_or, Bool.or_false, Bool.false_or, Bool.not_true, Bool.not_false, if_true, if_false, Bool.false_eq_true, decide_true, decide_false, ite_true, ite_false, ne_eq, not_true_eq_false, not_false_eq_true, xj, c_1, hjc, c_2]; try rfl) (by simp only [opPublish, Bool.and_true, Bool.true_and, Bool.and_false, Bool.false_and, Bool.or_true, Bool.true_or, Bool.or_false, Bool.false_or, Bool.not_true, Bool.not_false, if_true, if_false, Bool.false_eq_true, decide_true, decide_false, ite_true, ite_false, ne_eq, not_true_eq_false, not_false_eq_true, xj, c_1, hjc, c_2]; try rfl) (Nat.le_of_ble_eq_true rfl) (Nat.le_of_ble_eq_true rfl) dX7_publish_31
set_option maxHeartbeats 4000000 in
set_option maxRecDepth 100000 in
theorem tX7_pass (l : Launch) (D : va_G) (g : Nat → ClassId) (A : Nat → Prop) (ad : Nat → Nat) (κ : CS) (th : Int32) (ch : Nat → Nat) (cm rm : Nat) (row : Nat → Int64)  (dy : Int32)  : CtI l D g A yX7_pass cX7_pass 2 .int ({ frames := 1, cells := 0, slots := 0, locals := 22 } : Room) [.ref (ad 0), .int dy] (mW ad g κ th ch cm rm row) ((opPass κ dy).2.1) (mW ad g ((opPass κ dy).2.2) (nI (opPass κ dy).1) ch cm rm row) := by
  refine metJ (by decide) (Nat.le_of_ble_eq_true rfl) ?_
  intro p e s m args below meth c _ _ cx
  refine J_aload_n cx dX7_pass_0 rfl 0 rfl ?_
  refine J_iload_n cx dX7_pass_1 rfl 1 rfl ?_
  refine J_iconst cx (v := nI 1) dX7_pass_2 (by decide) ?_
  refine J_sipush cx (v := nI 999) dX7_pass_3 (by decide) ?_
  refine J_callSi cx kX7_67 (As := [.int dy, .int (nI 1), .int (nI 999)]) (tX7_isIn l D g A ad κ th ch cm rm row  dy (nI 1) (nI 999) ) ⟨rfl, rfl, by decide, by decide⟩ ⟨by decide, by decide⟩ rfl rfl (Nat.le_of_ble_eq_true rfl) dX7_pass_6 ?_
  intro _ _ hr; cases hr
  refine J_ifz_ne cx (tgt := 16) dX7_pass_9 (by decide) (fun c_1 => ?_) (fun c_1 => ?_)
  · obtain ⟨j, hj, hjb, hxj⟩ := isInB_ex c_1; subst hxj
    have hjc : (nI j).toNatClampNeg = j := nI_clamp (by omega)
    refine J_iconst cx (v := nI 0) dX7_pass_16 (by decide) ?_
    refine J_iconst cx (v := nI 1) dX7_pass_17 (by decide) ?_
    refine J_callVi cx kX7_78 (As := [.int (nI 0), .int (nI 1)]) (tX7_isThrown l D g A ad κ th ch cm rm row  false (nI 1) ) ⟨rfl, rfl, by decide, by decide⟩ ⟨by decide, by decide⟩ rfl 0 rfl rfl rfl (Nat.le_of_ble_eq_true rfl) dX7_pass_18 ?_
    intro _ _ hr; cases hr
    refine J_ifz_eq cx (tgt := 26) dX7_pass_21 (by decide) (fun _ => ?_) (fun h => absurd h (by decide))
    refine J_aload_n cx dX7_pass_26 rfl 0 rfl ?_
    refine J_dup cx dX7_pass_27 rfl ?_
    refine J_get cx (v := .int (nI (κ.2.2.1 2))) fX7_82 0 rfl rfl dX7_pass_28 ?_
    refine J_iload_n cx dX7_pass_31 rfl 1 rfl ?_
    refine J_iadd cx dX7_pass_32 ?_
    refine J_top (v' := .int (nI ((κ.2.2.1 2) + j))) (congrArg Value.int (nI_add (κ.2.2.1 2) j)) ?_
    refine J_put cx (ws' := (mW ad g (κ.1, κ.2.1, upn κ.2.2.1 2 ((κ.2.2.1 2) + j), κ.2.2.2.1, κ.2.2.2.2) (if false then (nI 1) else nI 0) ch cm rm row)) fX7_82 ⟨tyX7_ok, nmX7, tyX7_ok 19 (by decide)⟩ rfl 0 rfl rfl rfl (Nat.le_of_ble_eq_true rfl) rfl dX7_pass_33 ?_
    refine J_aload_n cx dX7_pass_36 rfl 0 rfl ?_
    refine J_get cx (v := .int (nI ((κ.2.2.1 2) + j))) fX7_82 0 rfl rfl dX7_pass_37 ?_
    exact J_iret cx rfl (u := ()) (by simp only [opPass, Bool.and_true, Bool.true_and, Bool.and_false, Bool.false_and, Bool.or_true, Bool.true_or, Bool.or_false, Bool.false_or, Bool.not_true, Bool.not_false, if_true, if_false, Bool.false_eq_true, decide_true, decide_false, ite_true, ite_false, ne_eq, not_true_eq_false, not_false_eq_true, xj, c_1, hjc]; try rfl) (by simp only [opPass, Bool.and_true, Bool.true_and, Bool.and_false, Bool.false_and, Bool.or_true, Bool.true_or, Bool.or_false, Bool.false_or, Bool.not_true, Bool.not_false, if_true, if_false, Bool.false_eq_true, decide_true, decide_false, ite_true, ite_false, ne_eq, not_true_eq_false, not_false_eq_true, xj, c_1, hjc]; try rfl) (Nat.le_of_ble_eq_true rfl) (Nat.le_of_ble_eq_true rfl) dX7_pass_40
  · refine J_iconst cx (v := nI 1) dX7_pass_12 (by decide) ?_
    refine J_goto cx (tgt := 17) dX7_pass_13 (by decide) ?_
    refine J_iconst cx (v := nI 1) dX7_pass_17 (by decide) ?_
    refine J_callVi cx kX7_78 (As := [.int (nI 1), .int (nI 1)]) (tX7_isThrown l D g A ad κ th ch cm rm row  true (nI 1) ) ⟨rfl, rfl, by decide, by decide⟩ ⟨by decide, by decide⟩ rfl 0 rfl rfl rfl (Nat.le_of_ble_eq_true rfl) dX7_pass_18 ?_
    intro _ _ hr; cases hr
    refine J_ifz_eq cx (tgt := 26) dX7_pass_21 (by decide) (fun h => absurd h (by decide)) (fun _ => ?_)
    refine J_iconst cx (v := nI 0) dX7_pass_24 (by decide) ?_
    exact J_iret cx rfl (u := ()) (by simp only [opPass, Bool.and_true, Bool.true_and, Bool.and_false, Bool.false_and, Bool.or_true, Bool.true_or, Bool.or_false, Bool.false_or, Bool.not_true, Bool.not_false, if_true, if_false, Bool.false_eq_true, decide_true, decide_false, ite_true, ite_false, ne_eq, not_true_eq_false, not_false_eq_true, xj, c_1]; try rfl) (by simp only [opPass, Bool.and_true, Bool.true_and, Bool.and_false, Bool.false_and, Bool.or_true, Bool.true_or, Bool.or_false, Bool.false_or, Bool.not_true, Bool.not_false, if_true, if_false, Bool.false_eq_true, decide_true, decide_false, ite_true, ite_false, ne_eq, not_true_eq_false, not_false_eq_true, xj, c_1]; try rfl) (Nat.le_of_ble_eq_true rfl) (Nat.le_of_ble_eq_true rfl) dX7_pass_25
set_option maxHeartbeats 4000000 in
set_option maxRecDepth 100000 in
theorem tX7_nameOf (l : Launch) (D : va_G) (g : Nat → ClassId) (A : Nat → Prop) (ad : Nat → Nat) (κ : CS) (th : Int32) (ch : Nat → Nat) (cm rm : Nat) (row : Nat → Int64)  (xc : Int32) (hn : κ.2.2.1 0 ≤ 40) : CtI l D g A yX7_nameOf cX7_nameOf 2 .int ({ frames := 3, cells := 0, slots := 0, locals := 64 } : Room) [.ref (ad 0), .int xc] (mW ad g κ th ch cm rm row) ((opGet κ 0 xc).2) (mW ad g κ (nI (opGet κ 0 xc).1) ch cm rm row) := by
  refine metJ (by decide) (Nat.le_of_ble_eq_true rfl) ?_
  intro p e s m args below meth c _ _ cx
  refine J_aload_n cx dX7_nameOf_0 rfl 0 rfl ?_
  refine J_iload_n cx dX7_nameOf_1 rfl 1 rfl ?_
  refine J_callVi cx kX7_99 (As := [.int xc]) (tX7_isNone l D g A ad κ th ch cm rm row  xc (by first | assumption | omega)) ⟨rfl, rfl, by decide, by decide⟩ ⟨by decide, by decide⟩ rfl 0 rfl rfl rfl (Nat.le_of_ble_eq_true rfl) dX7_nameOf_2 ?_
  intro _ _ hr; cases hr
  refine J_ifz_eq cx (tgt := 12) dX7_nameOf_5 (by decide) (fun c_1 => ?_) (fun c_1 => ?_)
  · have c_1 := bn_f c_1
    obtain ⟨j, hj, hxj⟩ := inR_spec c_1 (by omega)
    subst hxj
    have hjc : (nI j).toNatClampNeg = j := nI_clamp (by omega)
    refine J_aload_n cx dX7_nameOf_12 rfl 0 rfl ?_
    refine J_get cx (v := .ref (ad 1)) fX7_9 0 rfl rfl dX7_nameOf_13 ?_
    refine J_iload_n cx dX7_nameOf_16 rfl 1 rfl ?_
    refine J_iald cx (j := j) (f := κ.1 0) 1 rfl rfl (by omega) (by decide) dX7_nameOf_17 ?_
    exact J_iret cx rfl (u := ()) (by simp only [opGet, Bool.and_true, Bool.true_and, Bool.and_false, Bool.false_and, Bool.or_true, Bool.true_or, Bool.or_false, Bool.false_or, Bool.not_true, Bool.not_false, if_true, if_false, Bool.false_eq_true, decide_true, decide_false, ite_true, ite_false, ne_eq, not_true_eq_false, not_false_eq_true, xj, c_1, hjc]; try rfl) (by simp only [opGet, Bool.and_true, Bool.true_and, Bool.and_false, Bool.false_and, Bool.or_true, Bool.true_or, Bool.or_false, Bool.false_or, Bool.not_true, Bool.not_false, if_true, if_false, Bool.false_eq_true, decide_true, decide_false, ite_true, ite_false, ne_eq, not_true_eq_false, not_false_eq_true, xj, c_1, hjc]; try rfl) (Nat.le_of_ble_eq_true rfl) (Nat.le_of_ble_eq_true rfl) dX7_nameOf_18
  · have c_1 := bn_t c_1
    refine J_iconst cx (v := nI 0) dX7_nameOf_8 (by decide) ?_
    refine J_goto cx (tgt := 18) dX7_nameOf_9 (by decide) ?_
    exact J_iret cx rfl (u := ()) (by simp only [opGet, Bool.and_true, Bool.true_and, Bool.and_false, Bool.false_and, Bool.or_true, Bool.true_or, Bool.or_false, Bool.false_or, Bool.not_true, Bool.not_false, if_true, if_false, Bool.false_eq_true, decide_true, decide_false, ite_true, ite_false, ne_eq, not_true_eq_false, not_false_eq_true, xj, c_1]; try rfl) (by simp only [opGet, Bool.and_true, Bool.true_and, Bool.and_false, Bool.false_and, Bool.or_true, Bool.true_or, Bool.or_false, Bool.false_or, Bool.not_true, Bool.not_false, if_true, if_false, Bool.false_eq_true, decide_true, decide_false, ite_true, ite_false, ne_eq, not_true_eq_false, not_false_eq_true, xj, c_1]; try rfl) (Nat.le_of_ble_eq_true rfl) (Nat.le_of_ble_eq_true rfl) dX7_nameOf_18
set_option maxHeartbeats 4000000 in
set_option maxRecDepth 100000 in
theorem tX7_keyOf (l : Launch) (D : va_G) (g : Nat → ClassId) (A : Nat → Prop) (ad : Nat → Nat) (κ : CS) (th : Int32) (ch : Nat → Nat) (cm rm : Nat) (row : Nat → Int64)  (xc : Int32) (hn : κ.2.2.1 0 ≤ 40) : CtI l D g A yX7_keyOf cX7_keyOf 2 .int ({ frames := 3, cells := 0, slots := 0, locals := 64 } : Room) [.ref (ad 0), .int xc] (mW ad g κ th ch cm rm row) ((opGet κ 1 xc).2) (mW ad g κ (nI (opGet κ 1 xc).1) ch cm rm row) := by
  refine metJ (by decide) (Nat.le_of_ble_eq_true rfl) ?_
  intro p e s m args below meth c _ _ cx
  refine J_aload_n cx dX7_keyOf_0 rfl 0 rfl ?_
  refine J_iload_n cx dX7_keyOf_1 rfl 1 rfl ?_
  refine J_callVi cx kX7_99 (As := [.int xc]) (tX7_isNone l D g A ad κ th ch cm rm row  xc (by first | assumption | omega)) ⟨rfl, rfl, by decide, by decide⟩ ⟨by decide, by decide⟩ rfl 0 rfl rfl rfl (Nat.le_of_ble_eq_true rfl) dX7_keyOf_2 ?_
  intro _ _ hr; cases hr
  refine J_ifz_eq cx (tgt := 12) dX7_keyOf_5 (by decide) (fun c_1 => ?_) (fun c_1 => ?_)
  · have c_1 := bn_f c_1
    obtain ⟨j, hj, hxj⟩ := inR_spec c_1 (by omega)
    subst hxj
    have hjc : (nI j).toNatClampNeg = j := nI_clamp (by omega)
    refine J_aload_n cx dX7_keyOf_12 rfl 0 rfl ?_
    refine J_get cx (v := .ref (ad 2)) fX7_13 0 rfl rfl dX7_keyOf_13 ?_
    refine J_iload_n cx dX7_keyOf_16 rfl 1 rfl ?_
    refine J_iald cx (j := j) (f := κ.1 1) 2 rfl rfl (by omega) (by decide) dX7_keyOf_17 ?_
    exact J_iret cx rfl (u := ()) (by simp only [opGet, Bool.and_true, Bool.true_and, Bool.and_false, Bool.false_and, Bool.or_true, Bool.true_or, Bool.or_false, Bool.false_or, Bool.not_true, Bool.not_false, if_true, if_false, Bool.false_eq_true, decide_true, decide_false, ite_true, ite_false, ne_eq, not_true_eq_false, not_false_eq_true, xj, c_1, hjc]; try rfl) (by simp only [opGet, Bool.and_true, Bool.true_and, Bool.and_false, Bool.false_and, Bool.or_true, Bool.true_or, Bool.or_false, Bool.false_or, Bool.not_true, Bool.not_false, if_true, if_false, Bool.false_eq_true, decide_true, decide_false, ite_true, ite_false, ne_eq, not_true_eq_false, not_false_eq_true, xj, c_1, hjc]; try rfl) (Nat.le_of_ble_eq_true rfl) (Nat.le_of_ble_eq_true rfl) dX7_keyOf_18
  · have c_1 := bn_t c_1
    refine J_iconst cx (v := nI 0) dX7_keyOf_8 (by decide) ?_
    refine J_goto cx (tgt := 18) dX7_keyOf_9 (by decide) ?_
    exact J_iret cx rfl (u := ()) (by simp only [opGet, Bool.and_true, Bool.true_and, Bool.and_false, Bool.false_and, Bool.or_true, Bool.true_or, Bool.or_false, Bool.false_or, Bool.not_true, Bool.not_false, if_true, if_false, Bool.false_eq_true, decide_true, decide_false, ite_true, ite_false, ne_eq, not_true_eq_false, not_false_eq_true, xj, c_1]; try rfl) (by simp only [opGet, Bool.and_true, Bool.true_and, Bool.and_false, Bool.false_and, Bool.or_true, Bool.true_or, Bool.or_false, Bool.false_or, Bool.not_true, Bool.not_false, if_true, if_false, Bool.false_eq_true, decide_true, decide_false, ite_true, ite_false, ne_eq, not_true_eq_false, not_false_eq_true, xj, c_1]; try rfl) (Nat.le_of_ble_eq_true rfl) (Nat.le_of_ble_eq_true rfl) dX7_keyOf_18
set_option maxHeartbeats 4000000 in
set_option maxRecDepth 100000 in
theorem tX7_issuerKeyOf (l : Launch) (D : va_G) (g : Nat → ClassId) (A : Nat → Prop) (ad : Nat → Nat) (κ : CS) (th : Int32) (ch : Nat → Nat) (cm rm : Nat) (row : Nat → Int64)  (xc : Int32) (hn : κ.2.2.1 0 ≤ 40) : CtI l D g A yX7_issuerKeyOf cX7_issuerKeyOf 2 .int ({ frames := 3, cells := 0, slots := 0, locals := 64 } : Room) [.ref (ad 0), .int xc] (mW ad g κ th ch cm rm row) ((opGet κ 5 xc).2) (mW ad g κ (nI (opGet κ 5 xc).1) ch cm rm row) := by
  refine metJ (by decide) (Nat.le_of_ble_eq_true rfl) ?_
  intro p e s m args below meth c _ _ cx
  refine J_aload_n cx dX7_issuerKeyOf_0 rfl 0 rfl ?_
  refine J_iload_n cx dX7_issuerKeyOf_1 rfl 1 rfl ?_
  refine J_callVi cx kX7_99 (As := [.int xc]) (tX7_isNone l D g A ad κ th ch cm rm row  xc (by first | assumption | omega)) ⟨rfl, rfl, by decide, by decide⟩ ⟨by decide, by decide⟩ rfl 0 rfl rfl rfl (Nat.le_of_ble_eq_true rfl) dX7_issuerKeyOf_2 ?_
  intro _ _ hr; cases hr
  refine J_ifz_eq cx (tgt := 12) dX7_issuerKeyOf_5 (by decide) (fun c_1 => ?_) (fun c_1 => ?_)
  · have c_1 := bn_f c_1
    obtain ⟨j, hj, hxj⟩ := inR_spec c_1 (by omega)
    subst hxj
    have hjc : (nI j).toNatClampNeg = j := nI_clamp (by omega)
    refine J_aload_n cx dX7_issuerKeyOf_12 rfl 0 rfl ?_
    refine J_get cx (v := .ref (ad 6)) fX7_25 0 rfl rfl dX7_issuerKeyOf_13 ?_
    refine J_iload_n cx dX7_issuerKeyOf_16 rfl 1 rfl ?_
    refine J_iald cx (j := j) (f := κ.1 5) 6 rfl rfl (by omega) (by decide) dX7_issuerKeyOf_17 ?_
    exact J_iret cx rfl (u := ()) (by simp only [opGet, Bool.and_true, Bool.true_and, Bool.and_false, Bool.false_and, Bool.or_true, Bool.true_or, Bool.or_false, Bool.false_or, Bool.not_true, Bool.not_false, if_true, if_false, Bool.false_eq_true, decide_true, decide_false, ite_true, ite_false, ne_eq, not_true_eq_false, not_false_eq_true, xj, c_1, hjc]; try rfl) (by simp only [opGet, Bool.and_true, Bool.true_and, Bool.and_false, Bool.false_and, Bool.or_true, Bool.true_or, Bool.or_false, Bool.false_or, Bool.not_true, Bool.not_false, if_true, if_false, Bool.false_eq_true, decide_true, decide_false, ite_true, ite_false, ne_eq, not_true_eq_false, not_false_eq_true, xj, c_1, hjc]; try rfl) (Nat.le_of_ble_eq_true rfl) (Nat.le_of_ble_eq_true rfl) dX7_issuerKeyOf_18
  · have c_1 := bn_t c_1
    refine J_iconst cx (v := nI 0) dX7_issuerKeyOf_8 (by decide) ?_
    refine J_goto cx (tgt := 18) dX7_issuerKeyOf_9 (by decide) ?_
    exact J_iret cx rfl (u := ()) (by simp only [opGet, Bool.and_true, Bool.true_and, Bool.and_false, Bool.false_and, Bool.or_true, Bool.true_or, Bool.or_false, Bool.false_or, Bool.not_true, Bool.not_false, if_true, if_false, Bool.false_eq_true, decide_true, decide_false, ite_true, ite_false, ne_eq, not_true_eq_false, not_false_eq_true, xj, c_1]; try rfl) (by simp only [opGet, Bool.and_true, Bool.true_and, Bool.and_false, Bool.false_and, Bool.or_true, Bool.true_or, Bool.or_false, Bool.false_or, Bool.not_true, Bool.not_false, if_true, if_false, Bool.false_eq_true, decide_true, decide_false, ite_true, ite_false, ne_eq, not_true_eq_false, not_false_eq_true, xj, c_1]; try rfl) (Nat.le_of_ble_eq_true rfl) (Nat.le_of_ble_eq_true rfl) dX7_issuerKeyOf_18
set_option maxHeartbeats 4000000 in
set_option maxRecDepth 100000 in
theorem tX7_lastDayOf (l : Launch) (D : va_G) (g : Nat → ClassId) (A : Nat → Prop) (ad : Nat → Nat) (κ : CS) (th : Int32) (ch : Nat → Nat) (cm rm : Nat) (row : Nat → Int64)  (xc : Int32) (hn : κ.2.2.1 0 ≤ 40) : CtI l D g A yX7_lastDayOf cX7_lastDayOf 2 .int ({ frames := 3, cells := 0, slots := 0, locals := 64 } : Room) [.ref (ad 0), .int xc] (mW ad g κ th ch cm rm row) ((opGet κ 3 xc).2) (mW ad g κ (nI (opGet κ 3 xc).1) ch cm rm row) := by
  refine metJ (by decide) (Nat.le_of_ble_eq_true rfl) ?_
  intro p e s m args below meth c _ _ cx
  refine J_aload_n cx dX7_lastDayOf_0 rfl 0 rfl ?_
  refine J_iload_n cx dX7_lastDayOf_1 rfl 1 rfl ?_
  refine J_callVi cx kX7_99 (As := [.int xc]) (tX7_isNone l D g A ad κ th ch cm rm row  xc (by first | assumption | omega)) ⟨rfl, rfl, by decide, by decide⟩ ⟨by decide, by decide⟩ rfl 0 rfl rfl rfl (Nat.le_of_ble_eq_true rfl) dX7_lastDayOf_2 ?_
  intro _ _ hr; cases hr
  refine J_ifz_eq cx (tgt := 12) dX7_lastDayOf_5 (by decide) (fun c_1 => ?_) (fun c_1 => ?_)
  · have c_1 := bn_f c_1
    obtain ⟨j, hj, hxj⟩ := inR_spec c_1 (by omega)
    subst hxj
    have hjc : (nI j).toNatClampNeg = j := nI_clamp (by omega)
    refine J_aload_n cx dX7_lastDayOf_12 rfl 0 rfl ?_
    refine J_get cx (v := .ref (ad 4)) fX7_19 0 rfl rfl dX7_lastDayOf_13 ?_
    refine J_iload_n cx dX7_lastDayOf_16 rfl 1 rfl ?_
    refine J_iald cx (j := j) (f := κ.1 3) 4 rfl rfl (by omega) (by decide) dX7_lastDayOf_17 ?_
    exact J_iret cx rfl (u := ()) (by simp only [opGet, Bool.and_true, Bool.true_and, Bool.and_false, Bool.false_and, Bool.or_true, Bool.true_or, Bool.or_false, Bool.false_or, Bool.not_true, Bool.not_false, if_true, if_false, Bool.false_eq_true, decide_true, decide_false, ite_true, ite_false, ne_eq, not_true_eq_false, not_false_eq_true, xj, c_1, hjc]; try rfl) (by simp only [opGet, Bool.and_true, Bool.true_and, Bool.and_false, Bool.false_and, Bool.or_true, Bool.true_or, Bool.or_false, Bool.false_or, Bool.not_true, Bool.not_false, if_true, if_false, Bool.false_eq_true, decide_true, decide_false, ite_true, ite_false, ne_eq, not_true_eq_false, not_false_eq_true, xj, c_1, hjc]; try rfl) (Nat.le_of_ble_eq_true rfl) (Nat.le_of_ble_eq_true rfl) dX7_lastDayOf_18
  · have c_1 := bn_t c_1
    refine J_iconst cx (v := nI 0) dX7_lastDayOf_8 (by decide) ?_
    refine J_goto cx (tgt := 18) dX7_lastDayOf_9 (by decide) ?_
    exact J_iret cx rfl (u := ()) (by simp only [opGet, Bool.and_true, Bool.true_and, Bool.and_false, Bool.false_and, Bool.or_true, Bool.true_or, Bool.or_false, Bool.false_or, Bool.not_true, Bool.not_false, if_true, if_false, Bool.false_eq_true, decide_true, decide_false, ite_true, ite_false, ne_eq, not_true_eq_false, not_false_eq_true, xj, c_1]; try rfl) (by simp only [opGet, Bool.and_true, Bool.true_and, Bool.and_false, Bool.false_and, Bool.or_true, Bool.true_or, Bool.or_false, Bool.false_or, Bool.not_true, Bool.not_false, if_true, if_false, Bool.false_eq_true, decide_true, decide_false, ite_true, ite_false, ne_eq, not_true_eq_false, not_false_eq_true, xj, c_1]; try rfl) (Nat.le_of_ble_eq_true rfl) (Nat.le_of_ble_eq_true rfl) dX7_lastDayOf_18
set_option maxHeartbeats 4000000 in
set_option maxRecDepth 100000 in
theorem tX7_kindOf (l : Launch) (D : va_G) (g : Nat → ClassId) (A : Nat → Prop) (ad : Nat → Nat) (κ : CS) (th : Int32) (ch : Nat → Nat) (cm rm : Nat) (row : Nat → Int64)  (xc : Int32) (hn : κ.2.2.1 0 ≤ 40) : CtI l D g A yX7_kindOf cX7_kindOf 2 .char ({ frames := 3, cells := 0, slots := 0, locals := 64 } : Room) [.ref (ad 0), .int xc] (mW ad g κ th ch cm rm row) ((opKind κ xc).2) (mW ad g κ (nI (opKind κ xc).1) ch cm rm row) := by
  refine metJ (by decide) (Nat.le_of_ble_eq_true rfl) ?_
  intro p e s m args below meth c _ _ cx
  refine J_aload_n cx dX7_kindOf_0 rfl 0 rfl ?_
  refine J_iload_n cx dX7_kindOf_1 rfl 1 rfl ?_
  refine J_callVi cx kX7_99 (As := [.int xc]) (tX7_isNone l D g A ad κ th ch cm rm row  xc (by first | assumption | omega)) ⟨rfl, rfl, by decide, by decide⟩ ⟨by decide, by decide⟩ rfl 0 rfl rfl rfl (Nat.le_of_ble_eq_true rfl) dX7_kindOf_2 ?_
  intro _ _ hr; cases hr
  refine J_ifz_eq cx (tgt := 12) dX7_kindOf_5 (by decide) (fun c_1 => ?_) (fun c_1 => ?_)
  · have c_1 := bn_f c_1
    obtain ⟨j, hj, hxj⟩ := inR_spec c_1 (by omega)
    subst hxj
    have hjc : (nI j).toNatClampNeg = j := nI_clamp (by omega)
    refine J_aload_n cx dX7_kindOf_12 rfl 0 rfl ?_
    refine J_get cx (v := .ref (ad 12)) fX7_44 0 rfl rfl dX7_kindOf_13 ?_
    refine J_iload_n cx dX7_kindOf_16 rfl 1 rfl ?_
    refine J_zald cx (j := j) (f := fun i => zb (κ.2.1 1 i)) 12 rfl rfl (by omega) (by decide) dX7_kindOf_17 ?_
    refine J_ifz_eq cx (tgt := 26) dX7_kindOf_18 (by decide) (fun c_2 => ?_) (fun c_2 => ?_)
    · refine J_aload_n cx dX7_kindOf_26 rfl 0 rfl ?_
      refine J_get cx (v := .ref (ad 11)) fX7_40 0 rfl rfl dX7_kindOf_27 ?_
      refine J_iload_n cx dX7_kindOf_30 rfl 1 rfl ?_
      refine J_zald cx (j := j) (f := fun i => zb (κ.2.1 0 i)) 11 rfl rfl (by omega) (by decide) dX7_kindOf_31 ?_
      refine J_ifz_eq cx (tgt := 40) dX7_kindOf_32 (by decide) (fun c_3 => ?_) (fun c_3 => ?_)
      · refine J_bipush cx (v := nI 101) dX7_kindOf_40 (by decide) ?_
        exact J_zret cx rfl (u := ()) (by decide) (by simp only [opKind, Bool.and_true, Bool.true_and, Bool.and_false, Bool.false_and, Bool.or_true, Bool.true_or, Bool.or_false, Bool.false_or, Bool.not_true, Bool.not_false, if_true, if_false, Bool.false_eq_true, decide_true, decide_false, ite_true, ite_false, ne_eq, not_true_eq_false, not_false_eq_true, xj, c_1, hjc, c_2, c_3]; try rfl) (by simp only [opKind, Bool.and_true, Bool.true_and, Bool.and_false, Bool.false_and, Bool.or_true, Bool.true_or, Bool.or_false, Bool.false_or, Bool.not_true, Bool.not_false, if_true, if_false, Bool.false_eq_true, decide_true, decide_false, ite_true, ite_false, ne_eq, not_true_eq_false, not_false_eq_true, xj, c_1, hjc, c_2, c_3]; try rfl) (Nat.le_of_ble_eq_true rfl) (Nat.le_of_ble_eq_true rfl) dX7_kindOf_42
      · refine J_bipush cx (v := nI 97) dX7_kindOf_35 (by decide) ?_
        refine J_goto cx (tgt := 42) dX7_kindOf_37 (by decide) ?_
        exact J_zret cx rfl (u := ()) (by decide) (by simp only [opKind, Bool.and_true, Bool.true_and, Bool.and_false, Bool.false_and, Bool.or_true, Bool.true_or, Bool.or_false, Bool.false_or, Bool.not_true, Bool.not_false, if_true, if_false, Bool.false_eq_true, decide_true, decide_false, ite_true, ite_false, ne_eq, not_true_eq_false, not_false_eq_true, xj, c_1, hjc, c_2, c_3]; try rfl) (by simp only [opKind, Bool.and_true, Bool.true_and, Bool.and_false, Bool.false_and, Bool.or_true, Bool.true_or, Bool.or_false, Bool.false_or, Bool.not_true, Bool.not_false, if_true, if_false, Bool.false_eq_true, decide_true, decide_false, ite_true, ite_false, ne_eq, not_true_eq_false, not_false_eq_true, xj, c_1, hjc, c_2, c_3]; try rfl) (Nat.le_of_ble_eq_true rfl) (Nat.le_of_ble_eq_true rfl) dX7_kindOf_42
    · refine J_bipush cx (v := nI 114) dX7_kindOf_21 (by decide) ?_
      refine J_goto cx (tgt := 42) dX7_kindOf_23 (by decide) ?_
      exact J_zret cx rfl (u := ()) (by decide) (by simp only [opKind, Bool.and_true, Bool.true_and, Bool.and_false, Bool.false_and, Bool.or_true, Bool.true_or, Bool.or_false, Bool.false_or, Bool.not_true, Bool.not_false, if_true, if_false, Bool.false_eq_true, decide_true, decide_false, ite_true, ite_false, ne_eq, not_true_eq_false, not_false_eq_true, xj, c_1, hjc, c_2]; try rfl) (by simp only [opKind, Bool.and_true, Bool.true_and, Bool.and_false, Bool.false_and, Bool.or_true, Bool.true_or, Bool.or_false, Bool.false_or, Bool.not_true, Bool.not_false, if_true, if_false, Bool.false_eq_true, decide_true, decide_false, ite_true, ite_false, ne_eq, not_true_eq_false, not_false_eq_true, xj, c_1, hjc, c_2]; try rfl) (Nat.le_of_ble_eq_true rfl) (Nat.le_of_ble_eq_true rfl) dX7_kindOf_42
  · have c_1 := bn_t c_1
    refine J_iconst cx (v := nI 0) dX7_kindOf_8 (by decide) ?_
    refine J_goto cx (tgt := 42) dX7_kindOf_9 (by decide) ?_
    exact J_zret cx rfl (u := ()) (by decide) (by simp only [opKind, Bool.and_true, Bool.true_and, Bool.and_false, Bool.false_and, Bool.or_true, Bool.true_or, Bool.or_false, Bool.false_or, Bool.not_true, Bool.not_false, if_true, if_false, Bool.false_eq_true, decide_true, decide_false, ite_true, ite_false, ne_eq, not_true_eq_false, not_false_eq_true, xj, c_1]; try rfl) (by simp only [opKind, Bool.and_true, Bool.true_and, Bool.and_false, Bool.false_and, Bool.or_true, Bool.true_or, Bool.or_false, Bool.false_or, Bool.not_true, Bool.not_false, if_true, if_false, Bool.false_eq_true, decide_true, decide_false, ite_true, ite_false, ne_eq, not_true_eq_false, not_false_eq_true, xj, c_1]; try rfl) (Nat.le_of_ble_eq_true rfl) (Nat.le_of_ble_eq_true rfl) dX7_kindOf_42
