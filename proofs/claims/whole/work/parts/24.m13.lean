def rmP (d : Nat) : Room := { frames := 9 + d, cells := 0, slots := 0, locals := 221 + d * 25 }
def rmG (d : Nat) : Room := { frames := 9 + d, cells := 0, slots := 0, locals := 221 + d * 25 }
set_option maxHeartbeats 4000000 in
set_option maxRecDepth 100000 in
theorem tX7_proves (l : Launch) (D : va_G) (g : Nat → ClassId) (A : Nat → Prop) (ad : Nat → Nat) (κ : CS) (th : Int32) (ch : Nat → Nat) (cm : Nat)  (en : Nat) : ∀ (d fr sz : Nat) (rm : Nat) (row : Nat → Int64), (1 ≤ sz) → (sz ≤ 2 ^ d) → (d ≤ 6) → (fr + sz ≤ κ.2.2.1 0) → (κ.2.2.1 0 ≤ 40) → (en < 41) → (rm + d ≤ 39) → CtV l D g A yX7_proves cX7_proves 5 (rmP d) [.ref (ad 0), .int (nI en), .int (nI fr), .int (nI sz)] (mW ad g κ th ch cm rm row) (mW ad g κ th ch cm ((pvK κ en d fr sz (rm, row)).1) ((pvK κ en d fr sz (rm, row)).2)) := by
  intro d; induction d with
  | zero => 
    intro fr sz rm row h1 hp hd hf hn he hr
    refine metJ (by decide) (Nat.le_of_ble_eq_true rfl) ?_
    intro p e s m args below meth c _ _ cx
    refine J_iload_n cx dX7_proves_0 rfl 3 rfl ?_
    refine J_iconst cx (v := nI 1) dX7_proves_1 (by decide) ?_
    refine J_icmp_le cx (tgt := 70) dX7_proves_2 (by decide) (fun c_1 => ?_) (fun c_1 => ?_)
    · have c_1 := (nat_ic_le (by omega) (by omega)).mp c_1
      have c_1d := decide_eq_true c_1
      exact J_vret cx rfl (u := ()) trivial rfl (Nat.le_of_ble_eq_true rfl) (Nat.le_of_ble_eq_true rfl) dX7_proves_70
    · have c_1 := (nat_ic_le_f (by omega) (by omega)).mp c_1
      have c_1d := decide_eq_false (Nat.not_le.mpr c_1)
      exfalso; simp at hp; omega
  | succ d ihd => 
    intro fr sz rm row h1 hp hd hf hn he hr
    refine metJ (by decide) (Nat.le_of_ble_eq_true rfl) ?_
    intro p e s m args below meth c _ _ cx
    refine J_iload_n cx dX7_proves_0 rfl 3 rfl ?_
    refine J_iconst cx (v := nI 1) dX7_proves_1 (by decide) ?_
    refine J_icmp_le cx (tgt := 70) dX7_proves_2 (by decide) (fun c_1 => ?_) (fun c_1 => ?_)
    · have c_1 := (nat_ic_le (by omega) (by omega)).mp c_1
      have c_1d := decide_eq_true c_1
      have hq0 : decide (1 < sz) = false := decide_eq_false (by omega)
      exact J_vret cx rfl (u := ()) trivial (by simp only [pvK, ad1, Bool.and_true, Bool.true_and, Bool.and_false, Bool.false_and, Bool.or_true, Bool.true_or, Bool.or_false, Bool.false_or, Bool.not_true, Bool.not_false, if_true, if_false, Bool.false_eq_true, decide_true, decide_false, ite_true, ite_false, ne_eq, not_true_eq_false, not_false_eq_true, xj, hq0]) (Nat.le_of_ble_eq_true rfl) (Nat.le_of_ble_eq_true rfl) dX7_proves_70
    · have c_1 := (nat_ic_le_f (by omega) (by omega)).mp c_1
      have c_1d := decide_eq_false (Nat.not_le.mpr c_1)
      have hq0 : decide (1 < sz) = true := decide_eq_true (by omega)
      refine J_iload_n cx dX7_proves_5 rfl 3 rfl ?_
      refine J_callSi cx kX7_189 (As := [.int (nI sz)]) (tX7_split l D g A ad κ th ch cm rm row  sz (by first | assumption | omega)) ⟨rfl, rfl, by simp only [rmP, rmR]; omega, by simp only [rmP, rmR]; omega⟩ ⟨by simp only [rmP, rmR]; omega, by simp only [rmP, rmR]; omega⟩ rfl rfl (Nat.le_of_ble_eq_true rfl) dX7_proves_6 ?_
      intro _ _ hr; cases hr
      obtain ⟨hs1, hs2, hs3, hs4⟩ := spl_spec sz (by omega) (by omega)
      refine J_istore cx (L' := [(4, .int (nI (spl sz))), (0, .ref (ad 0)), (1, .int (nI en)), (2, .int (nI fr)), (3, .int (nI sz))]) dX7_proves_9 (by decide) rfl ?_
      refine J_iload_n cx dX7_proves_11 rfl 2 rfl ?_
      refine J_iload_n cx dX7_proves_12 rfl 3 rfl ?_
      refine J_iload cx dX7_proves_13 0 rfl ?_
      refine J_iadd cx dX7_proves_15 ?_
      refine J_top (v' := .int (nI (fr + (spl sz)))) (congrArg Value.int (nI_add fr (spl sz))) ?_
      refine J_icmp_ge cx (tgt := 46) dX7_proves_16 (by decide) (fun c_2 => ?_) (fun c_2 => ?_)
      · have c_2 := (nat_ic_ge (by omega) (by omega)).mp c_2
        have c_2d := decide_eq_true c_2
        have hq1 : decide (en < fr + spl sz) = false := decide_eq_false (by omega)
        refine J_aload_n cx dX7_proves_46 rfl 1 rfl ?_
        refine J_iload_n cx dX7_proves_47 rfl 2 rfl ?_
        refine J_iload_n cx dX7_proves_48 rfl 3 rfl ?_
        refine J_iload cx dX7_proves_49 0 rfl ?_
        refine J_iadd cx dX7_proves_51 ?_
        refine J_top (v' := .int (nI (fr + (spl sz)))) (congrArg Value.int (nI_add fr (spl sz))) ?_
        refine J_iload_n cx dX7_proves_52 rfl 4 rfl ?_
        refine J_iload cx dX7_proves_53 0 rfl ?_
        refine J_isub cx dX7_proves_55 ?_
        refine J_top (v' := .int (nI (sz - (spl sz)))) (congrArg Value.int (pk_sub (by omega))) ?_
        refine J_callVv cx kX7_210 (As := [.int (nI en), .int (nI (fr + (spl sz))), .int (nI (sz - (spl sz)))]) (ihd (fr + (spl sz)) (sz - (spl sz)) rm row (by omega) (Nat.le_trans (by omega) (hs4 d (by omega) hp)) (by omega) (by omega) hn he (by omega)) ⟨rfl, rfl, by simp only [rmP, rmR]; omega, by simp only [rmP, rmR]; omega⟩ ⟨by simp only [rmP, rmR]; omega, by simp only [rmP, rmR]; omega⟩ rfl 0 rfl rfl rfl (Nat.le_of_ble_eq_true rfl) dX7_proves_56 ?_
        intro _ _
        refine J_aload_n cx dX7_proves_59 rfl 1 rfl ?_
        refine J_aload_n cx dX7_proves_60 rfl 1 rfl ?_
        refine J_iload_n cx dX7_proves_61 rfl 3 rfl ?_
        refine J_iload cx dX7_proves_62 0 rfl ?_
        refine J_callVl cx kX7_192 (As := [.int (nI fr), .int (nI (spl sz))]) (tX7_rootFrom l D g A ad κ th ch cm ((pvK κ en d (fr + (spl sz)) (sz - (spl sz)) (rm, row)).1) ((pvK κ en d (fr + (spl sz)) (sz - (spl sz)) (rm, row)).2) 6 fr (spl sz) (by omega) (by show _ ≤ 64; omega) (by omega) (by omega) hn) ⟨rfl, rfl, by simp only [rmP, rmR]; omega, by simp only [rmP, rmR]; omega⟩ ⟨by simp only [rmP, rmR]; omega, by simp only [rmP, rmR]; omega⟩ rfl 0 rfl rfl rfl (Nat.le_of_ble_eq_true rfl) dX7_proves_64 ?_
        intro _ _ hr; cases hr
        have hle := pvK_le κ en d (fr + (spl sz)) (sz - (spl sz)) (rm, row)
        simp only at hle
        refine J_callVv cx kX7_214 (As := [.long (rt κ 6 fr (spl sz))]) (tX7_adds l D g A ad κ th ch cm ((pvK κ en d (fr + (spl sz)) (sz - (spl sz)) (rm, row)).1) ((pvK κ en d (fr + (spl sz)) (sz - (spl sz)) (rm, row)).2)  (rt κ 6 fr (spl sz)) (by omega)) ⟨rfl, rfl, by simp only [rmP, rmR]; omega, by simp only [rmP, rmR]; omega⟩ ⟨by simp only [rmP, rmR]; omega, by simp only [rmP, rmR]; omega⟩ rfl 0 rfl rfl rfl (Nat.le_of_ble_eq_true rfl) dX7_proves_67 ?_
        intro _ _
        exact J_vret cx rfl (u := ()) trivial (by simp only [pvK, ad1, Bool.and_true, Bool.true_and, Bool.and_false, Bool.false_and, Bool.or_true, Bool.true_or, Bool.or_false, Bool.false_or, Bool.not_true, Bool.not_false, if_true, if_false, Bool.false_eq_true, decide_true, decide_false, ite_true, ite_false, ne_eq, not_true_eq_false, not_false_eq_true, xj, hq0, hq1]) (Nat.le_of_ble_eq_true rfl) (Nat.le_of_ble_eq_true rfl) dX7_proves_70
      · have c_2 := (nat_ic_ge_f (by omega) (by omega)).mp c_2
        have c_2d := decide_eq_false (Nat.not_le.mpr c_2)
        have hq1 : decide (en < fr + spl sz) = true := decide_eq_true (by omega)
        refine J_aload_n cx dX7_proves_19 rfl 1 rfl ?_
        refine J_iload_n cx dX7_proves_20 rfl 2 rfl ?_
        refine J_iload_n cx dX7_proves_21 rfl 3 rfl ?_
        refine J_iload cx dX7_proves_22 0 rfl ?_
        refine J_callVv cx kX7_210 (As := [.int (nI en), .int (nI fr), .int (nI (spl sz))]) (ihd fr (spl sz) rm row hs1 (hs4 d (by omega) hp) (by omega) (by omega) hn he (by omega)) ⟨rfl, rfl, by simp only [rmP, rmR]; omega, by simp only [rmP, rmR]; omega⟩ ⟨by simp only [rmP, rmR]; omega, by simp only [rmP, rmR]; omega⟩ rfl 0 rfl rfl rfl (Nat.le_of_ble_eq_true rfl) dX7_proves_24 ?_
        intro _ _
        refine J_aload_n cx dX7_proves_27 rfl 1 rfl ?_
        refine J_aload_n cx dX7_proves_28 rfl 1 rfl ?_
        refine J_iload_n cx dX7_proves_29 rfl 3 rfl ?_
        refine J_iload cx dX7_proves_30 0 rfl ?_
        refine J_iadd cx dX7_proves_32 ?_
        refine J_top (v' := .int (nI (fr + (spl sz)))) (congrArg Value.int (nI_add fr (spl sz))) ?_
        refine J_iload_n cx dX7_proves_33 rfl 4 rfl ?_
        refine J_iload cx dX7_proves_34 0 rfl ?_
        refine J_isub cx dX7_proves_36 ?_
        refine J_top (v' := .int (nI (sz - (spl sz)))) (congrArg Value.int (pk_sub (by omega))) ?_
        refine J_callVl cx kX7_192 (As := [.int (nI (fr + (spl sz))), .int (nI (sz - (spl sz)))]) (tX7_rootFrom l D g A ad κ th ch cm ((pvK κ en d fr (spl sz) (rm, row)).1) ((pvK κ en d fr (spl sz) (rm, row)).2) 6 (fr + (spl sz)) (sz - (spl sz)) (by omega) (by show _ ≤ 64; omega) (by omega) (by omega) hn) ⟨rfl, rfl, by simp only [rmP, rmR]; omega, by simp only [rmP, rmR]; omega⟩ ⟨by simp only [rmP, rmR]; omega, by simp only [rmP, rmR]; omega⟩ rfl 0 rfl rfl rfl (Nat.le_of_ble_eq_true rfl) dX7_proves_37 ?_
        intro _ _ hr; cases hr
        have hle := pvK_le κ en d fr (spl sz) (rm, row)
        simp only at hle
        refine J_callVv cx kX7_214 (As := [.long (rt κ 6 (fr + (spl sz)) (sz - (spl sz)))]) (tX7_adds l D g A ad κ th ch cm ((pvK κ en d fr (spl sz) (rm, row)).1) ((pvK κ en d fr (spl sz) (rm, row)).2)  (rt κ 6 (fr + (spl sz)) (sz - (spl sz))) (by omega)) ⟨rfl, rfl, by simp only [rmP, rmR]; omega, by simp only [rmP, rmR]; omega⟩ ⟨by simp only [rmP, rmR]; omega, by simp only [rmP, rmR]; omega⟩ rfl 0 rfl rfl rfl (Nat.le_of_ble_eq_true rfl) dX7_proves_40 ?_
        intro _ _
        refine J_goto cx (tgt := 70) dX7_proves_43 (by decide) ?_
        exact J_vret cx rfl (u := ()) trivial (by simp only [pvK, ad1, Bool.and_true, Bool.true_and, Bool.and_false, Bool.false_and, Bool.or_true, Bool.true_or, Bool.or_false, Bool.false_or, Bool.not_true, Bool.not_false, if_true, if_false, Bool.false_eq_true, decide_true, decide_false, ite_true, ite_false, ne_eq, not_true_eq_false, not_false_eq_true, xj, hq0, hq1]) (Nat.le_of_ble_eq_true rfl) (Nat.le_of_ble_eq_true rfl) dX7_proves_70
set_option maxHeartbeats 4000000 in
set_option maxRecDepth 100000 in
theorem tX7_grows (l : Launch) (D : va_G) (g : Nat → ClassId) (A : Nat → Prop) (ad : Nat → Nat) (κ : CS) (th : Int32) (ch : Nat → Nat) (cm : Nat)  (sm : Nat) : ∀ (d fr sz : Nat) (rm : Nat) (row : Nat → Int64), (1 ≤ sz) → (sz ≤ 2 ^ d) → (d ≤ 6) → (fr + sz ≤ κ.2.2.1 0) → (κ.2.2.1 0 ≤ 40) → (fr < sm) → (sm ≤ fr + sz) → (rm + d ≤ 38) → CtV l D g A yX7_grows cX7_grows 5 (rmG d) [.ref (ad 0), .int (nI sm), .int (nI fr), .int (nI sz)] (mW ad g κ th ch cm rm row) (mW ad g κ th ch cm ((gwK κ sm d fr sz (rm, row)).1) ((gwK κ sm d fr sz (rm, row)).2)) := by
  intro d; induction d with
  | zero => 
    intro fr sz rm row h1 hp hd hf hn he he2 hr
    refine metJ (by decide) (Nat.le_of_ble_eq_true rfl) ?_
    intro p e s m args below meth c _ _ cx
    refine J_iload_n cx dX7_grows_0 rfl 1 rfl ?_
    refine J_iload_n cx dX7_grows_1 rfl 2 rfl ?_
    refine J_iload_n cx dX7_grows_2 rfl 3 rfl ?_
    refine J_iadd cx dX7_grows_3 ?_
    refine J_top (v' := .int (nI (fr + sz))) (congrArg Value.int (nI_add fr sz)) ?_
    refine J_icmp_ne cx (tgt := 22) dX7_grows_4 (by decide) (fun c_1 => ?_) (fun c_1 => ?_)
    · have c_1 := (nat_ic_ne (by omega) (by omega)).mp c_1
      have c_1d := decide_eq_false c_1
      exfalso; simp at hp; omega
    · have c_1 := (nat_ic_ne_f (by omega) (by omega)).mp c_1
      have c_1d := decide_eq_true c_1
      refine J_iload_n cx dX7_grows_7 rfl 2 rfl ?_
      refine J_if_le cx (tgt := 21) dX7_grows_8 (by decide) (fun c_2 => ?_) (fun c_2 => ?_)
      · have c_2 := (nat_if_le (by omega)).mp c_2
        have hq0 : decide (0 < fr) = false := decide_eq_false (by omega)
        exact J_vret cx rfl (u := ()) trivial (by simp only [gwK, ad1, Bool.and_true, Bool.true_and, Bool.and_false, Bool.false_and, Bool.or_true, Bool.true_or, Bool.or_false, Bool.false_or, Bool.not_true, Bool.not_false, if_true, if_false, Bool.false_eq_true, decide_true, decide_false, ite_true, ite_false, ne_eq, not_true_eq_false, not_false_eq_true, xj, hq0]) (Nat.le_of_ble_eq_true rfl) (Nat.le_of_ble_eq_true rfl) dX7_grows_21
      · have c_2 := (nat_if_le_f (by omega)).mp c_2
        have hq0 : decide (0 < fr) = true := decide_eq_true (by omega)
        refine J_aload_n cx dX7_grows_11 rfl 0 rfl ?_
        refine J_aload_n cx dX7_grows_12 rfl 0 rfl ?_
        refine J_iload_n cx dX7_grows_13 rfl 2 rfl ?_
        refine J_iload_n cx dX7_grows_14 rfl 3 rfl ?_
        refine J_callVl cx kX7_192 (As := [.int (nI fr), .int (nI sz)]) (tX7_rootFrom l D g A ad κ th ch cm rm row 6 fr sz (by omega) (by show _ ≤ 64; omega) (by omega) (by omega) hn) ⟨rfl, rfl, by simp only [rmG, rmR]; omega, by simp only [rmG, rmR]; omega⟩ ⟨by simp only [rmG, rmR]; omega, by simp only [rmG, rmR]; omega⟩ rfl 0 rfl rfl rfl (Nat.le_of_ble_eq_true rfl) dX7_grows_15 ?_
        intro _ _ hr; cases hr
        refine J_callVv cx kX7_214 (As := [.long (rt κ 6 fr sz)]) (tX7_adds l D g A ad κ th ch cm rm row  (rt κ 6 fr sz) (by omega)) ⟨rfl, rfl, by simp only [rmG, rmR]; omega, by simp only [rmG, rmR]; omega⟩ ⟨by simp only [rmG, rmR]; omega, by simp only [rmG, rmR]; omega⟩ rfl 0 rfl rfl rfl (Nat.le_of_ble_eq_true rfl) dX7_grows_18 ?_
        intro _ _
        exact J_vret cx rfl (u := ()) trivial (by simp only [gwK, ad1, Bool.and_true, Bool.true_and, Bool.and_false, Bool.false_and, Bool.or_true, Bool.true_or, Bool.or_false, Bool.false_or, Bool.not_true, Bool.not_false, if_true, if_false, Bool.false_eq_true, decide_true, decide_false, ite_true, ite_false, ne_eq, not_true_eq_false, not_false_eq_true, xj, hq0]) (Nat.le_of_ble_eq_true rfl) (Nat.le_of_ble_eq_true rfl) dX7_grows_21
  | succ d ihd => 
    intro fr sz rm row h1 hp hd hf hn he he2 hr
    refine metJ (by decide) (Nat.le_of_ble_eq_true rfl) ?_
    intro p e s m args below meth c _ _ cx
    refine J_iload_n cx dX7_grows_0 rfl 1 rfl ?_
    refine J_iload_n cx dX7_grows_1 rfl 2 rfl ?_
    refine J_iload_n cx dX7_grows_2 rfl 3 rfl ?_
    refine J_iadd cx dX7_grows_3 ?_
    refine J_top (v' := .int (nI (fr + sz))) (congrArg Value.int (nI_add fr sz)) ?_
    refine J_icmp_ne cx (tgt := 22) dX7_grows_4 (by decide) (fun c_1 => ?_) (fun c_1 => ?_)
    · have c_1 := (nat_ic_ne (by omega) (by omega)).mp c_1
      have c_1d := decide_eq_false c_1
      have hq0 : decide (sm = fr + sz) = false := decide_eq_false (by omega)
      refine J_iload_n cx dX7_grows_22 rfl 3 rfl ?_
      refine J_callSi cx kX7_189 (As := [.int (nI sz)]) (tX7_split l D g A ad κ th ch cm rm row  sz (by first | assumption | omega)) ⟨rfl, rfl, by simp only [rmG, rmR]; omega, by simp only [rmG, rmR]; omega⟩ ⟨by simp only [rmG, rmR]; omega, by simp only [rmG, rmR]; omega⟩ rfl rfl (Nat.le_of_ble_eq_true rfl) dX7_grows_23 ?_
      intro _ _ hr; cases hr
      obtain ⟨hs1, hs2, hs3, hs4⟩ := spl_spec sz (by omega) (by omega)
      refine J_istore cx (L' := [(4, .int (nI (spl sz))), (0, .ref (ad 0)), (1, .int (nI sm)), (2, .int (nI fr)), (3, .int (nI sz))]) dX7_grows_26 (by decide) rfl ?_
      refine J_iload_n cx dX7_grows_28 rfl 2 rfl ?_
      refine J_iload_n cx dX7_grows_29 rfl 3 rfl ?_
      refine J_iload cx dX7_grows_30 0 rfl ?_
      refine J_iadd cx dX7_grows_32 ?_
      refine J_top (v' := .int (nI (fr + (spl sz)))) (congrArg Value.int (nI_add fr (spl sz))) ?_
      refine J_icmp_gt cx (tgt := 63) dX7_grows_33 (by decide) (fun c_2 => ?_) (fun c_2 => ?_)
      · have c_2 := (nat_ic_gt (by omega) (by omega)).mp c_2
        have c_2d := decide_eq_true c_2
        have hq1 : decide (fr + spl sz < sm) = true := decide_eq_true (by omega)
        refine J_aload_n cx dX7_grows_63 rfl 1 rfl ?_
        refine J_iload_n cx dX7_grows_64 rfl 2 rfl ?_
        refine J_iload_n cx dX7_grows_65 rfl 3 rfl ?_
        refine J_iload cx dX7_grows_66 0 rfl ?_
        refine J_iadd cx dX7_grows_68 ?_
        refine J_top (v' := .int (nI (fr + (spl sz)))) (congrArg Value.int (nI_add fr (spl sz))) ?_
        refine J_iload_n cx dX7_grows_69 rfl 4 rfl ?_
        refine J_iload cx dX7_grows_70 0 rfl ?_
        refine J_isub cx dX7_grows_72 ?_
        refine J_top (v' := .int (nI (sz - (spl sz)))) (congrArg Value.int (pk_sub (by omega))) ?_
        refine J_callVv cx kX7_224 (As := [.int (nI sm), .int (nI (fr + (spl sz))), .int (nI (sz - (spl sz)))]) (ihd (fr + (spl sz)) (sz - (spl sz)) rm row (by omega) (Nat.le_trans (by omega) (hs4 d (by omega) hp)) (by omega) (by omega) hn (by omega) (by omega) (by omega)) ⟨rfl, rfl, by simp only [rmG, rmR]; omega, by simp only [rmG, rmR]; omega⟩ ⟨by simp only [rmG, rmR]; omega, by simp only [rmG, rmR]; omega⟩ rfl 0 rfl rfl rfl (Nat.le_of_ble_eq_true rfl) dX7_grows_73 ?_
        intro _ _
        refine J_aload_n cx dX7_grows_76 rfl 1 rfl ?_
        refine J_aload_n cx dX7_grows_77 rfl 1 rfl ?_
        refine J_iload_n cx dX7_grows_78 rfl 3 rfl ?_
        refine J_iload cx dX7_grows_79 0 rfl ?_
        refine J_callVl cx kX7_192 (As := [.int (nI fr), .int (nI (spl sz))]) (tX7_rootFrom l D g A ad κ th ch cm ((gwK κ sm d (fr + (spl sz)) (sz - (spl sz)) (rm, row)).1) ((gwK κ sm d (fr + (spl sz)) (sz - (spl sz)) (rm, row)).2) 6 fr (spl sz) (by omega) (by show _ ≤ 64; omega) (by omega) (by omega) hn) ⟨rfl, rfl, by simp only [rmG, rmR]; omega, by simp only [rmG, rmR]; omega⟩ ⟨by simp only [rmG, rmR]; omega, by simp only [rmG, rmR]; omega⟩ rfl 0 rfl rfl rfl (Nat.le_of_ble_eq_true rfl) dX7_grows_81 ?_
        intro _ _ hr; cases hr
        have hle := gwK_le κ sm d (fr + (spl sz)) (sz - (spl sz)) (rm, row)
        simp only at hle
        refine J_callVv cx kX7_214 (As := [.long (rt κ 6 fr (spl sz))]) (tX7_adds l D g A ad κ th ch cm ((gwK κ sm d (fr + (spl sz)) (sz - (spl sz)) (rm, row)).1) ((gwK κ sm d (fr + (spl sz)) (sz - (spl sz)) (rm, row)).2)  (rt κ 6 fr (spl sz)) (by omega)) ⟨rfl, rfl, by simp only [rmG, rmR]; omega, by simp only [rmG, rmR]; omega⟩ ⟨by simp only [rmG, rmR]; omega, by simp only [rmG, rmR]; omega⟩ rfl 0 rfl rfl rfl (Nat.le_of_ble_eq_true rfl) dX7_grows_84 ?_
        intro _ _
        exact J_vret cx rfl (u := ()) trivial (by simp only [gwK, ad1, Bool.and_true, Bool.true_and, Bool.and_false, Bool.false_and, Bool.or_true, Bool.true_or, Bool.or_false, Bool.false_or, Bool.not_true, Bool.not_false, if_true, if_false, Bool.false_eq_true, decide_true, decide_false, ite_true, ite_false, ne_eq, not_true_eq_false, not_false_eq_true, xj, hq0, hq1]) (Nat.le_of_ble_eq_true rfl) (Nat.le_of_ble_eq_true rfl) dX7_grows_87
      · have c_2 := (nat_ic_gt_f (by omega) (by omega)).mp c_2
        have c_2d := decide_eq_false (Nat.not_lt.mpr c_2)
        have hq1 : decide (fr + spl sz < sm) = false := decide_eq_false (by omega)
        refine J_aload_n cx dX7_grows_36 rfl 1 rfl ?_
        refine J_iload_n cx dX7_grows_37 rfl 2 rfl ?_
        refine J_iload_n cx dX7_grows_38 rfl 3 rfl ?_
        refine J_iload cx dX7_grows_39 0 rfl ?_
        refine J_callVv cx kX7_224 (As := [.int (nI sm), .int (nI fr), .int (nI (spl sz))]) (ihd fr (spl sz) rm row hs1 (hs4 d (by omega) hp) (by omega) (by omega) hn (by omega) (by omega) (by omega)) ⟨rfl, rfl, by simp only [rmG, rmR]; omega, by simp only [rmG, rmR]; omega⟩ ⟨by simp only [rmG, rmR]; omega, by simp only [rmG, rmR]; omega⟩ rfl 0 rfl rfl rfl (Nat.le_of_ble_eq_true rfl) dX7_grows_41 ?_
        intro _ _
        refine J_aload_n cx dX7_grows_44 rfl 1 rfl ?_
        refine J_aload_n cx dX7_grows_45 rfl 1 rfl ?_
        refine J_iload_n cx dX7_grows_46 rfl 3 rfl ?_
        refine J_iload cx dX7_grows_47 0 rfl ?_
        refine J_iadd cx dX7_grows_49 ?_
        refine J_top (v' := .int (nI (fr + (spl sz)))) (congrArg Value.int (nI_add fr (spl sz))) ?_
        refine J_iload_n cx dX7_grows_50 rfl 4 rfl ?_
        refine J_iload cx dX7_grows_51 0 rfl ?_
        refine J_isub cx dX7_grows_53 ?_
        refine J_top (v' := .int (nI (sz - (spl sz)))) (congrArg Value.int (pk_sub (by omega))) ?_
        refine J_callVl cx kX7_192 (As := [.int (nI (fr + (spl sz))), .int (nI (sz - (spl sz)))]) (tX7_rootFrom l D g A ad κ th ch cm ((gwK κ sm d fr (spl sz) (rm, row)).1) ((gwK κ sm d fr (spl sz) (rm, row)).2) 6 (fr + (spl sz)) (sz - (spl sz)) (by omega) (by show _ ≤ 64; omega) (by omega) (by omega) hn) ⟨rfl, rfl, by simp only [rmG, rmR]; omega, by simp only [rmG, rmR]; omega⟩ ⟨by simp only [rmG, rmR]; omega, by simp only [rmG, rmR]; omega⟩ rfl 0 rfl rfl rfl (Nat.le_of_ble_eq_true rfl) dX7_grows_54 ?_
        intro _ _ hr; cases hr
        have hle := gwK_le κ sm d fr (spl sz) (rm, row)
        simp only at hle
        refine J_callVv cx kX7_214 (As := [.long (rt κ 6 (fr + (spl sz)) (sz - (spl sz)))]) (tX7_adds l D g A ad κ th ch cm ((gwK κ sm d fr (spl sz) (rm, row)).1) ((gwK κ sm d fr (spl sz) (rm, row)).2)  (rt κ 6 (fr + (spl sz)) (sz - (spl sz))) (by omega)) ⟨rfl, rfl, by simp only [rmG, rmR]; omega, by simp only [rmG, rmR]; omega⟩ ⟨by simp only [rmG, rmR]; omega, by simp only [rmG, rmR]; omega⟩ rfl 0 rfl rfl rfl (Nat.le_of_ble_eq_true rfl) dX7_grows_57 ?_
        intro _ _
        refine J_goto cx (tgt := 87) dX7_grows_60 (by decide) ?_
        exact J_vret cx rfl (u := ()) trivial (by simp only [gwK, ad1, Bool.and_true, Bool.true_and, Bool.and_false, Bool.false_and, Bool.or_true, Bool.true_or, Bool.or_false, Bool.false_or, Bool.not_true, Bool.not_false, if_true, if_false, Bool.false_eq_true, decide_true, decide_false, ite_true, ite_false, ne_eq, not_true_eq_false, not_false_eq_true, xj, hq0, hq1]) (Nat.le_of_ble_eq_true rfl) (Nat.le_of_ble_eq_true rfl) dX7_grows_87
    · have c_1 := (nat_ic_ne_f (by omega) (by omega)).mp c_1
      have c_1d := decide_eq_true c_1
      have hq0 : decide (sm = fr + sz) = true := decide_eq_true (by omega)
      refine J_iload_n cx dX7_grows_7 rfl 2 rfl ?_
      refine J_if_le cx (tgt := 21) dX7_grows_8 (by decide) (fun c_3 => ?_) (fun c_3 => ?_)
      · have c_3 := (nat_if_le (by omega)).mp c_3
        have hq1 : decide (0 < fr) = false := decide_eq_false (by omega)
        exact J_vret cx rfl (u := ()) trivial (by simp only [gwK, ad1, Bool.and_true, Bool.true_and, Bool.and_false, Bool.false_and, Bool.or_true, Bool.true_or, Bool.or_false, Bool.false_or, Bool.not_true, Bool.not_false, if_true, if_false, Bool.false_eq_true, decide_true, decide_false, ite_true, ite_false, ne_eq, not_true_eq_false, not_false_eq_true, xj, hq0, hq1]) (Nat.le_of_ble_eq_true rfl) (Nat.le_of_ble_eq_true rfl) dX7_grows_21
      · have c_3 := (nat_if_le_f (by omega)).mp c_3
        have hq1 : decide (0 < fr) = true := decide_eq_true (by omega)
        refine J_aload_n cx dX7_grows_11 rfl 0 rfl ?_
        refine J_aload_n cx dX7_grows_12 rfl 0 rfl ?_
        refine J_iload_n cx dX7_grows_13 rfl 2 rfl ?_
        refine J_iload_n cx dX7_grows_14 rfl 3 rfl ?_
        refine J_callVl cx kX7_192 (As := [.int (nI fr), .int (nI sz)]) (tX7_rootFrom l D g A ad κ th ch cm rm row 6 fr sz (by omega) (by show _ ≤ 64; omega) (by omega) (by omega) hn) ⟨rfl, rfl, by simp only [rmG, rmR]; omega, by simp only [rmG, rmR]; omega⟩ ⟨by simp only [rmG, rmR]; omega, by simp only [rmG, rmR]; omega⟩ rfl 0 rfl rfl rfl (Nat.le_of_ble_eq_true rfl) dX7_grows_15 ?_
        intro _ _ hr; cases hr
        refine J_callVv cx kX7_214 (As := [.long (rt κ 6 fr sz)]) (tX7_adds l D g A ad κ th ch cm rm row  (rt κ 6 fr sz) (by omega)) ⟨rfl, rfl, by simp only [rmG, rmR]; omega, by simp only [rmG, rmR]; omega⟩ ⟨by simp only [rmG, rmR]; omega, by simp only [rmG, rmR]; omega⟩ rfl 0 rfl rfl rfl (Nat.le_of_ble_eq_true rfl) dX7_grows_18 ?_
        intro _ _
        exact J_vret cx rfl (u := ()) trivial (by simp only [gwK, ad1, Bool.and_true, Bool.true_and, Bool.and_false, Bool.false_and, Bool.or_true, Bool.true_or, Bool.or_false, Bool.false_or, Bool.not_true, Bool.not_false, if_true, if_false, Bool.false_eq_true, decide_true, decide_false, ite_true, ite_false, ne_eq, not_true_eq_false, not_false_eq_true, xj, hq0, hq1]) (Nat.le_of_ble_eq_true rfl) (Nat.le_of_ble_eq_true rfl) dX7_grows_21
