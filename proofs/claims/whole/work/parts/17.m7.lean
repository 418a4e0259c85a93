set_option maxHeartbeats 4000000 in
set_option maxRecDepth 100000 in
theorem tX7_refusal_c (l : Launch) (D : va_G) (g : Nat → ClassId) (A : Nat → Prop) (ad : Nat → Nat) (κ : CS) (th : Int32) (ch : Nat → Nat) (cm rm : Nat) (row : Nat → Int64)  (sz : Nat) (nx : Nat) (on : Int32) (hI : InvM κ) (hs : sz ≤ 8) (hs1 : 1 ≤ sz) (hw : ∀ z, z < sz → ch z < κ.2.2.1 0) (hx : nx < κ.2.2.1 0) : CtI l D g A yX7_refusal cX7_refusal 6 .char ({ frames := 2, cells := 0, slots := 0, locals := 47 } : Room) [.ref (ad 0), .ref (ad 15), .int (nI sz), .int (nI nx), .int on] (mW ad g κ th ch cm rm row) (nI (refC κ ch sz nx on)) (mW ad g κ th ch cm rm row) := by
  have hn := hI.1
  refine metJ (by decide) (Nat.le_of_ble_eq_true rfl) ?_
  intro p e s m args below meth c _ _ cx
  refine J_iconst cx (v := nI 0) dX7_refusal_0 (by decide) ?_
  refine J_istore cx (L' := [(5, .int (nI 0)), (0, .ref (ad 0)), (1, .ref (ad 15)), (2, .int (nI sz)), (3, .int (nI nx)), (4, .int on)]) dX7_refusal_1 (by decide) rfl ?_
  have LP : ∀ (fu : Nat) (k : Nat), (k ≤ sz) → (anyN (inW (ch) nx) k = false) → sz - k < fu → J p l e ({ frames := 2, cells := 0, slots := 0, locals := 47 } : Room) s m args below meth c D A 6 (MQ below (va_Qi (fun (r : Int32) (_ : Unit) => r = (nI (refC κ ch sz nx on))) (fun _ => PO D A (mW ad g κ th ch cm rm row)) A) args s 0 0 A) 0 0 (mW ad g κ th ch cm rm row) [(5, .int (nI k)), (0, .ref (ad 0)), (1, .ref (ad 15)), (2, .int (nI sz)), (3, .int (nI nx)), (4, .int on)] 3 [] := by
    intro fu; induction fu with
    | zero => intro k hk hno hfu; exact absurd hfu (Nat.not_lt_zero _)
    | succ fu ih =>
      intro k hk hno hfu
      refine J_iload cx dX7_refusal_3 0 rfl ?_
      refine J_iload_n cx dX7_refusal_5 rfl 3 rfl ?_
      refine J_icmp_ge cx (tgt := 26) dX7_refusal_6 (by decide) (fun c_1 => ?_) (fun c_1 => ?_)
      · have c_1 := (nat_ic_ge (by omega) (by omega)).mp c_1
        have c_1d := decide_eq_true c_1
        have hz : anyN (inW (ch) nx) sz = false := by rw [← show k = sz from by omega]; exact hno
        refine J_aload_n cx dX7_refusal_26 rfl 1 rfl ?_
        refine J_iload_n cx dX7_refusal_27 rfl 4 rfl ?_
        refine J_iload cx dX7_refusal_28 5 rfl ?_
        refine J_callVi cx kX7_135 (As := [.int (nI nx), .int on]) (tX7_isValid l D g A ad κ th ch cm rm row  nx on (by first | assumption | omega)) ⟨rfl, rfl, by decide, by decide⟩ ⟨by decide, by decide⟩ rfl 0 rfl rfl rfl (Nat.le_of_ble_eq_true rfl) dX7_refusal_30 ?_
        intro _ _ hr; cases hr
        refine J_ifz_eq cx (tgt := 46) dX7_refusal_33 (by decide) (fun c_2 => ?_) (fun c_2 => ?_)
        · refine J_aload_n cx dX7_refusal_46 rfl 1 rfl ?_
          refine J_iload_n cx dX7_refusal_47 rfl 4 rfl ?_
          refine J_iload cx dX7_refusal_48 5 rfl ?_
          refine J_callVi cx kX7_135 (As := [.int (nI nx), .int on]) (tX7_isValid l D g A ad κ th ch cm rm row  nx on (by first | assumption | omega)) ⟨rfl, rfl, by decide, by decide⟩ ⟨by decide, by decide⟩ rfl 0 rfl rfl rfl (Nat.le_of_ble_eq_true rfl) dX7_refusal_50 ?_
          intro _ _ hr; cases hr
          refine J_ifz_eq cx (tgt := 61) dX7_refusal_53 (by decide) (fun _ => ?_) (fun h => absurd (c_2.symm.trans h) (by decide))
          refine J_bipush cx (v := nI 116) dX7_refusal_61 (by decide) ?_
          exact J_zret cx rfl (u := ()) (by decide) (by simp [refC, c_1, c_1d, hz, c_2]) rfl (Nat.le_of_ble_eq_true rfl) (Nat.le_of_ble_eq_true rfl) dX7_refusal_63
        · refine J_aload_n cx dX7_refusal_36 rfl 1 rfl ?_
          refine J_iload_n cx dX7_refusal_37 rfl 4 rfl ?_
          refine J_iload cx dX7_refusal_38 5 rfl ?_
          refine J_callVi cx kX7_123 (As := [.int (nI nx), .int on]) (tX7_isOff l D g A ad κ th ch cm rm row  nx on (by first | assumption | omega)) ⟨rfl, rfl, by decide, by decide⟩ ⟨by decide, by decide⟩ rfl 0 rfl rfl rfl (Nat.le_of_ble_eq_true rfl) dX7_refusal_40 ?_
          intro _ _ hr; cases hr
          refine J_ifz_eq cx (tgt := 64) dX7_refusal_43 (by decide) (fun c_4 => ?_) (fun c_4 => ?_)
          · refine J_aload_n cx dX7_refusal_64 rfl 1 rfl ?_
            refine J_get cx (v := .ref (ad 11)) fX7_40 0 rfl rfl dX7_refusal_65 ?_
            refine J_iload_n cx dX7_refusal_68 rfl 4 rfl ?_
            refine J_zald cx (j := nx) (f := fun i => zb (κ.2.1 0 i)) 11 rfl rfl (by omega) (by decide) dX7_refusal_69 ?_
            refine J_ifz_eq cx (tgt := 85) dX7_refusal_70 (by decide) (fun c_5 => ?_) (fun c_5 => ?_)
            · refine J_aload_n cx dX7_refusal_85 rfl 1 rfl ?_
              refine J_get cx (v := .ref (ad 11)) fX7_40 0 rfl rfl dX7_refusal_86 ?_
              refine J_iload_n cx dX7_refusal_89 rfl 4 rfl ?_
              refine J_zald cx (j := nx) (f := fun i => zb (κ.2.1 0 i)) 11 rfl rfl (by omega) (by decide) dX7_refusal_90 ?_
              refine J_ifz_eq cx (tgt := 99) dX7_refusal_91 (by decide) (fun _ => ?_) (fun h => absurd (c_5.symm.trans h) (by decide))
              refine J_bipush cx (v := nI 97) dX7_refusal_99 (by decide) ?_
              exact J_zret cx rfl (u := ()) (by decide) (by simp [refC, c_1, c_1d, hz, c_2, c_4, c_5]) rfl (Nat.le_of_ble_eq_true rfl) (Nat.le_of_ble_eq_true rfl) dX7_refusal_101
            · refine J_aload_n cx dX7_refusal_73 rfl 1 rfl ?_
              refine J_get cx (v := .ref (ad 7)) fX7_28 0 rfl rfl dX7_refusal_74 ?_
              refine J_iload_n cx dX7_refusal_77 rfl 4 rfl ?_
              refine J_iald cx (j := nx) (f := κ.1 6) 7 rfl rfl (by omega) (by decide) dX7_refusal_78 ?_
              refine J_iload_n cx dX7_refusal_79 rfl 3 rfl ?_
              refine J_iconst cx (v := nI 1) dX7_refusal_80 (by decide) ?_
              refine J_isub cx dX7_refusal_81 ?_
              refine J_top (v' := .int (nI (sz - 1))) (congrArg Value.int (pk_sub (by omega))) ?_
              refine J_icmp_ge cx (tgt := 102) dX7_refusal_82 (by decide) (fun c_7 => ?_) (fun c_7 => ?_)
              · have c_7d := decide_eq_true c_7
                have c_7c := decide_eq_false (Int32.not_lt.mpr c_7)
                refine J_aload_n cx dX7_refusal_102 rfl 1 rfl ?_
                refine J_aload_n cx dX7_refusal_103 rfl 2 rfl ?_
                refine J_iload_n cx dX7_refusal_104 rfl 3 rfl ?_
                refine J_iload_n cx dX7_refusal_105 rfl 4 rfl ?_
                refine J_callVi cx kX7_138 (As := [.ref (ad 15), .int (nI sz), .int (nI nx)]) (tX7_fitsNames_c l D g A ad κ th ch cm rm row  sz nx (by first | assumption | omega) (by first | assumption | omega) (by first | assumption | omega) (by first | assumption | omega)) ⟨rfl, rfl, by decide, by decide⟩ ⟨by decide, by decide⟩ rfl 0 rfl rfl rfl (Nat.le_of_ble_eq_true rfl) dX7_refusal_106 ?_
                intro _ _ hr; cases hr
                refine J_ifz_eq cx (tgt := 117) dX7_refusal_109 (by decide) (fun c_8 => ?_) (fun c_8 => ?_)
                · refine J_bipush cx (v := nI 110) dX7_refusal_117 (by decide) ?_
                  exact J_zret cx rfl (u := ()) (by decide) (by simp [refC, c_1, c_1d, hz, c_2, c_4, c_5, c_7, c_7d, c_7c, c_8]) rfl (Nat.le_of_ble_eq_true rfl) (Nat.le_of_ble_eq_true rfl) dX7_refusal_119
                · refine J_bipush cx (v := nI 111) dX7_refusal_112 (by decide) ?_
                  refine J_goto cx (tgt := 119) dX7_refusal_114 (by decide) ?_
                  exact J_zret cx rfl (u := ()) (by decide) (by simp [refC, c_1, c_1d, hz, c_2, c_4, c_5, c_7, c_7d, c_7c, c_8]) rfl (Nat.le_of_ble_eq_true rfl) (Nat.le_of_ble_eq_true rfl) dX7_refusal_119
              · have c_7d := decide_eq_false c_7
                have c_7c := decide_eq_true (Int32.not_le.mp c_7)
                refine J_aload_n cx dX7_refusal_85 rfl 1 rfl ?_
                refine J_get cx (v := .ref (ad 11)) fX7_40 0 rfl rfl dX7_refusal_86 ?_
                refine J_iload_n cx dX7_refusal_89 rfl 4 rfl ?_
                refine J_zald cx (j := nx) (f := fun i => zb (κ.2.1 0 i)) 11 rfl rfl (by omega) (by decide) dX7_refusal_90 ?_
                refine J_ifz_eq cx (tgt := 99) dX7_refusal_91 (by decide) (fun h => absurd (c_5.symm.trans h) (by decide)) (fun _ => ?_)
                refine J_bipush cx (v := nI 108) dX7_refusal_94 (by decide) ?_
                refine J_goto cx (tgt := 101) dX7_refusal_96 (by decide) ?_
                exact J_zret cx rfl (u := ()) (by decide) (by simp [refC, c_1, c_1d, hz, c_2, c_4, c_5, c_7, c_7d, c_7c]) rfl (Nat.le_of_ble_eq_true rfl) (Nat.le_of_ble_eq_true rfl) dX7_refusal_101
          · refine J_aload_n cx dX7_refusal_46 rfl 1 rfl ?_
            refine J_iload_n cx dX7_refusal_47 rfl 4 rfl ?_
            refine J_iload cx dX7_refusal_48 5 rfl ?_
            refine J_callVi cx kX7_135 (As := [.int (nI nx), .int on]) (tX7_isValid l D g A ad κ th ch cm rm row  nx on (by first | assumption | omega)) ⟨rfl, rfl, by decide, by decide⟩ ⟨by decide, by decide⟩ rfl 0 rfl rfl rfl (Nat.le_of_ble_eq_true rfl) dX7_refusal_50 ?_
            intro _ _ hr; cases hr
            refine J_ifz_eq cx (tgt := 61) dX7_refusal_53 (by decide) (fun h => absurd (c_2.symm.trans h) (by decide)) (fun _ => ?_)
            refine J_bipush cx (v := nI 114) dX7_refusal_56 (by decide) ?_
            refine J_goto cx (tgt := 63) dX7_refusal_58 (by decide) ?_
            exact J_zret cx rfl (u := ()) (by decide) (by simp [refC, c_1, c_1d, hz, c_2, c_4]) rfl (Nat.le_of_ble_eq_true rfl) (Nat.le_of_ble_eq_true rfl) dX7_refusal_63
      · have c_1 := (nat_ic_ge_f (by omega) (by omega)).mp c_1
        have c_1d := decide_eq_false (Nat.not_le.mpr c_1)
        have hwk := hw k c_1
        refine J_aload_n cx dX7_refusal_9 rfl 2 rfl ?_
        refine J_iload cx dX7_refusal_10 0 rfl ?_
        refine J_iald cx (j := k) (f := fun i => nI (ch i)) 15 rfl rfl (by omega) (by decide) dX7_refusal_12 ?_
        refine J_iload_n cx dX7_refusal_13 rfl 4 rfl ?_
        refine J_icmp_ne cx (tgt := 20) dX7_refusal_14 (by decide) (fun c_11 => ?_) (fun c_11 => ?_)
        · have c_11 := (nat_ic_ne (by omega) (by omega)).mp c_11
          have c_11d := decide_eq_false c_11
          refine J_iinc cx (v := (nI (k + 1))) (L' := [(5, .int (nI (k + 1))), (0, .ref (ad 0)), (1, .ref (ad 15)), (2, .int (nI sz)), (3, .int (nI nx)), (4, .int on)]) dX7_refusal_20 0 rfl (by exact nI_add k 1) (by decide) rfl ?_
          refine J_goto cx (tgt := 3) dX7_refusal_23 (by decide) ?_
          refine J_L [0, 1, 2, 3, 4, 5] rfl ?_
          exact ih (k + 1) (by omega) (by rw [← any_f (p := inW (ch) nx) (by simp [inW, c_1, c_1d, c_11, c_11d])]; simp [hno]) (by omega)
        · have c_11 := (nat_ic_ne_f (by omega) (by omega)).mp c_11
          have c_11d := decide_eq_true c_11
          refine J_bipush cx (v := nI 120) dX7_refusal_17 (by decide) ?_
          exact J_zret cx rfl (u := ()) (by decide) (by rw [refC, show anyN (inW (ch) nx) sz = true from anyN_true (k := k) (by omega) (by simp [inW, c_1, c_1d, c_11d])]; rfl) rfl (Nat.le_of_ble_eq_true rfl) (Nat.le_of_ble_eq_true rfl) dX7_refusal_19
  refine J_L [0, 1, 2, 3, 4, 5] rfl ?_
  exact LP _ 0 (by omega) rfl (Nat.lt_succ_self _)
set_option maxHeartbeats 4000000 in
set_option maxRecDepth 100000 in
theorem tX7_refusal_w (l : Launch) (D : va_G) (g : Nat → ClassId) (A : Nat → Prop) (ad : Nat → Nat) (κ : CS) (th : Int32) (ch : Nat → Nat) (cm rm : Nat) (row : Nat → Int64)  (sz : Nat) (nx : Nat) (on : Int32) (hI : InvM κ) (hs : sz ≤ 40) (hs1 : 1 ≤ sz) (hw : ∀ z, z < sz → κ.2.2.2.1 z < κ.2.2.1 0) (hx : nx < κ.2.2.1 0) : CtI l D g A yX7_refusal cX7_refusal 6 .char ({ frames := 2, cells := 0, slots := 0, locals := 47 } : Room) [.ref (ad 0), .ref (ad 16), .int (nI sz), .int (nI nx), .int on] (mW ad g κ th ch cm rm row) (nI (refC κ κ.2.2.2.1 sz nx on)) (mW ad g κ th ch cm rm row) := by
  have hn := hI.1
  refine metJ (by decide) (Nat.le_of_ble_eq_true rfl) ?_
  intro p e s m args below meth c _ _ cx
  refine J_iconst cx (v := nI 0) dX7_refusal_0 (by decide) ?_
  refine J_istore cx (L' := [(5, .int (nI 0)), (0, .ref (ad 0)), (1, .ref (ad 16)), (2, .int (nI sz)), (3, .int (nI nx)), (4, .int on)]) dX7_refusal_1 (by decide) rfl ?_
  have LP : ∀ (fu : Nat) (k : Nat), (k ≤ sz) → (anyN (inW (κ.2.2.2.1) nx) k = false) → sz - k < fu → J p l e ({ frames := 2, cells := 0, slots := 0, locals := 47 } : Room) s m args below meth c D A 6 (MQ below (va_Qi (fun (r : Int32) (_ : Unit) => r = (nI (refC κ κ.2.2.2.1 sz nx on))) (fun _ => PO D A (mW ad g κ th ch cm rm row)) A) args s 0 0 A) 0 0 (mW ad g κ th ch cm rm row) [(5, .int (nI k)), (0, .ref (ad 0)), (1, .ref (ad 16)), (2, .int (nI sz)), (3, .int (nI nx)), (4, .int on)] 3 [] := by
    intro fu; induction fu with
    | zero => intro k hk hno hfu; exact absurd hfu (Nat.not_lt_zero _)
    | succ fu ih =>
      intro k hk hno hfu
      refine J_iload cx dX7_refusal_3 0 rfl ?_
      refine J_iload_n cx dX7_refusal_5 rfl 3 rfl ?_
      refine J_icmp_ge cx (tgt := 26) dX7_refusal_6 (by decide) (fun c_1 => ?_) (fun c_1 => ?_)
      · have c_1 := (nat_ic_ge (by omega) (by omega)).mp c_1
        have c_1d := decide_eq_true c_1
        have hz : anyN (inW (κ.2.2.2.1) nx) sz = false := by rw [← show k = sz from by omega]; exact hno
        refine J_aload_n cx dX7_refusal_26 rfl 1 rfl ?_
        refine J_iload_n cx dX7_refusal_27 rfl 4 rfl ?_
        refine J_iload cx dX7_refusal_28 5 rfl ?_
        refine J_callVi cx kX7_135 (As := [.int (nI nx), .int on]) (tX7_isValid l D g A ad κ th ch cm rm row  nx on (by first | assumption | omega)) ⟨rfl, rfl, by decide, by decide⟩ ⟨by decide, by decide⟩ rfl 0 rfl rfl rfl (Nat.le_of_ble_eq_true rfl) dX7_refusal_30 ?_
        intro _ _ hr; cases hr
        refine J_ifz_eq cx (tgt := 46) dX7_refusal_33 (by decide) (fun c_2 => ?_) (fun c_2 => ?_)
        · refine J_aload_n cx dX7_refusal_46 rfl 1 rfl ?_
          refine J_iload_n cx dX7_refusal_47 rfl 4 rfl ?_
          refine J_iload cx dX7_refusal_48 5 rfl ?_
          refine J_callVi cx kX7_135 (As := [.int (nI nx), .int on]) (tX7_isValid l D g A ad κ th ch cm rm row  nx on (by first | assumption | omega)) ⟨rfl, rfl, by decide, by decide⟩ ⟨by decide, by decide⟩ rfl 0 rfl rfl rfl (Nat.le_of_ble_eq_true rfl) dX7_refusal_50 ?_
          intro _ _ hr; cases hr
          refine J_ifz_eq cx (tgt := 61) dX7_refusal_53 (by decide) (fun _ => ?_) (fun h => absurd (c_2.symm.trans h) (by decide))
          refine J_bipush cx (v := nI 116) dX7_refusal_61 (by decide) ?_
          exact J_zret cx rfl (u := ()) (by decide) (by simp [refC, c_1, c_1d, hz, c_2]) rfl (Nat.le_of_ble_eq_true rfl) (Nat.le_of_ble_eq_true rfl) dX7_refusal_63
        · refine J_aload_n cx dX7_refusal_36 rfl 1 rfl ?_
          refine J_iload_n cx dX7_refusal_37 rfl 4 rfl ?_
          refine J_iload cx dX7_refusal_38 5 rfl ?_
          refine J_callVi cx kX7_123 (As := [.int (nI nx), .int on]) (tX7_isOff l D g A ad κ th ch cm rm row  nx on (by first | assumption | omega)) ⟨rfl, rfl, by decide, by decide⟩ ⟨by decide, by decide⟩ rfl 0 rfl rfl rfl (Nat.le_of_ble_eq_true rfl) dX7_refusal_40 ?_
          intro _ _ hr; cases hr
          refine J_ifz_eq cx (tgt := 64) dX7_refusal_43 (by decide) (fun c_4 => ?_) (fun c_4 => ?_)
          · refine J_aload_n cx dX7_refusal_64 rfl 1 rfl ?_
            refine J_get cx (v := .ref (ad 11)) fX7_40 0 rfl rfl dX7_refusal_65 ?_
            refine J_iload_n cx dX7_refusal_68 rfl 4 rfl ?_
            refine J_zald cx (j := nx) (f := fun i => zb (κ.2.1 0 i)) 11 rfl rfl (by omega) (by decide) dX7_refusal_69 ?_
            refine J_ifz_eq cx (tgt := 85) dX7_refusal_70 (by decide) (fun c_5 => ?_) (fun c_5 => ?_)
            · refine J_aload_n cx dX7_refusal_85 rfl 1 rfl ?_
              refine J_get cx (v := .ref (ad 11)) fX7_40 0 rfl rfl dX7_refusal_86 ?_
              refine J_iload_n cx dX7_refusal_89 rfl 4 rfl ?_
              refine J_zald cx (j := nx) (f := fun i => zb (κ.2.1 0 i)) 11 rfl rfl (by omega) (by decide) dX7_refusal_90 ?_
              refine J_ifz_eq cx (tgt := 99) dX7_refusal_91 (by decide) (fun _ => ?_) (fun h => absurd (c_5.symm.trans h) (by decide))
              refine J_bipush cx (v := nI 97) dX7_refusal_99 (by decide) ?_
              exact J_zret cx rfl (u := ()) (by decide) (by simp [refC, c_1, c_1d, hz, c_2, c_4, c_5]) rfl (Nat.le_of_ble_eq_true rfl) (Nat.le_of_ble_eq_true rfl) dX7_refusal_101
            · refine J_aload_n cx dX7_refusal_73 rfl 1 rfl ?_
              refine J_get cx (v := .ref (ad 7)) fX7_28 0 rfl rfl dX7_refusal_74 ?_
              refine J_iload_n cx dX7_refusal_77 rfl 4 rfl ?_
              refine J_iald cx (j := nx) (f := κ.1 6) 7 rfl rfl (by omega) (by decide) dX7_refusal_78 ?_
              refine J_iload_n cx dX7_refusal_79 rfl 3 rfl ?_
              refine J_iconst cx (v := nI 1) dX7_refusal_80 (by decide) ?_
              refine J_isub cx dX7_refusal_81 ?_
              refine J_top (v' := .int (nI (sz - 1))) (congrArg Value.int (pk_sub (by omega))) ?_
              refine J_icmp_ge cx (tgt := 102) dX7_refusal_82 (by decide) (fun c_7 => ?_) (fun c_7 => ?_)
              · have c_7d := decide_eq_true c_7
                have c_7c := decide_eq_false (Int32.not_lt.mpr c_7)
                refine J_aload_n cx dX7_refusal_102 rfl 1 rfl ?_
                refine J_aload_n cx dX7_refusal_103 rfl 2 rfl ?_
                refine J_iload_n cx dX7_refusal_104 rfl 3 rfl ?_
                refine J_iload_n cx dX7_refusal_105 rfl 4 rfl ?_
                refine J_callVi cx kX7_138 (As := [.ref (ad 16), .int (nI sz), .int (nI nx)]) (tX7_fitsNames_w l D g A ad κ th ch cm rm row  sz nx (by first | assumption | omega) (by first | assumption | omega) (by first | assumption | omega) (by first | assumption | omega)) ⟨rfl, rfl, by decide, by decide⟩ ⟨by decide, by decide⟩ rfl 0 rfl rfl rfl (Nat.le_of_ble_eq_true rfl) dX7_refusal_106 ?_
                intro _ _ hr; cases hr
                refine J_ifz_eq cx (tgt := 117) dX7_refusal_109 (by decide) (fun c_8 => ?_) (fun c_8 => ?_)
                · refine J_bipush cx (v := nI 110) dX7_refusal_117 (by decide) ?_
                  exact J_zret cx rfl (u := ()) (by decide) (by simp [refC, c_1, c_1d, hz, c_2, c_4, c_5, c_7, c_7d, c_7c, c_8]) rfl (Nat.le_of_ble_eq_true rfl) (Nat.le_of_ble_eq_true rfl) dX7_refusal_119
                · refine J_bipush cx (v := nI 111) dX7_refusal_112 (by decide) ?_
                  refine J_goto cx (tgt := 119) dX7_refusal_114 (by decide) ?_
                  exact J_zret cx rfl (u := ()) (by decide) (by simp [refC, c_1, c_1d, hz, c_2, c_4, c_5, c_7, c_7d, c_7c, c_8]) rfl (Nat.le_of_ble_eq_true rfl) (Nat.le_of_ble_eq_true rfl) dX7_refusal_119
              · have c_7d := decide_eq_false c_7
                have c_7c := decide_eq_true (Int32.not_le.mp c_7)
                refine J_aload_n cx dX7_refusal_85 rfl 1 rfl ?_
                refine J_get cx (v := .ref (ad 11)) fX7_40 0 rfl rfl dX7_refusal_86 ?_
                refine J_iload_n cx dX7_refusal_89 rfl 4 rfl ?_
                refine J_zald cx (j := nx) (f := fun i => zb (κ.2.1 0 i)) 11 rfl rfl (by omega) (by decide) dX7_refusal_90 ?_
                refine J_ifz_eq cx (tgt := 99) dX7_refusal_91 (by decide) (fun h => absurd (c_5.symm.trans h) (by decide)) (fun _ => ?_)
                refine J_bipush cx (v := nI 108) dX7_refusal_94 (by decide) ?_
                refine J_goto cx (tgt := 101) dX7_refusal_96 (by decide) ?_
                exact J_zret cx rfl (u := ()) (by decide) (by simp [refC, c_1, c_1d, hz, c_2, c_4, c_5, c_7, c_7d, c_7c]) rfl (Nat.le_of_ble_eq_true rfl) (Nat.le_of_ble_eq_true rfl) dX7_refusal_101
          · refine J_aload_n cx dX7_refusal_46 rfl 1 rfl ?_
            refine J_iload_n cx dX7_refusal_47 rfl 4 rfl ?_
            refine J_iload cx dX7_refusal_48 5 rfl ?_
            refine J_callVi cx kX7_135 (As := [.int (nI nx), .int on]) (tX7_isValid l D g A ad κ th ch cm rm row  nx on (by first | assumption | omega)) ⟨rfl, rfl, by decide, by decide⟩ ⟨by decide, by decide⟩ rfl 0 rfl rfl rfl (Nat.le_of_ble_eq_true rfl) dX7_refusal_50 ?_
            intro _ _ hr; cases hr
            refine J_ifz_eq cx (tgt := 61) dX7_refusal_53 (by decide) (fun h => absurd (c_2.symm.trans h) (by decide)) (fun _ => ?_)
            refine J_bipush cx (v := nI 114) dX7_refusal_56 (by decide) ?_
            refine J_goto cx (tgt := 63) dX7_refusal_58 (by decide) ?_
            exact J_zret cx rfl (u := ()) (by decide) (by simp [refC, c_1, c_1d, hz, c_2, c_4]) rfl (Nat.le_of_ble_eq_true rfl) (Nat.le_of_ble_eq_true rfl) dX7_refusal_63
      · have c_1 := (nat_ic_ge_f (by omega) (by omega)).mp c_1
        have c_1d := decide_eq_false (Nat.not_le.mpr c_1)
        have hwk := hw k c_1
        refine J_aload_n cx dX7_refusal_9 rfl 2 rfl ?_
        refine J_iload cx dX7_refusal_10 0 rfl ?_
        refine J_iald cx (j := k) (f := fun i => nI (κ.2.2.2.1 i)) 16 rfl rfl (by omega) (by decide) dX7_refusal_12 ?_
        refine J_iload_n cx dX7_refusal_13 rfl 4 rfl ?_
        refine J_icmp_ne cx (tgt := 20) dX7_refusal_14 (by decide) (fun c_11 => ?_) (fun c_11 => ?_)
        · have c_11 := (nat_ic_ne (by omega) (by omega)).mp c_11
          have c_11d := decide_eq_false c_11
          refine J_iinc cx (v := (nI (k + 1))) (L' := [(5, .int (nI (k + 1))), (0, .ref (ad 0)), (1, .ref (ad 16)), (2, .int (nI sz)), (3, .int (nI nx)), (4, .int on)]) dX7_refusal_20 0 rfl (by exact nI_add k 1) (by decide) rfl ?_
          refine J_goto cx (tgt := 3) dX7_refusal_23 (by decide) ?_
          refine J_L [0, 1, 2, 3, 4, 5] rfl ?_
          exact ih (k + 1) (by omega) (by rw [← any_f (p := inW (κ.2.2.2.1) nx) (by simp [inW, c_1, c_1d, c_11, c_11d])]; simp [hno]) (by omega)
        · have c_11 := (nat_ic_ne_f (by omega) (by omega)).mp c_11
          have c_11d := decide_eq_true c_11
          refine J_bipush cx (v := nI 120) dX7_refusal_17 (by decide) ?_
          exact J_zret cx rfl (u := ()) (by decide) (by rw [refC, show anyN (inW (κ.2.2.2.1) nx) sz = true from anyN_true (k := k) (by omega) (by simp [inW, c_1, c_1d, c_11d])]; rfl) rfl (Nat.le_of_ble_eq_true rfl) (Nat.le_of_ble_eq_true rfl) dX7_refusal_19
  refine J_L [0, 1, 2, 3, 4, 5] rfl ?_
  exact LP _ 0 (by omega) rfl (Nat.lt_succ_self _)
