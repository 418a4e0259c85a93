set_option maxHeartbeats 4000000 in
set_option maxRecDepth 100000 in
theorem tX7_canBegin (l : Launch) (D : va_G) (g : Nat → ClassId) (A : Nat → Prop) (ad : Nat → Nat) (κ : CS) (th : Int32) (ch : Nat → Nat) (cm rm : Nat) (row : Nat → Int64)  (i : Nat) (on : Int32) (hi : i < 40) : CtI l D g A yX7_canBegin cX7_canBegin 3 .boolean ({ frames := 2, cells := 0, slots := 0, locals := 44 } : Room) [.ref (ad 0), .int (nI i), .int on] (mW ad g κ th ch cm rm row) (zb (beginB κ i on)) (mW ad g κ th ch cm rm row) := by
  refine metJ (by decide) (Nat.le_of_ble_eq_true rfl) ?_
  intro p e s m args below meth c _ _ cx
  refine J_aload_n cx dX7_canBegin_0 rfl 0 rfl ?_
  refine J_iload_n cx dX7_canBegin_1 rfl 1 rfl ?_
  refine J_iload_n cx dX7_canBegin_2 rfl 2 rfl ?_
  refine J_callVi cx kX7_135 (As := [.int (nI i), .int on]) (tX7_isValid l D g A ad κ th ch cm rm row  i on (by first | assumption | omega)) ⟨rfl, rfl, by decide, by decide⟩ ⟨by decide, by decide⟩ rfl 0 rfl rfl rfl (Nat.le_of_ble_eq_true rfl) dX7_canBegin_3 ?_
  intro _ _ hr; cases hr
  refine J_ifz_eq cx (tgt := 22) dX7_canBegin_6 (by decide) (fun c_1 => ?_) (fun c_1 => ?_)
  · refine J_iconst cx (v := nI 0) dX7_canBegin_22 (by decide) ?_
    exact J_zret cx rfl (u := ()) (rfl) (by simp [beginB, zb, c_1]) rfl (Nat.le_of_ble_eq_true rfl) (Nat.le_of_ble_eq_true rfl) dX7_canBegin_23
  · refine J_aload_n cx dX7_canBegin_9 rfl 0 rfl ?_
    refine J_iload_n cx dX7_canBegin_10 rfl 1 rfl ?_
    refine J_iload_n cx dX7_canBegin_11 rfl 2 rfl ?_
    refine J_callVi cx kX7_123 (As := [.int (nI i), .int on]) (tX7_isOff l D g A ad κ th ch cm rm row  i on (by first | assumption | omega)) ⟨rfl, rfl, by decide, by decide⟩ ⟨by decide, by decide⟩ rfl 0 rfl rfl rfl (Nat.le_of_ble_eq_true rfl) dX7_canBegin_12 ?_
    intro _ _ hr; cases hr
    refine J_ifz_ne cx (tgt := 22) dX7_canBegin_15 (by decide) (fun c_2 => ?_) (fun c_2 => ?_)
    · refine J_iconst cx (v := nI 0) dX7_canBegin_22 (by decide) ?_
      exact J_zret cx rfl (u := ()) (rfl) (by simp [beginB, zb, c_1, c_2]) rfl (Nat.le_of_ble_eq_true rfl) (Nat.le_of_ble_eq_true rfl) dX7_canBegin_23
    · refine J_iconst cx (v := nI 1) dX7_canBegin_18 (by decide) ?_
      refine J_goto cx (tgt := 23) dX7_canBegin_19 (by decide) ?_
      exact J_zret cx rfl (u := ()) (rfl) (by simp [beginB, zb, c_1, c_2]) rfl (Nat.le_of_ble_eq_true rfl) (Nat.le_of_ble_eq_true rfl) dX7_canBegin_23
set_option maxHeartbeats 4000000 in
set_option maxRecDepth 100000 in
theorem tX7_fitsNames_c (l : Launch) (D : va_G) (g : Nat → ClassId) (A : Nat → Prop) (ad : Nat → Nat) (κ : CS) (th : Int32) (ch : Nat → Nat) (cm rm : Nat) (row : Nat → Int64)  (sz : Nat) (nx : Nat) (hI : InvM κ) (hs : sz ≤ 8) (hw : ∀ z, z < sz → ch z < κ.2.2.1 0) (hx : nx < κ.2.2.1 0) : CtI l D g A yX7_fitsNames cX7_fitsNames 6 .boolean ({ frames := 1, cells := 0, slots := 0, locals := 22 } : Room) [.ref (ad 0), .ref (ad 15), .int (nI sz), .int (nI nx)] (mW ad g κ th ch cm rm row) (zb (fitsB κ ch sz nx)) (mW ad g κ th ch cm rm row) := by
  have hn := hI.1
  refine metJ (by decide) (Nat.le_of_ble_eq_true rfl) ?_
  intro p e s m args below meth c _ _ cx
  refine J_iconst cx (v := nI 1) dX7_fitsNames_0 (by decide) ?_
  refine J_istore cx (L' := [(4, .int (nI 1)), (0, .ref (ad 0)), (1, .ref (ad 15)), (2, .int (nI sz)), (3, .int (nI nx))]) dX7_fitsNames_1 (by decide) rfl ?_
  refine J_iconst cx (v := nI 0) dX7_fitsNames_3 (by decide) ?_
  refine J_istore cx (L' := [(5, .int (nI 0)), (4, .int (nI 1)), (0, .ref (ad 0)), (1, .ref (ad 15)), (2, .int (nI sz)), (3, .int (nI nx))]) dX7_fitsNames_4 (by decide) rfl ?_
  have LP : ∀ (fu : Nat) (k : Nat), (k ≤ sz) → sz - k < fu → J p l e ({ frames := 1, cells := 0, slots := 0, locals := 22 } : Room) s m args below meth c D A 6 (MQ below (va_Qi (fun (r : Int32) (_ : Unit) => r = (zb (fitsB κ ch sz nx))) (fun _ => PO D A (mW ad g κ th ch cm rm row)) A) args s 0 0 A) 0 0 (mW ad g κ th ch cm rm row) [(4, .int (zb (allN (fun z => okN κ nx (ch z)) k))), (5, .int (nI k)), (0, .ref (ad 0)), (1, .ref (ad 15)), (2, .int (nI sz)), (3, .int (nI nx))] 6 [] := by
    intro fu; induction fu with
    | zero => intro k hk hfu; exact absurd hfu (Nat.not_lt_zero _)
    | succ fu ih =>
      intro k hk hfu
      refine J_iload cx dX7_fitsNames_6 1 rfl ?_
      refine J_iload_n cx dX7_fitsNames_8 rfl 4 rfl ?_
      refine J_icmp_ge cx (tgt := 98) dX7_fitsNames_9 (by decide) (fun c_1 => ?_) (fun c_1 => ?_)
      · have c_1 := (nat_ic_ge (by omega) (by omega)).mp c_1
        have c_1d := decide_eq_true c_1
        refine J_iload cx dX7_fitsNames_98 0 rfl ?_
        exact J_zret cx rfl (u := ()) (zb_nar _) (by rw [show k = sz from by omega]; rfl) rfl (Nat.le_of_ble_eq_true rfl) (Nat.le_of_ble_eq_true rfl) dX7_fitsNames_100
      · have c_1 := (nat_ic_ge_f (by omega) (by omega)).mp c_1
        have c_1d := decide_eq_false (Nat.not_le.mpr c_1)
        obtain ⟨a, ha1, ha2, hae⟩ := hI.2.1 _ (hw k c_1)
        refine J_iload cx dX7_fitsNames_12 0 rfl ?_
        refine J_aload_n cx dX7_fitsNames_14 rfl 2 rfl ?_
        refine J_get cx (v := .ref (ad 8)) fX7_31 0 rfl rfl dX7_fitsNames_15 ?_
        refine J_iload_n cx dX7_fitsNames_18 rfl 5 rfl ?_
        refine J_iald cx (j := nx) (f := κ.1 7) 8 rfl rfl (by have := hI.1; omega) (by decide) dX7_fitsNames_19 ?_
        refine J_if_eq cx (tgt := 44) dX7_fitsNames_20 (by decide) (fun c_2 => ?_) (fun c_2 => ?_)
        · have c_2d := decide_eq_true c_2
          refine J_iconst cx (v := nI 1) dX7_fitsNames_44 (by decide) ?_
          refine J_goto cx (tgt := 49) dX7_fitsNames_45 (by decide) ?_
          refine J_iand cx dX7_fitsNames_49 ?_
          refine J_top (v' := .int (zb ((allN (fun z => okN κ nx (ch z)) k) && true))) (congrArg Value.int (zb_and (allN (fun z => okN κ nx (ch z)) k) true)) ?_
          refine J_istore cx (L' := [(4, .int (zb ((allN (fun z => okN κ nx (ch z)) k) && true))), (5, .int (nI k)), (0, .ref (ad 0)), (1, .ref (ad 15)), (2, .int (nI sz)), (3, .int (nI nx))]) dX7_fitsNames_50 (by decide) rfl ?_
          refine J_iload cx dX7_fitsNames_52 0 rfl ?_
          refine J_aload_n cx dX7_fitsNames_54 rfl 2 rfl ?_
          refine J_get cx (v := .ref (ad 9)) fX7_34 0 rfl rfl dX7_fitsNames_55 ?_
          refine J_iload_n cx dX7_fitsNames_58 rfl 5 rfl ?_
          refine J_iald cx (j := nx) (f := κ.1 8) 9 rfl rfl (by have := hI.1; omega) (by decide) dX7_fitsNames_59 ?_
          refine J_if_eq cx (tgt := 84) dX7_fitsNames_60 (by decide) (fun c_3 => ?_) (fun c_3 => ?_)
          · have c_3d := decide_eq_true c_3
            refine J_iconst cx (v := nI 1) dX7_fitsNames_84 (by decide) ?_
            refine J_goto cx (tgt := 89) dX7_fitsNames_85 (by decide) ?_
            refine J_iand cx dX7_fitsNames_89 ?_
            refine J_top (v' := .int (zb (((allN (fun z => okN κ nx (ch z)) k) && true) && true))) (congrArg Value.int (zb_and ((allN (fun z => okN κ nx (ch z)) k) && true) true)) ?_
            refine J_top (v' := .int (zb (allN (fun z => okN κ nx (ch z)) (k + 1)))) (congrArg (fun z => Value.int (zb z)) (by simp [allN, okN, c_1, c_1d, c_2d, c_3d])) ?_
            refine J_istore cx (L' := [(4, .int (zb (allN (fun z => okN κ nx (ch z)) (k + 1)))), (5, .int (nI k)), (0, .ref (ad 0)), (1, .ref (ad 15)), (2, .int (nI sz)), (3, .int (nI nx))]) dX7_fitsNames_90 (by decide) rfl ?_
            refine J_iinc cx (v := (nI (k + 1))) (L' := [(5, .int (nI (k + 1))), (4, .int (zb (allN (fun z => okN κ nx (ch z)) (k + 1)))), (0, .ref (ad 0)), (1, .ref (ad 15)), (2, .int (nI sz)), (3, .int (nI nx))]) dX7_fitsNames_92 1 rfl (by exact nI_add k 1) (by decide) rfl ?_
            refine J_goto cx (tgt := 6) dX7_fitsNames_95 (by decide) ?_
            refine J_L [1, 0, 2, 3, 4, 5] rfl ?_
            exact ih (k + 1) (by omega) (by omega)
          · have c_3d := decide_eq_false c_3
            obtain ⟨b2, hd1, hd2, hde⟩ := (hI.2.2.2.1 nx hx).resolve_left c_3
            have hdq : belowB (κ.1 0 (ch k)) (κ.1 8 nx) = und 10 a b2 := by rw [hae, hde, belowB_nI (by omega) (by omega)]
            refine J_aload_n cx dX7_fitsNames_63 rfl 2 rfl ?_
            refine J_get cx (v := .ref (ad 1)) fX7_9 0 rfl rfl dX7_fitsNames_64 ?_
            refine J_aload_n cx dX7_fitsNames_67 rfl 3 rfl ?_
            refine J_iload cx dX7_fitsNames_68 1 rfl ?_
            refine J_iald cx (j := k) (f := fun i => nI (ch i)) 15 rfl rfl (by omega) (by decide) dX7_fitsNames_70 ?_
            refine J_iald cx (j := (ch k)) (f := κ.1 0) 1 rfl rfl (by have := hI.1; have := hw k c_1; omega) (by decide) dX7_fitsNames_71 ?_
            refine J_top (v' := .int (nI a)) (congrArg Value.int hae) ?_
            refine J_aload_n cx dX7_fitsNames_72 rfl 2 rfl ?_
            refine J_get cx (v := .ref (ad 9)) fX7_34 0 rfl rfl dX7_fitsNames_73 ?_
            refine J_iload_n cx dX7_fitsNames_76 rfl 5 rfl ?_
            refine J_iald cx (j := nx) (f := κ.1 8) 9 rfl rfl (by have := hI.1; omega) (by decide) dX7_fitsNames_77 ?_
            refine J_top (v' := .int (nI b2)) (congrArg Value.int hde) ?_
            refine J_callSi cx kX7_116 (As := [.int (nI a), .int (nI b2)]) (tX7_isUnder l D g A ad κ th ch cm rm row  a b2 (by first | assumption | omega) (by first | assumption | omega)) ⟨rfl, rfl, by decide, by decide⟩ ⟨by decide, by decide⟩ rfl rfl (Nat.le_of_ble_eq_true rfl) dX7_fitsNames_78 ?_
            intro _ _ hr; cases hr
            refine J_ifz_ne cx (tgt := 88) dX7_fitsNames_81 (by decide) (fun c_4 => ?_) (fun c_4 => ?_)
            · refine J_iconst cx (v := nI 0) dX7_fitsNames_88 (by decide) ?_
              refine J_iand cx dX7_fitsNames_89 ?_
              refine J_top (v' := .int (zb (((allN (fun z => okN κ nx (ch z)) k) && true) && false))) (congrArg Value.int (zb_and ((allN (fun z => okN κ nx (ch z)) k) && true) false)) ?_
              refine J_top (v' := .int (zb (allN (fun z => okN κ nx (ch z)) (k + 1)))) (congrArg (fun z => Value.int (zb z)) (by simp [allN, okN, c_1, c_1d, c_2d, c_3, c_3d, hdq, c_4])) ?_
              refine J_istore cx (L' := [(4, .int (zb (allN (fun z => okN κ nx (ch z)) (k + 1)))), (5, .int (nI k)), (0, .ref (ad 0)), (1, .ref (ad 15)), (2, .int (nI sz)), (3, .int (nI nx))]) dX7_fitsNames_90 (by decide) rfl ?_
              refine J_iinc cx (v := (nI (k + 1))) (L' := [(5, .int (nI (k + 1))), (4, .int (zb (allN (fun z => okN κ nx (ch z)) (k + 1)))), (0, .ref (ad 0)), (1, .ref (ad 15)), (2, .int (nI sz)), (3, .int (nI nx))]) dX7_fitsNames_92 1 rfl (by exact nI_add k 1) (by decide) rfl ?_
              refine J_goto cx (tgt := 6) dX7_fitsNames_95 (by decide) ?_
              refine J_L [1, 0, 2, 3, 4, 5] rfl ?_
              exact ih (k + 1) (by omega) (by omega)
            · refine J_iconst cx (v := nI 1) dX7_fitsNames_84 (by decide) ?_
              refine J_goto cx (tgt := 89) dX7_fitsNames_85 (by decide) ?_
              refine J_iand cx dX7_fitsNames_89 ?_
              refine J_top (v' := .int (zb (((allN (fun z => okN κ nx (ch z)) k) && true) && true))) (congrArg Value.int (zb_and ((allN (fun z => okN κ nx (ch z)) k) && true) true)) ?_
              refine J_top (v' := .int (zb (allN (fun z => okN κ nx (ch z)) (k + 1)))) (congrArg (fun z => Value.int (zb z)) (by simp [allN, okN, c_1, c_1d, c_2d, c_3, c_3d, hdq, c_4])) ?_
              refine J_istore cx (L' := [(4, .int (zb (allN (fun z => okN κ nx (ch z)) (k + 1)))), (5, .int (nI k)), (0, .ref (ad 0)), (1, .ref (ad 15)), (2, .int (nI sz)), (3, .int (nI nx))]) dX7_fitsNames_90 (by decide) rfl ?_
              refine J_iinc cx (v := (nI (k + 1))) (L' := [(5, .int (nI (k + 1))), (4, .int (zb (allN (fun z => okN κ nx (ch z)) (k + 1)))), (0, .ref (ad 0)), (1, .ref (ad 15)), (2, .int (nI sz)), (3, .int (nI nx))]) dX7_fitsNames_92 1 rfl (by exact nI_add k 1) (by decide) rfl ?_
              refine J_goto cx (tgt := 6) dX7_fitsNames_95 (by decide) ?_
              refine J_L [1, 0, 2, 3, 4, 5] rfl ?_
              exact ih (k + 1) (by omega) (by omega)
        · have c_2d := decide_eq_false c_2
          obtain ⟨b1, hb1, hb2, hbe⟩ := (hI.2.2.1 nx hx).resolve_left c_2
          have hbq : belowB (κ.1 0 (ch k)) (κ.1 7 nx) = und 10 a b1 := by rw [hae, hbe, belowB_nI (by omega) (by omega)]
          refine J_aload_n cx dX7_fitsNames_23 rfl 2 rfl ?_
          refine J_get cx (v := .ref (ad 1)) fX7_9 0 rfl rfl dX7_fitsNames_24 ?_
          refine J_aload_n cx dX7_fitsNames_27 rfl 3 rfl ?_
          refine J_iload cx dX7_fitsNames_28 1 rfl ?_
          refine J_iald cx (j := k) (f := fun i => nI (ch i)) 15 rfl rfl (by omega) (by decide) dX7_fitsNames_30 ?_
          refine J_iald cx (j := (ch k)) (f := κ.1 0) 1 rfl rfl (by have := hI.1; have := hw k c_1; omega) (by decide) dX7_fitsNames_31 ?_
          refine J_top (v' := .int (nI a)) (congrArg Value.int hae) ?_
          refine J_aload_n cx dX7_fitsNames_32 rfl 2 rfl ?_
          refine J_get cx (v := .ref (ad 8)) fX7_31 0 rfl rfl dX7_fitsNames_33 ?_
          refine J_iload_n cx dX7_fitsNames_36 rfl 5 rfl ?_
          refine J_iald cx (j := nx) (f := κ.1 7) 8 rfl rfl (by have := hI.1; omega) (by decide) dX7_fitsNames_37 ?_
          refine J_top (v' := .int (nI b1)) (congrArg Value.int hbe) ?_
          refine J_callSi cx kX7_116 (As := [.int (nI a), .int (nI b1)]) (tX7_isUnder l D g A ad κ th ch cm rm row  a b1 (by first | assumption | omega) (by first | assumption | omega)) ⟨rfl, rfl, by decide, by decide⟩ ⟨by decide, by decide⟩ rfl rfl (Nat.le_of_ble_eq_true rfl) dX7_fitsNames_38 ?_
          intro _ _ hr; cases hr
          refine J_ifz_eq cx (tgt := 48) dX7_fitsNames_41 (by decide) (fun c_5 => ?_) (fun c_5 => ?_)
          · refine J_iconst cx (v := nI 0) dX7_fitsNames_48 (by decide) ?_
            refine J_iand cx dX7_fitsNames_49 ?_
            refine J_top (v' := .int (zb ((allN (fun z => okN κ nx (ch z)) k) && false))) (congrArg Value.int (zb_and (allN (fun z => okN κ nx (ch z)) k) false)) ?_
            refine J_istore cx (L' := [(4, .int (zb ((allN (fun z => okN κ nx (ch z)) k) && false))), (5, .int (nI k)), (0, .ref (ad 0)), (1, .ref (ad 15)), (2, .int (nI sz)), (3, .int (nI nx))]) dX7_fitsNames_50 (by decide) rfl ?_
            refine J_iload cx dX7_fitsNames_52 0 rfl ?_
            refine J_aload_n cx dX7_fitsNames_54 rfl 2 rfl ?_
            refine J_get cx (v := .ref (ad 9)) fX7_34 0 rfl rfl dX7_fitsNames_55 ?_
            refine J_iload_n cx dX7_fitsNames_58 rfl 5 rfl ?_
            refine J_iald cx (j := nx) (f := κ.1 8) 9 rfl rfl (by have := hI.1; omega) (by decide) dX7_fitsNames_59 ?_
            refine J_if_eq cx (tgt := 84) dX7_fitsNames_60 (by decide) (fun c_6 => ?_) (fun c_6 => ?_)
            · have c_6d := decide_eq_true c_6
              refine J_iconst cx (v := nI 1) dX7_fitsNames_84 (by decide) ?_
              refine J_goto cx (tgt := 89) dX7_fitsNames_85 (by decide) ?_
              refine J_iand cx dX7_fitsNames_89 ?_
              refine J_top (v' := .int (zb (((allN (fun z => okN κ nx (ch z)) k) && false) && true))) (congrArg Value.int (zb_and ((allN (fun z => okN κ nx (ch z)) k) && false) true)) ?_
              refine J_top (v' := .int (zb (allN (fun z => okN κ nx (ch z)) (k + 1)))) (congrArg (fun z => Value.int (zb z)) (by simp [allN, okN, c_1, c_1d, c_2, c_2d, hbq, c_5, c_6d])) ?_
              refine J_istore cx (L' := [(4, .int (zb (allN (fun z => okN κ nx (ch z)) (k + 1)))), (5, .int (nI k)), (0, .ref (ad 0)), (1, .ref (ad 15)), (2, .int (nI sz)), (3, .int (nI nx))]) dX7_fitsNames_90 (by decide) rfl ?_
              refine J_iinc cx (v := (nI (k + 1))) (L' := [(5, .int (nI (k + 1))), (4, .int (zb (allN (fun z => okN κ nx (ch z)) (k + 1)))), (0, .ref (ad 0)), (1, .ref (ad 15)), (2, .int (nI sz)), (3, .int (nI nx))]) dX7_fitsNames_92 1 rfl (by exact nI_add k 1) (by decide) rfl ?_
              refine J_goto cx (tgt := 6) dX7_fitsNames_95 (by decide) ?_
              refine J_L [1, 0, 2, 3, 4, 5] rfl ?_
              exact ih (k + 1) (by omega) (by omega)
            · have c_6d := decide_eq_false c_6
              obtain ⟨b2, hd1, hd2, hde⟩ := (hI.2.2.2.1 nx hx).resolve_left c_6
              have hdq : belowB (κ.1 0 (ch k)) (κ.1 8 nx) = und 10 a b2 := by rw [hae, hde, belowB_nI (by omega) (by omega)]
              refine J_aload_n cx dX7_fitsNames_63 rfl 2 rfl ?_
              refine J_get cx (v := .ref (ad 1)) fX7_9 0 rfl rfl dX7_fitsNames_64 ?_
              refine J_aload_n cx dX7_fitsNames_67 rfl 3 rfl ?_
              refine J_iload cx dX7_fitsNames_68 1 rfl ?_
              refine J_iald cx (j := k) (f := fun i => nI (ch i)) 15 rfl rfl (by omega) (by decide) dX7_fitsNames_70 ?_
              refine J_iald cx (j := (ch k)) (f := κ.1 0) 1 rfl rfl (by have := hI.1; have := hw k c_1; omega) (by decide) dX7_fitsNames_71 ?_
              refine J_top (v' := .int (nI a)) (congrArg Value.int hae) ?_
              refine J_aload_n cx dX7_fitsNames_72 rfl 2 rfl ?_
              refine J_get cx (v := .ref (ad 9)) fX7_34 0 rfl rfl dX7_fitsNames_73 ?_
              refine J_iload_n cx dX7_fitsNames_76 rfl 5 rfl ?_
              refine J_iald cx (j := nx) (f := κ.1 8) 9 rfl rfl (by have := hI.1; omega) (by decide) dX7_fitsNames_77 ?_
              refine J_top (v' := .int (nI b2)) (congrArg Value.int hde) ?_
              refine J_callSi cx kX7_116 (As := [.int (nI a), .int (nI b2)]) (tX7_isUnder l D g A ad κ th ch cm rm row  a b2 (by first | assumption | omega) (by first | assumption | omega)) ⟨rfl, rfl, by decide, by decide⟩ ⟨by decide, by decide⟩ rfl rfl (Nat.le_of_ble_eq_true rfl) dX7_fitsNames_78 ?_
              intro _ _ hr; cases hr
              refine J_ifz_ne cx (tgt := 88) dX7_fitsNames_81 (by decide) (fun c_7 => ?_) (fun c_7 => ?_)
              · refine J_iconst cx (v := nI 0) dX7_fitsNames_88 (by decide) ?_
                refine J_iand cx dX7_fitsNames_89 ?_
                refine J_top (v' := .int (zb (((allN (fun z => okN κ nx (ch z)) k) && false) && false))) (congrArg Value.int (zb_and ((allN (fun z => okN κ nx (ch z)) k) && false) false)) ?_
                refine J_top (v' := .int (zb (allN (fun z => okN κ nx (ch z)) (k + 1)))) (congrArg (fun z => Value.int (zb z)) (by simp [allN, okN, c_1, c_1d, c_2, c_2d, hbq, c_5, c_6, c_6d, hdq, c_7])) ?_
                refine J_istore cx (L' := [(4, .int (zb (allN (fun z => okN κ nx (ch z)) (k + 1)))), (5, .int (nI k)), (0, .ref (ad 0)), (1, .ref (ad 15)), (2, .int (nI sz)), (3, .int (nI nx))]) dX7_fitsNames_90 (by decide) rfl ?_
                refine J_iinc cx (v := (nI (k + 1))) (L' := [(5, .int (nI (k + 1))), (4, .int (zb (allN (fun z => okN κ nx (ch z)) (k + 1)))), (0, .ref (ad 0)), (1, .ref (ad 15)), (2, .int (nI sz)), (3, .int (nI nx))]) dX7_fitsNames_92 1 rfl (by exact nI_add k 1) (by decide) rfl ?_
                refine J_goto cx (tgt := 6) dX7_fitsNames_95 (by decide) ?_
                refine J_L [1, 0, 2, 3, 4, 5] rfl ?_
                exact ih (k + 1) (by omega) (by omega)
              · refine J_iconst cx (v := nI 1) dX7_fitsNames_84 (by decide) ?_
                refine J_goto cx (tgt := 89) dX7_fitsNames_85 (by decide) ?_
                refine J_iand cx dX7_fitsNames_89 ?_
                refine J_top (v' := .int (zb (((allN (fun z => okN κ nx (ch z)) k) && false) && true))) (congrArg Value.int (zb_and ((allN (fun z => okN κ nx (ch z)) k) && false) true)) ?_
                refine J_top (v' := .int (zb (allN (fun z => okN κ nx (ch z)) (k + 1)))) (congrArg (fun z => Value.int (zb z)) (by simp [allN, okN, c_1, c_1d, c_2, c_2d, hbq, c_5, c_6, c_6d, hdq, c_7])) ?_
                refine J_istore cx (L' := [(4, .int (zb (allN (fun z => okN κ nx (ch z)) (k + 1)))), (5, .int (nI k)), (0, .ref (ad 0)), (1, .ref (ad 15)), (2, .int (nI sz)), (3, .int (nI nx))]) dX7_fitsNames_90 (by decide) rfl ?_
                refine J_iinc cx (v := (nI (k + 1))) (L' := [(5, .int (nI (k + 1))), (4, .int (zb (allN (fun z => okN κ nx (ch z)) (k + 1)))), (0, .ref (ad 0)), (1, .ref (ad 15)), (2, .int (nI sz)), (3, .int (nI nx))]) dX7_fitsNames_92 1 rfl (by exact nI_add k 1) (by decide) rfl ?_
                refine J_goto cx (tgt := 6) dX7_fitsNames_95 (by decide) ?_
                refine J_L [1, 0, 2, 3, 4, 5] rfl ?_
                exact ih (k + 1) (by omega) (by omega)
          · refine J_iconst cx (v := nI 1) dX7_fitsNames_44 (by decide) ?_
            refine J_goto cx (tgt := 49) dX7_fitsNames_45 (by decide) ?_
            refine J_iand cx dX7_fitsNames_49 ?_
            refine J_top (v' := .int (zb ((allN (fun z => okN κ nx (ch z)) k) && true))) (congrArg Value.int (zb_and (allN (fun z => okN κ nx (ch z)) k) true)) ?_
            refine J_istore cx (L' := [(4, .int (zb ((allN (fun z => okN κ nx (ch z)) k) && true))), (5, .int (nI k)), (0, .ref (ad 0)), (1, .ref (ad 15)), (2, .int (nI sz)), (3, .int (nI nx))]) dX7_fitsNames_50 (by decide) rfl ?_
            refine J_iload cx dX7_fitsNames_52 0 rfl ?_
            refine J_aload_n cx dX7_fitsNames_54 rfl 2 rfl ?_
            refine J_get cx (v := .ref (ad 9)) fX7_34 0 rfl rfl dX7_fitsNames_55 ?_
            refine J_iload_n cx dX7_fitsNames_58 rfl 5 rfl ?_
            refine J_iald cx (j := nx) (f := κ.1 8) 9 rfl rfl (by have := hI.1; omega) (by decide) dX7_fitsNames_59 ?_
            refine J_if_eq cx (tgt := 84) dX7_fitsNames_60 (by decide) (fun c_8 => ?_) (fun c_8 => ?_)
            · have c_8d := decide_eq_true c_8
              refine J_iconst cx (v := nI 1) dX7_fitsNames_84 (by decide) ?_
              refine J_goto cx (tgt := 89) dX7_fitsNames_85 (by decide) ?_
              refine J_iand cx dX7_fitsNames_89 ?_
              refine J_top (v' := .int (zb (((allN (fun z => okN κ nx (ch z)) k) && true) && true))) (congrArg Value.int (zb_and ((allN (fun z => okN κ nx (ch z)) k) && true) true)) ?_
              refine J_top (v' := .int (zb (allN (fun z => okN κ nx (ch z)) (k + 1)))) (congrArg (fun z => Value.int (zb z)) (by simp [allN, okN, c_1, c_1d, c_2, c_2d, hbq, c_5, c_8d])) ?_
              refine J_istore cx (L' := [(4, .int (zb (allN (fun z => okN κ nx (ch z)) (k + 1)))), (5, .int (nI k)), (0, .ref (ad 0)), (1, .ref (ad 15)), (2, .int (nI sz)), (3, .int (nI nx))]) dX7_fitsNames_90 (by decide) rfl ?_
              refine J_iinc cx (v := (nI (k + 1))) (L' := [(5, .int (nI (k + 1))), (4, .int (zb (allN (fun z => okN κ nx (ch z)) (k + 1)))), (0, .ref (ad 0)), (1, .ref (ad 15)), (2, .int (nI sz)), (3, .int (nI nx))]) dX7_fitsNames_92 1 rfl (by exact nI_add k 1) (by decide) rfl ?_
              refine J_goto cx (tgt := 6) dX7_fitsNames_95 (by decide) ?_
              refine J_L [1, 0, 2, 3, 4, 5] rfl ?_
              exact ih (k + 1) (by omega) (by omega)
            · have c_8d := decide_eq_false c_8
              obtain ⟨b2, hd1, hd2, hde⟩ := (hI.2.2.2.1 nx hx).resolve_left c_8
              have hdq : belowB (κ.1 0 (ch k)) (κ.1 8 nx) = und 10 a b2 := by rw [hae, hde, belowB_nI (by omega) (by omega)]
              refine J_aload_n cx dX7_fitsNames_63 rfl 2 rfl ?_
              refine J_get cx (v := .ref (ad 1)) fX7_9 0 rfl rfl dX7_fitsNames_64 ?_
              refine J_aload_n cx dX7_fitsNames_67 rfl 3 rfl ?_
              refine J_iload cx dX7_fitsNames_68 1 rfl ?_
              refine J_iald cx (j := k) (f := fun i => nI (ch i)) 15 rfl rfl (by omega) (by decide) dX7_fitsNames_70 ?_
              refine J_iald cx (j := (ch k)) (f := κ.1 0) 1 rfl rfl (by have := hI.1; have := hw k c_1; omega) (by decide) dX7_fitsNames_71 ?_
              refine J_top (v' := .int (nI a)) (congrArg Value.int hae) ?_
              refine J_aload_n cx dX7_fitsNames_72 rfl 2 rfl ?_
              refine J_get cx (v := .ref (ad 9)) fX7_34 0 rfl rfl dX7_fitsNames_73 ?_
              refine J_iload_n cx dX7_fitsNames_76 rfl 5 rfl ?_
              refine J_iald cx (j := nx) (f := κ.1 8) 9 rfl rfl (by have := hI.1; omega) (by decide) dX7_fitsNames_77 ?_
              refine J_top (v' := .int (nI b2)) (congrArg Value.int hde) ?_
              refine J_callSi cx kX7_116 (As := [.int (nI a), .int (nI b2)]) (tX7_isUnder l D g A ad κ th ch cm rm row  a b2 (by first | assumption | omega) (by first | assumption | omega)) ⟨rfl, rfl, by decide, by decide⟩ ⟨by decide, by decide⟩ rfl rfl (Nat.le_of_ble_eq_true rfl) dX7_fitsNames_78 ?_
              intro _ _ hr; cases hr
              refine J_ifz_ne cx (tgt := 88) dX7_fitsNames_81 (by decide) (fun c_9 => ?_) (fun c_9 => ?_)
              · refine J_iconst cx (v := nI 0) dX7_fitsNames_88 (by decide) ?_
                refine J_iand cx dX7_fitsNames_89 ?_
                refine J_top (v' := .int (zb (((allN (fun z => okN κ nx (ch z)) k) && true) && false))) (congrArg Value.int (zb_and ((allN (fun z => okN κ nx (ch z)) k) && true) false)) ?_
                refine J_top (v' := .int (zb (allN (fun z => okN κ nx (ch z)) (k + 1)))) (congrArg (fun z => Value.int (zb z)) (by simp [allN, okN, c_1, c_1d, c_2, c_2d, hbq, c_5, c_8, c_8d, hdq, c_9])) ?_
                refine J_istore cx (L' := [(4, .int (zb (allN (fun z => okN κ nx (ch z)) (k + 1)))), (5, .int (nI k)), (0, .ref (ad 0)), (1, .ref (ad 15)), (2, .int (nI sz)), (3, .int (nI nx))]) dX7_fitsNames_90 (by decide) rfl ?_
                refine J_iinc cx (v := (nI (k + 1))) (L' := [(5, .int (nI (k + 1))), (4, .int (zb (allN (fun z => okN κ nx (ch z)) (k + 1)))), (0, .ref (ad 0)), (1, .ref (ad 15)), (2, .int (nI sz)), (3, .int (nI nx))]) dX7_fitsNames_92 1 rfl (by exact nI_add k 1) (by decide) rfl ?_
                refine J_goto cx (tgt := 6) dX7_fitsNames_95 (by decide) ?_
                refine J_L [1, 0, 2, 3, 4, 5] rfl ?_
                exact ih (k + 1) (by omega) (by omega)
              · refine J_iconst cx (v := nI 1) dX7_fitsNames_84 (by decide) ?_
                refine J_goto cx (tgt := 89) dX7_fitsNames_85 (by decide) ?_
                refine J_iand cx dX7_fitsNames_89 ?_
                refine J_top (v' := .int (zb (((allN (fun z => okN κ nx (ch z)) k) && true) && true))) (congrArg Value.int (zb_and ((allN (fun z => okN κ nx (ch z)) k) && true) true)) ?_
                refine J_top (v' := .int (zb (allN (fun z => okN κ nx (ch z)) (k + 1)))) (congrArg (fun z => Value.int (zb z)) (by simp [allN, okN, c_1, c_1d, c_2, c_2d, hbq, c_5, c_8, c_8d, hdq, c_9])) ?_
                refine J_istore cx (L' := [(4, .int (zb (allN (fun z => okN κ nx (ch z)) (k + 1)))), (5, .int (nI k)), (0, .ref (ad 0)), (1, .ref (ad 15)), (2, .int (nI sz)), (3, .int (nI nx))]) dX7_fitsNames_90 (by decide) rfl ?_
                refine J_iinc cx (v := (nI (k + 1))) (L' := [(5, .int (nI (k + 1))), (4, .int (zb (allN (fun z => okN κ nx (ch z)) (k + 1)))), (0, .ref (ad 0)), (1, .ref (ad 15)), (2, .int (nI sz)), (3, .int (nI nx))]) dX7_fitsNames_92 1 rfl (by exact nI_add k 1) (by decide) rfl ?_
                refine J_goto cx (tgt := 6) dX7_fitsNames_95 (by decide) ?_
                refine J_L [1, 0, 2, 3, 4, 5] rfl ?_
                exact ih (k + 1) (by omega) (by omega)
  refine J_L [1, 0, 2, 3, 4, 5] rfl ?_
  exact LP _ 0 (by omega) (Nat.lt_succ_self _)
set_option maxHeartbeats 4000000 in
set_option maxRecDepth 100000 in
theorem tX7_fitsNames_w (l : Launch) (D : va_G) (g : Nat → ClassId) (A : Nat → Prop) (ad : Nat → Nat) (κ : CS) (th : Int32) (ch : Nat → Nat) (cm rm : Nat) (row : Nat → Int64)  (sz : Nat) (nx : Nat) (hI : InvM κ) (hs : sz ≤ 40) (hw : ∀ z, z < sz → κ.2.2.2.1 z < κ.2.2.1 0) (hx : nx < κ.2.2.1 0) : CtI l D g A yX7_fitsNames cX7_fitsNames 6 .boolean ({ frames := 1, cells := 0, slots := 0, locals := 22 } : Room) [.ref (ad 0), .ref (ad 16), .int (nI sz), .int (nI nx)] (mW ad g κ th ch cm rm row) (zb (fitsB κ κ.2.2.2.1 sz nx)) (mW ad g κ th ch cm rm row) := by
  have hn := hI.1
  refine metJ (by decide) (Nat.le_of_ble_eq_true rfl) ?_
  intro p e s m args below meth c _ _ cx
  refine J_iconst cx (v := nI 1) dX7_fitsNames_0 (by decide) ?_
  refine J_istore cx (L' := [(4, .int (nI 1)), (0, .ref (ad 0)), (1, .ref (ad 16)), (2, .int (nI sz)), (3, .int (nI nx))]) dX7_fitsNames_1 (by decide) rfl ?_
  refine J_iconst cx (v := nI 0) dX7_fitsNames_3 (by decide) ?_
  refine J_istore cx (L' := [(5, .int (nI 0)), (4, .int (nI 1)), (0, .ref (ad 0)), (1, .ref (ad 16)), (2, .int (nI sz)), (3, .int (nI nx))]) dX7_fitsNames_4 (by decide) rfl ?_
  have LP : ∀ (fu : Nat) (k : Nat), (k ≤ sz) → sz - k < fu → J p l e ({ frames := 1, cells := 0, slots := 0, locals := 22 } : Room) s m args below meth c D A 6 (MQ below (va_Qi (fun (r : Int32) (_ : Unit) => r = (zb (fitsB κ κ.2.2.2.1 sz nx))) (fun _ => PO D A (mW ad g κ th ch cm rm row)) A) args s 0 0 A) 0 0 (mW ad g κ th ch cm rm row) [(4, .int (zb (allN (fun z => okN κ nx (κ.2.2.2.1 z)) k))), (5, .int (nI k)), (0, .ref (ad 0)), (1, .ref (ad 16)), (2, .int (nI sz)), (3, .int (nI nx))] 6 [] := by
    intro fu; induction fu with
    | zero => intro k hk hfu; exact absurd hfu (Nat.not_lt_zero _)
    | succ fu ih =>
      intro k hk hfu
      refine J_iload cx dX7_fitsNames_6 1 rfl ?_
      refine J_iload_n cx dX7_fitsNames_8 rfl 4 rfl ?_
      refine J_icmp_ge cx (tgt := 98) dX7_fitsNames_9 (by decide) (fun c_1 => ?_) (fun c_1 => ?_)
      · have c_1 := (nat_ic_ge (by omega) (by omega)).mp c_1
        have c_1d := decide_eq_true c_1
        refine J_iload cx dX7_fitsNames_98 0 rfl ?_
        exact J_zret cx rfl (u := ()) (zb_nar _) (by rw [show k = sz from by omega]; rfl) rfl (Nat.le_of_ble_eq_true rfl) (Nat.le_of_ble_eq_true rfl) dX7_fitsNames_100
      · have c_1 := (nat_ic_ge_f (by omega) (by omega)).mp c_1
        have c_1d := decide_eq_false (Nat.not_le.mpr c_1)
        obtain ⟨a, ha1, ha2, hae⟩ := hI.2.1 _ (hw k c_1)
        refine J_iload cx dX7_fitsNames_12 0 rfl ?_
        refine J_aload_n cx dX7_fitsNames_14 rfl 2 rfl ?_
        refine J_get cx (v := .ref (ad 8)) fX7_31 0 rfl rfl dX7_fitsNames_15 ?_
        refine J_iload_n cx dX7_fitsNames_18 rfl 5 rfl ?_
        refine J_iald cx (j := nx) (f := κ.1 7) 8 rfl rfl (by have := hI.1; omega) (by decide) dX7_fitsNames_19 ?_
        refine J_if_eq cx (tgt := 44) dX7_fitsNames_20 (by decide) (fun c_2 => ?_) (fun c_2 => ?_)
        · have c_2d := decide_eq_true c_2
          refine J_iconst cx (v := nI 1) dX7_fitsNames_44 (by decide) ?_
          refine J_goto cx (tgt := 49) dX7_fitsNames_45 (by decide) ?_
          refine J_iand cx dX7_fitsNames_49 ?_
          refine J_top (v' := .int (zb ((allN (fun z => okN κ nx (κ.2.2.2.1 z)) k) && true))) (congrArg Value.int (zb_and (allN (fun z => okN κ nx (κ.2.2.2.1 z)) k) true)) ?_
          refine J_istore cx (L' := [(4, .int (zb ((allN (fun z => okN κ nx (κ.2.2.2.1 z)) k) && true))), (5, .int (nI k)), (0, .ref (ad 0)), (1, .ref (ad 16)), (2, .int (nI sz)), (3, .int (nI nx))]) dX7_fitsNames_50 (by decide) rfl ?_
          refine J_iload cx dX7_fitsNames_52 0 rfl ?_
          refine J_aload_n cx dX7_fitsNames_54 rfl 2 rfl ?_
          refine J_get cx (v := .ref (ad 9)) fX7_34 0 rfl rfl dX7_fitsNames_55 ?_
          refine J_iload_n cx dX7_fitsNames_58 rfl 5 rfl ?_
          refine J_iald cx (j := nx) (f := κ.1 8) 9 rfl rfl (by have := hI.1; omega) (by decide) dX7_fitsNames_59 ?_
          refine J_if_eq cx (tgt := 84) dX7_fitsNames_60 (by decide) (fun c_3 => ?_) (fun c_3 => ?_)
          · have c_3d := decide_eq_true c_3
            refine J_iconst cx (v := nI 1) dX7_fitsNames_84 (by decide) ?_
            refine J_goto cx (tgt := 89) dX7_fitsNames_85 (by decide) ?_
            refine J_iand cx dX7_fitsNames_89 ?_
            refine J_top (v' := .int (zb (((allN (fun z => okN κ nx (κ.2.2.2.1 z)) k) && true) && true))) (congrArg Value.int (zb_and ((allN (fun z => okN κ nx (κ.2.2.2.1 z)) k) && true) true)) ?_
            refine J_top (v' := .int (zb (allN (fun z => okN κ nx (κ.2.2.2.1 z)) (k + 1)))) (congrArg (fun z => Value.int (zb z)) (by simp [allN, okN, c_1, c_1d, c_2d, c_3d])) ?_
            refine J_istore cx (L' := [(4, .int (zb (allN (fun z => okN κ nx (κ.2.2.2.1 z)) (k + 1)))), (5, .int (nI k)), (0, .ref (ad 0)), (1, .ref (ad 16)), (2, .int (nI sz)), (3, .int (nI nx))]) dX7_fitsNames_90 (by decide) rfl ?_
            refine J_iinc cx (v := (nI (k + 1))) (L' := [(5, .int (nI (k + 1))), (4, .int (zb (allN (fun z => okN κ nx (κ.2.2.2.1 z)) (k + 1)))), (0, .ref (ad 0)), (1, .ref (ad 16)), (2, .int (nI sz)), (3, .int (nI nx))]) dX7_fitsNames_92 1 rfl (by exact nI_add k 1) (by decide) rfl ?_
            refine J_goto cx (tgt := 6) dX7_fitsNames_95 (by decide) ?_
            refine J_L [1, 0, 2, 3, 4, 5] rfl ?_
            exact ih (k + 1) (by omega) (by omega)
          · have c_3d := decide_eq_false c_3
            obtain ⟨b2, hd1, hd2, hde⟩ := (hI.2.2.2.1 nx hx).resolve_left c_3
            have hdq : belowB (κ.1 0 (κ.2.2.2.1 k)) (κ.1 8 nx) = und 10 a b2 := by rw [hae, hde, belowB_nI (by omega) (by omega)]
            refine J_aload_n cx dX7_fitsNames_63 rfl 2 rfl ?_
            refine J_get cx (v := .ref (ad 1)) fX7_9 0 rfl rfl dX7_fitsNames_64 ?_
            refine J_aload_n cx dX7_fitsNames_67 rfl 3 rfl ?_
            refine J_iload cx dX7_fitsNames_68 1 rfl ?_
            refine J_iald cx (j := k) (f := fun i => nI (κ.2.2.2.1 i)) 16 rfl rfl (by omega) (by decide) dX7_fitsNames_70 ?_
            refine J_iald cx (j := (κ.2.2.2.1 k)) (f := κ.1 0) 1 rfl rfl (by have := hI.1; have := hw k c_1; omega) (by decide) dX7_fitsNames_71 ?_
            refine J_top (v' := .int (nI a)) (congrArg Value.int hae) ?_
            refine J_aload_n cx dX7_fitsNames_72 rfl 2 rfl ?_
            refine J_get cx (v := .ref (ad 9)) fX7_34 0 rfl rfl dX7_fitsNames_73 ?_
            refine J_iload_n cx dX7_fitsNames_76 rfl 5 rfl ?_
            refine J_iald cx (j := nx) (f := κ.1 8) 9 rfl rfl (by have := hI.1; omega) (by decide) dX7_fitsNames_77 ?_
            refine J_top (v' := .int (nI b2)) (congrArg Value.int hde) ?_
            refine J_callSi cx kX7_116 (As := [.int (nI a), .int (nI b2)]) (tX7_isUnder l D g A ad κ th ch cm rm row  a b2 (by first | assumption | omega) (by first | assumption | omega)) ⟨rfl, rfl, by decide, by decide⟩ ⟨by decide, by decide⟩ rfl rfl (Nat.le_of_ble_eq_true rfl) dX7_fitsNames_78 ?_
            intro _ _ hr; cases hr
            refine J_ifz_ne cx (tgt := 88) dX7_fitsNames_81 (by decide) (fun c_4 => ?_) (fun c_4 => ?_)
            · refine J_iconst cx (v := nI 0) dX7_fitsNames_88 (by decide) ?_
              refine J_iand cx dX7_fitsNames_89 ?_
              refine J_top (v' := .int (zb (((allN (fun z => okN κ nx (κ.2.2.2.1 z)) k) && true) && false))) (congrArg Value.int (zb_and ((allN (fun z => okN κ nx (κ.2.2.2.1 z)) k) && true) false)) ?_
              refine J_top (v' := .int (zb (allN (fun z => okN κ nx (κ.2.2.2.1 z)) (k + 1)))) (congrArg (fun z => Value.int (zb z)) (by simp [allN, okN, c_1, c_1d, c_2d, c_3, c_3d, hdq, c_4])) ?_
              refine J_istore cx (L' := [(4, .int (zb (allN (fun z => okN κ nx (κ.2.2.2.1 z)) (k + 1)))), (5, .int (nI k)), (0, .ref (ad 0)), (1, .ref (ad 16)), (2, .int (nI sz)), (3, .int (nI nx))]) dX7_fitsNames_90 (by decide) rfl ?_
              refine J_iinc cx (v := (nI (k + 1))) (L' := [(5, .int (nI (k + 1))), (4, .int (zb (allN (fun z => okN κ nx (κ.2.2.2.1 z)) (k + 1)))), (0, .ref (ad 0)), (1, .ref (ad 16)), (2, .int (nI sz)), (3, .int (nI nx))]) dX7_fitsNames_92 1 rfl (by exact nI_add k 1) (by decide) rfl ?_
              refine J_goto cx (tgt := 6) dX7_fitsNames_95 (by decide) ?_
              refine J_L [1, 0, 2, 3, 4, 5] rfl ?_
              exact ih (k + 1) (by omega) (by omega)
            · refine J_iconst cx (v := nI 1) dX7_fitsNames_84 (by decide) ?_
              refine J_goto cx (tgt := 89) dX7_fitsNames_85 (by decide) ?_
              refine J_iand cx dX7_fitsNames_89 ?_
              refine J_top (v' := .int (zb (((allN (fun z => okN κ nx (κ.2.2.2.1 z)) k) && true) && true))) (congrArg Value.int (zb_and ((allN (fun z => okN κ nx (κ.2.2.2.1 z)) k) && true) true)) ?_
              refine J_top (v' := .int (zb (allN (fun z => okN κ nx (κ.2.2.2.1 z)) (k + 1)))) (congrArg (fun z => Value.int (zb z)) (by simp [allN, okN, c_1, c_1d, c_2d, c_3, c_3d, hdq, c_4])) ?_
              refine J_istore cx (L' := [(4, .int (zb (allN (fun z => okN κ nx (κ.2.2.2.1 z)) (k + 1)))), (5, .int (nI k)), (0, .ref (ad 0)), (1, .ref (ad 16)), (2, .int (nI sz)), (3, .int (nI nx))]) dX7_fitsNames_90 (by decide) rfl ?_
              refine J_iinc cx (v := (nI (k + 1))) (L' := [(5, .int (nI (k + 1))), (4, .int (zb (allN (fun z => okN κ nx (κ.2.2.2.1 z)) (k + 1)))), (0, .ref (ad 0)), (1, .ref (ad 16)), (2, .int (nI sz)), (3, .int (nI nx))]) dX7_fitsNames_92 1 rfl (by exact nI_add k 1) (by decide) rfl ?_
              refine J_goto cx (tgt := 6) dX7_fitsNames_95 (by decide) ?_
              refine J_L [1, 0, 2, 3, 4, 5] rfl ?_
              exact ih (k + 1) (by omega) (by omega)
        · have c_2d := decide_eq_false c_2
          obtain ⟨b1, hb1, hb2, hbe⟩ := (hI.2.2.1 nx hx).resolve_left c_2
          have hbq : belowB (κ.1 0 (κ.2.2.2.1 k)) (κ.1 7 nx) = und 10 a b1 := by rw [hae, hbe, belowB_nI (by omega) (by omega)]
          refine J_aload_n cx dX7_fitsNames_23 rfl 2 rfl ?_
          refine J_get cx (v := .ref (ad 1)) fX7_9 0 rfl rfl dX7_fitsNames_24 ?_
          refine J_aload_n cx dX7_fitsNames_27 rfl 3 rfl ?_
          refine J_iload cx dX7_fitsNames_28 1 rfl ?_
          refine J_iald cx (j := k) (f := fun i => nI (κ.2.2.2.1 i)) 16 rfl rfl (by omega) (by decide) dX7_fitsNames_30 ?_
          refine J_iald cx (j := (κ.2.2.2.1 k)) (f := κ.1 0) 1 rfl rfl (by have := hI.1; have := hw k c_1; omega) (by decide) dX7_fitsNames_31 ?_
          refine J_top (v' := .int (nI a)) (congrArg Value.int hae) ?_
          refine J_aload_n cx dX7_fitsNames_32 rfl 2 rfl ?_
          refine J_get cx (v := .ref (ad 8)) fX7_31 0 rfl rfl dX7_fitsNames_33 ?_
          refine J_iload_n cx dX7_fitsNames_36 rfl 5 rfl ?_
          refine J_iald cx (j := nx) (f := κ.1 7) 8 rfl rfl (by have := hI.1; omega) (by decide) dX7_fitsNames_37 ?_
          refine J_top (v' := .int (nI b1)) (congrArg Value.int hbe) ?_
          refine J_callSi cx kX7_116 (As := [.int (nI a), .int (nI b1)]) (tX7_isUnder l D g A ad κ th ch cm rm row  a b1 (by first | assumption | omega) (by first | assumption | omega)) ⟨rfl, rfl, by decide, by decide⟩ ⟨by decide, by decide⟩ rfl rfl (Nat.le_of_ble_eq_true rfl) dX7_fitsNames_38 ?_
          intro _ _ hr; cases hr
          refine J_ifz_eq cx (tgt := 48) dX7_fitsNames_41 (by decide) (fun c_5 => ?_) (fun c_5 => ?_)
          · refine J_iconst cx (v := nI 0) dX7_fitsNames_48 (by decide) ?_
            refine J_iand cx dX7_fitsNames_49 ?_
            refine J_top (v' := .int (zb ((allN (fun z => okN κ nx (κ.2.2.2.1 z)) k) && false))) (congrArg Value.int (zb_and (allN (fun z => okN κ nx (κ.2.2.2.1 z)) k) false)) ?_
            refine J_istore cx (L' := [(4, .int (zb ((allN (fun z => okN κ nx (κ.2.2.2.1 z)) k) && false))), (5, .int (nI k)), (0, .ref (ad 0)), (1, .ref (ad 16)), (2, .int (nI sz)), (3, .int (nI nx))]) dX7_fitsNames_50 (by decide) rfl ?_
            refine J_iload cx dX7_fitsNames_52 0 rfl ?_
            refine J_aload_n cx dX7_fitsNames_54 rfl 2 rfl ?_
            refine J_get cx (v := .ref (ad 9)) fX7_34 0 rfl rfl dX7_fitsNames_55 ?_
            refine J_iload_n cx dX7_fitsNames_58 rfl 5 rfl ?_
            refine J_iald cx (j := nx) (f := κ.1 8) 9 rfl rfl (by have := hI.1; omega) (by decide) dX7_fitsNames_59 ?_
            refine J_if_eq cx (tgt := 84) dX7_fitsNames_60 (by decide) (fun c_6 => ?_) (fun c_6 => ?_)
            · have c_6d := decide_eq_true c_6
              refine J_iconst cx (v := nI 1) dX7_fitsNames_84 (by decide) ?_
              refine J_goto cx (tgt := 89) dX7_fitsNames_85 (by decide) ?_
              refine J_iand cx dX7_fitsNames_89 ?_
              refine J_top (v' := .int (zb (((allN (fun z => okN κ nx (κ.2.2.2.1 z)) k) && false) && true))) (congrArg Value.int (zb_and ((allN (fun z => okN κ nx (κ.2.2.2.1 z)) k) && false) true)) ?_
              refine J_top (v' := .int (zb (allN (fun z => okN κ nx (κ.2.2.2.1 z)) (k + 1)))) (congrArg (fun z => Value.int (zb z)) (by simp [allN, okN, c_1, c_1d, c_2, c_2d, hbq, c_5, c_6d])) ?_
              refine J_istore cx (L' := [(4, .int (zb (allN (fun z => okN κ nx (κ.2.2.2.1 z)) (k + 1)))), (5, .int (nI k)), (0, .ref (ad 0)), (1, .ref (ad 16)), (2, .int (nI sz)), (3, .int (nI nx))]) dX7_fitsNames_90 (by decide) rfl ?_
              refine J_iinc cx (v := (nI (k + 1))) (L' := [(5, .int (nI (k + 1))), (4, .int (zb (allN (fun z => okN κ nx (κ.2.2.2.1 z)) (k + 1)))), (0, .ref (ad 0)), (1, .ref (ad 16)), (2, .int (nI sz)), (3, .int (nI nx))]) dX7_fitsNames_92 1 rfl (by exact nI_add k 1) (by decide) rfl ?_
              refine J_goto cx (tgt := 6) dX7_fitsNames_95 (by decide) ?_
              refine J_L [1, 0, 2, 3, 4, 5] rfl ?_
              exact ih (k + 1) (by omega) (by omega)
            · have c_6d := decide_eq_false c_6
              obtain ⟨b2, hd1, hd2, hde⟩ := (hI.2.2.2.1 nx hx).resolve_left c_6
              have hdq : belowB (κ.1 0 (κ.2.2.2.1 k)) (κ.1 8 nx) = und 10 a b2 := by rw [hae, hde, belowB_nI (by omega) (by omega)]
              refine J_aload_n cx dX7_fitsNames_63 rfl 2 rfl ?_
              refine J_get cx (v := .ref (ad 1)) fX7_9 0 rfl rfl dX7_fitsNames_64 ?_
              refine J_aload_n cx dX7_fitsNames_67 rfl 3 rfl ?_
              refine J_iload cx dX7_fitsNames_68 1 rfl ?_
              refine J_iald cx (j := k) (f := fun i => nI (κ.2.2.2.1 i)) 16 rfl rfl (by omega) (by decide) dX7_fitsNames_70 ?_
              refine J_iald cx (j := (κ.2.2.2.1 k)) (f := κ.1 0) 1 rfl rfl (by have := hI.1; have := hw k c_1; omega) (by decide) dX7_fitsNames_71 ?_
              refine J_top (v' := .int (nI a)) (congrArg Value.int hae) ?_
              refine J_aload_n cx dX7_fitsNames_72 rfl 2 rfl ?_
              refine J_get cx (v := .ref (ad 9)) fX7_34 0 rfl rfl dX7_fitsNames_73 ?_
              refine J_iload_n cx dX7_fitsNames_76 rfl 5 rfl ?_
              refine J_iald cx (j := nx) (f := κ.1 8) 9 rfl rfl (by have := hI.1; omega) (by decide) dX7_fitsNames_77 ?_
              refine J_top (v' := .int (nI b2)) (congrArg Value.int hde) ?_
              refine J_callSi cx kX7_116 (As := [.int (nI a), .int (nI b2)]) (tX7_isUnder l D g A ad κ th ch cm rm row  a b2 (by first | assumption | omega) (by first | assumption | omega)) ⟨rfl, rfl, by decide, by decide⟩ ⟨by decide, by decide⟩ rfl rfl (Nat.le_of_ble_eq_true rfl) dX7_fitsNames_78 ?_
              intro _ _ hr; cases hr
              refine J_ifz_ne cx (tgt := 88) dX7_fitsNames_81 (by decide) (fun c_7 => ?_) (fun c_7 => ?_)
              · refine J_iconst cx (v := nI 0) dX7_fitsNames_88 (by decide) ?_
                refine J_iand cx dX7_fitsNames_89 ?_
                refine J_top (v' := .int (zb (((allN (fun z => okN κ nx (κ.2.2.2.1 z)) k) && false) && false))) (congrArg Value.int (zb_and ((allN (fun z => okN κ nx (κ.2.2.2.1 z)) k) && false) false)) ?_
                refine J_top (v' := .int (zb (allN (fun z => okN κ nx (κ.2.2.2.1 z)) (k + 1)))) (congrArg (fun z => Value.int (zb z)) (by simp [allN, okN, c_1, c_1d, c_2, c_2d, hbq, c_5, c_6, c_6d, hdq, c_7])) ?_
                refine J_istore cx (L' := [(4, .int (zb (allN (fun z => okN κ nx (κ.2.2.2.1 z)) (k + 1)))), (5, .int (nI k)), (0, .ref (ad 0)), (1, .ref (ad 16)), (2, .int (nI sz)), (3, .int (nI nx))]) dX7_fitsNames_90 (by decide) rfl ?_
                refine J_iinc cx (v := (nI (k + 1))) (L' := [(5, .int (nI (k + 1))), (4, .int (zb (allN (fun z => okN κ nx (κ.2.2.2.1 z)) (k + 1)))), (0, .ref (ad 0)), (1, .ref (ad 16)), (2, .int (nI sz)), (3, .int (nI nx))]) dX7_fitsNames_92 1 rfl (by exact nI_add k 1) (by decide) rfl ?_
                refine J_goto cx (tgt := 6) dX7_fitsNames_95 (by decide) ?_
                refine J_L [1, 0, 2, 3, 4, 5] rfl ?_
                exact ih (k + 1) (by omega) (by omega)
              · refine J_iconst cx (v := nI 1) dX7_fitsNames_84 (by decide) ?_
                refine J_goto cx (tgt := 89) dX7_fitsNames_85 (by decide) ?_
                refine J_iand cx dX7_fitsNames_89 ?_
                refine J_top (v' := .int (zb (((allN (fun z => okN κ nx (κ.2.2.2.1 z)) k) && false) && true))) (congrArg Value.int (zb_and ((allN (fun z => okN κ nx (κ.2.2.2.1 z)) k) && false) true)) ?_
                refine J_top (v' := .int (zb (allN (fun z => okN κ nx (κ.2.2.2.1 z)) (k + 1)))) (congrArg (fun z => Value.int (zb z)) (by simp [allN, okN, c_1, c_1d, c_2, c_2d, hbq, c_5, c_6, c_6d, hdq, c_7])) ?_
                refine J_istore cx (L' := [(4, .int (zb (allN (fun z => okN κ nx (κ.2.2.2.1 z)) (k + 1)))), (5, .int (nI k)), (0, .ref (ad 0)), (1, .ref (ad 16)), (2, .int (nI sz)), (3, .int (nI nx))]) dX7_fitsNames_90 (by decide) rfl ?_
                refine J_iinc cx (v := (nI (k + 1))) (L' := [(5, .int (nI (k + 1))), (4, .int (zb (allN (fun z => okN κ nx (κ.2.2.2.1 z)) (k + 1)))), (0, .ref (ad 0)), (1, .ref (ad 16)), (2, .int (nI sz)), (3, .int (nI nx))]) dX7_fitsNames_92 1 rfl (by exact nI_add k 1) (by decide) rfl ?_
                refine J_goto cx (tgt := 6) dX7_fitsNames_95 (by decide) ?_
                refine J_L [1, 0, 2, 3, 4, 5] rfl ?_
                exact ih (k + 1) (by omega) (by omega)
          · refine J_iconst cx (v := nI 1) dX7_fitsNames_44 (by decide) ?_
            refine J_goto cx (tgt := 49) dX7_fitsNames_45 (by decide) ?_
            refine J_iand cx dX7_fitsNames_49 ?_
            refine J_top (v' := .int (zb ((allN (fun z => okN κ nx (κ.2.2.2.1 z)) k) && true))) (congrArg Value.int (zb_and (allN (fun z => okN κ nx (κ.2.2.2.1 z)) k) true)) ?_
            refine J_istore cx (L' := [(4, .int (zb ((allN (fun z => okN κ nx (κ.2.2.2.1 z)) k) && true))), (5, .int (nI k)), (0, .ref (ad 0)), (1, .ref (ad 16)), (2, .int (nI sz)), (3, .int (nI nx))]) dX7_fitsNames_50 (by decide) rfl ?_
            refine J_iload cx dX7_fitsNames_52 0 rfl ?_
            refine J_aload_n cx dX7_fitsNames_54 rfl 2 rfl ?_
            refine J_get cx (v := .ref (ad 9)) fX7_34 0 rfl rfl dX7_fitsNames_55 ?_
            refine J_iload_n cx dX7_fitsNames_58 rfl 5 rfl ?_
            refine J_iald cx (j := nx) (f := κ.1 8) 9 rfl rfl (by have := hI.1; omega) (by decide) dX7_fitsNames_59 ?_
            refine J_if_eq cx (tgt := 84) dX7_fitsNames_60 (by decide) (fun c_8 => ?_) (fun c_8 => ?_)
            · have c_8d := decide_eq_true c_8
              refine J_iconst cx (v := nI 1) dX7_fitsNames_84 (by decide) ?_
              refine J_goto cx (tgt := 89) dX7_fitsNames_85 (by decide) ?_
              refine J_iand cx dX7_fitsNames_89 ?_
              refine J_top (v' := .int (zb (((allN (fun z => okN κ nx (κ.2.2.2.1 z)) k) && true) && true))) (congrArg Value.int (zb_and ((allN (fun z => okN κ nx (κ.2.2.2.1 z)) k) && true) true)) ?_
              refine J_top (v' := .int (zb (allN (fun z => okN κ nx (κ.2.2.2.1 z)) (k + 1)))) (congrArg (fun z => Value.int (zb z)) (by simp [allN, okN, c_1, c_1d, c_2, c_2d, hbq, c_5, c_8d])) ?_
              refine J_istore cx (L' := [(4, .int (zb (allN (fun z => okN κ nx (κ.2.2.2.1 z)) (k + 1)))), (5, .int (nI k)), (0, .ref (ad 0)), (1, .ref (ad 16)), (2, .int (nI sz)), (3, .int (nI nx))]) dX7_fitsNames_90 (by decide) rfl ?_
              refine J_iinc cx (v := (nI (k + 1))) (L' := [(5, .int (nI (k + 1))), (4, .int (zb (allN (fun z => okN κ nx (κ.2.2.2.1 z)) (k + 1)))), (0, .ref (ad 0)), (1, .ref (ad 16)), (2, .int (nI sz)), (3, .int (nI nx))]) dX7_fitsNames_92 1 rfl (by exact nI_add k 1) (by decide) rfl ?_
              refine J_goto cx (tgt := 6) dX7_fitsNames_95 (by decide) ?_
              refine J_L [1, 0, 2, 3, 4, 5] rfl ?_
              exact ih (k + 1) (by omega) (by omega)
            · have c_8d := decide_eq_false c_8
              obtain ⟨b2, hd1, hd2, hde⟩ := (hI.2.2.2.1 nx hx).resolve_left c_8
              have hdq : belowB (κ.1 0 (κ.2.2.2.1 k)) (κ.1 8 nx) = und 10 a b2 := by rw [hae, hde, belowB_nI (by omega) (by omega)]
              refine J_aload_n cx dX7_fitsNames_63 rfl 2 rfl ?_
              refine J_get cx (v := .ref (ad 1)) fX7_9 0 rfl rfl dX7_fitsNames_64 ?_
              refine J_aload_n cx dX7_fitsNames_67 rfl 3 rfl ?_
              refine J_iload cx dX7_fitsNames_68 1 rfl ?_
              refine J_iald cx (j := k) (f := fun i => nI (κ.2.2.2.1 i)) 16 rfl rfl (by omega) (by decide) dX7_fitsNames_70 ?_
              refine J_iald cx (j := (κ.2.2.2.1 k)) (f := κ.1 0) 1 rfl rfl (by have := hI.1; have := hw k c_1; omega) (by decide) dX7_fitsNames_71 ?_
              refine J_top (v' := .int (nI a)) (congrArg Value.int hae) ?_
              refine J_aload_n cx dX7_fitsNames_72 rfl 2 rfl ?_
              refine J_get cx (v := .ref (ad 9)) fX7_34 0 rfl rfl dX7_fitsNames_73 ?_
              refine J_iload_n cx dX7_fitsNames_76 rfl 5 rfl ?_
              refine J_iald cx (j := nx) (f := κ.1 8) 9 rfl rfl (by have := hI.1; omega) (by decide) dX7_fitsNames_77 ?_
              refine J_top (v' := .int (nI b2)) (congrArg Value.int hde) ?_
              refine J_callSi cx kX7_116 (As := [.int (nI a), .int (nI b2)]) (tX7_isUnder l D g A ad κ th ch cm rm row  a b2 (by first | assumption | omega) (by first | assumption | omega)) ⟨rfl, rfl, by decide, by decide⟩ ⟨by decide, by decide⟩ rfl rfl (Nat.le_of_ble_eq_true rfl) dX7_fitsNames_78 ?_
              intro _ _ hr; cases hr
              refine J_ifz_ne cx (tgt := 88) dX7_fitsNames_81 (by decide) (fun c_9 => ?_) (fun c_9 => ?_)
              · refine J_iconst cx (v := nI 0) dX7_fitsNames_88 (by decide) ?_
                refine J_iand cx dX7_fitsNames_89 ?_
                refine J_top (v' := .int (zb (((allN (fun z => okN κ nx (κ.2.2.2.1 z)) k) && true) && false))) (congrArg Value.int (zb_and ((allN (fun z => okN κ nx (κ.2.2.2.1 z)) k) && true) false)) ?_
                refine J_top (v' := .int (zb (allN (fun z => okN κ nx (κ.2.2.2.1 z)) (k + 1)))) (congrArg (fun z => Value.int (zb z)) (by simp [allN, okN, c_1, c_1d, c_2, c_2d, hbq, c_5, c_8, c_8d, hdq, c_9])) ?_
                refine J_istore cx (L' := [(4, .int (zb (allN (fun z => okN κ nx (κ.2.2.2.1 z)) (k + 1)))), (5, .int (nI k)), (0, .ref (ad 0)), (1, .ref (ad 16)), (2, .int (nI sz)), (3, .int (nI nx))]) dX7_fitsNames_90 (by decide) rfl ?_
                refine J_iinc cx (v := (nI (k + 1))) (L' := [(5, .int (nI (k + 1))), (4, .int (zb (allN (fun z => okN κ nx (κ.2.2.2.1 z)) (k + 1)))), (0, .ref (ad 0)), (1, .ref (ad 16)), (2, .int (nI sz)), (3, .int (nI nx))]) dX7_fitsNames_92 1 rfl (by exact nI_add k 1) (by decide) rfl ?_
                refine J_goto cx (tgt := 6) dX7_fitsNames_95 (by decide) ?_
                refine J_L [1, 0, 2, 3, 4, 5] rfl ?_
                exact ih (k + 1) (by omega) (by omega)
              · refine J_iconst cx (v := nI 1) dX7_fitsNames_84 (by decide) ?_
                refine J_goto cx (tgt := 89) dX7_fitsNames_85 (by decide) ?_
                refine J_iand cx dX7_fitsNames_89 ?_
                refine J_top (v' := .int (zb (((allN (fun z => okN κ nx (κ.2.2.2.1 z)) k) && true) && true))) (congrArg Value.int (zb_and ((allN (fun z => okN κ nx (κ.2.2.2.1 z)) k) && true) true)) ?_
                refine J_top (v' := .int (zb (allN (fun z => okN κ nx (κ.2.2.2.1 z)) (k + 1)))) (congrArg (fun z => Value.int (zb z)) (by simp [allN, okN, c_1, c_1d, c_2, c_2d, hbq, c_5, c_8, c_8d, hdq, c_9])) ?_
                refine J_istore cx (L' := [(4, .int (zb (allN (fun z => okN κ nx (κ.2.2.2.1 z)) (k + 1)))), (5, .int (nI k)), (0, .ref (ad 0)), (1, .ref (ad 16)), (2, .int (nI sz)), (3, .int (nI nx))]) dX7_fitsNames_90 (by decide) rfl ?_
                refine J_iinc cx (v := (nI (k + 1))) (L' := [(5, .int (nI (k + 1))), (4, .int (zb (allN (fun z => okN κ nx (κ.2.2.2.1 z)) (k + 1)))), (0, .ref (ad 0)), (1, .ref (ad 16)), (2, .int (nI sz)), (3, .int (nI nx))]) dX7_fitsNames_92 1 rfl (by exact nI_add k 1) (by decide) rfl ?_
                refine J_goto cx (tgt := 6) dX7_fitsNames_95 (by decide) ?_
                refine J_L [1, 0, 2, 3, 4, 5] rfl ?_
                exact ih (k + 1) (by omega) (by omega)
  refine J_L [1, 0, 2, 3, 4, 5] rfl ?_
  exact LP _ 0 (by omega) (Nat.lt_succ_self _)
