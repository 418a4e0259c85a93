def thrE (L : List String) (c : Nat) (E : String) : Prop := c ≠ 0 ∧ L[c - 1]? = some E
theorem nameB_no {x : Int32} (h : isInB x (nI 1) (nI 9999) = false) : nameB x = false := by
  rcases i32_cases x with ⟨j, hj, rfl⟩ | h2
  · rw [nameB_nI hj, h]; rfl
  · exact nameB_neg h2
set_option maxHeartbeats 4000000 in
set_option maxRecDepth 100000 in
theorem tX6_isName (l : Launch) (D : va_G) (g : Nat → ClassId) (A : Nat → Prop) (ad : Nat → Nat → Nat) (κ : CS) (X : XT) (cs : Nat → CT) (lf : Nat → Int64) (pr : PT)  (xn : Int32)  : CtI l D g A yX6_isName cX6_isName 2 .boolean ({ frames := 0, cells := 0, slots := 0, locals := 0 } : Room) [.int xn] (iW ad g κ X cs lf pr) (zb (nameB xn)) (iW ad g κ X cs lf pr) := by
  rcases i32_cases xn with ⟨j0, hj0, rfl⟩ | hneg
  · refine metJ (by decide) (Nat.le_of_ble_eq_true rfl) ?_
    intro p e s m args below meth c _ _ cx
    refine J_iload_n cx dX6_isName_0 rfl 0 rfl ?_
    refine J_iconst cx (v := nI 1) dX6_isName_1 (by decide) ?_
    refine J_icmp_lt cx (tgt := 12) dX6_isName_2 (by decide) (fun c_1 => ?_) (fun c_1 => ?_)
    · have c_1 := (nat_ic_lt (by omega) (by omega)).mp c_1
      have c_1d := decide_eq_true c_1
      refine J_iconst cx (v := nI 0) dX6_isName_12 (by decide) ?_
      exact J_zret cx rfl (u := ()) (rfl) (by rw [nameB_no]; rfl; rw [isInB_nI hj0 (by omega) (by omega)]; exact decide_eq_false (by omega)) rfl (Nat.le_of_ble_eq_true rfl) (Nat.le_of_ble_eq_true rfl) dX6_isName_13
    · have c_1 := (nat_ic_lt_f (by omega) (by omega)).mp c_1
      have c_1d := decide_eq_false (Nat.not_lt.mpr c_1)
      refine J_iload_n cx dX6_isName_5 rfl 0 rfl ?_
      refine J_sipush cx (v := nI 9999) dX6_isName_6 (by decide) ?_
      refine J_icmp_le cx (tgt := 14) dX6_isName_9 (by decide) (fun c_2 => ?_) (fun c_2 => ?_)
      · have c_2 := (nat_ic_le (by omega) (by omega)).mp c_2
        have c_2d := decide_eq_true c_2
        refine J_iload_n cx dX6_isName_14 rfl 0 rfl ?_
        refine J_istore_n cx (L' := [(1, .int (nI j0)), (0, .int (nI j0))]) dX6_isName_15 rfl (by decide) rfl ?_
        have LP : ∀ (fu : Nat) (f : Nat) (j : Nat), (j < 10 ^ f) → (j < 2147483648) → (nz f j = nz 10 j0) → j < fu → J p l e ({ frames := 0, cells := 0, slots := 0, locals := 0 } : Room) s m args below meth c D A 2 (MQ below (va_Qi (fun (r : Int32) (_ : Unit) => r = (zb (nameB (nI j0)))) (fun _ => PO D A (iW ad g κ X cs lf pr)) A) args s 0 0 A) 0 0 (iW ad g κ X cs lf pr) [(1, .int (nI j)), (0, .int (nI j0))] 16 [] := by
          intro fu; induction fu with
          | zero => intro f j hj hj2 hb hfu; exact absurd hfu (Nat.not_lt_zero _)
          | succ fu ih =>
            intro f j hj hj2 hb hfu
            refine J_iload_n cx dX6_isName_16 rfl 0 rfl ?_
            refine J_if_le cx (tgt := 37) dX6_isName_17 (by decide) (fun c_3 => ?_) (fun c_3 => ?_)
            · have c_3 := (nat_if_le (by omega)).mp c_3
              refine J_iconst cx (v := nI 1) dX6_isName_37 (by decide) ?_
              exact J_zret cx rfl (u := ()) (rfl) (by rw [nameB_nI hj0, ← hb, show j = 0 from by omega, nz_0, isInB_nI hj0 (by omega) (by omega), decide_eq_true (by omega)]; rfl) rfl (Nat.le_of_ble_eq_true rfl) (Nat.le_of_ble_eq_true rfl) dX6_isName_38
            · have c_3 := (nat_if_le_f (by omega)).mp c_3
              refine J_iload_n cx dX6_isName_20 rfl 0 rfl ?_
              refine J_bipush cx (v := nI 10) dX6_isName_21 (by decide) ?_
              refine J_irem cx dX6_isName_23 (by decide) ?_
              refine J_top (v' := .int (nI (j % 10))) (congrArg Value.int (pk_rem (by omega) (by decide) (by decide))) ?_
              refine J_if_ne cx (tgt := 29) dX6_isName_24 (by decide) (fun c_4 => ?_) (fun c_4 => ?_)
              · have c_4 := (nat_if_ne (by omega)).mp c_4
                have c_4d := decide_eq_false c_4
                refine J_iload_n cx dX6_isName_29 rfl 0 rfl ?_
                refine J_bipush cx (v := nI 10) dX6_isName_30 (by decide) ?_
                refine J_idiv cx dX6_isName_32 (by decide) ?_
                refine J_top (v' := .int (nI (j / 10))) (congrArg Value.int (pk_div (by omega) (by decide) (by decide))) ?_
                refine J_istore_n cx (L' := [(1, .int (nI (j / 10))), (0, .int (nI j0))]) dX6_isName_33 rfl (by decide) rfl ?_
                refine J_goto cx (tgt := 16) dX6_isName_34 (by decide) ?_
                refine J_L [0, 1] rfl ?_
                exact ih (f - 1) _ (nz_s (by omega) hj).2 (by omega) (by rw [← hb, (nz_s (by omega) hj).1, decide_eq_true (show j % 10 ≠ 0 by omega)]; rfl) (by omega)
              · have c_4 := (nat_if_ne_f (by omega)).mp c_4
                have c_4d := decide_eq_true c_4
                refine J_iconst cx (v := nI 0) dX6_isName_27 (by decide) ?_
                exact J_zret cx rfl (u := ()) (rfl) (by rw [nameB_nI hj0, ← hb, (nz_s (by omega) hj).1, decide_eq_false (show ¬ j % 10 ≠ 0 by omega)]; simp [zb]) rfl (Nat.le_of_ble_eq_true rfl) (Nat.le_of_ble_eq_true rfl) dX6_isName_28
        refine J_L [0, 1] rfl ?_
        exact LP _ 10 _ (by omega) hj0 rfl (Nat.lt_succ_self _)
      · have c_2 := (nat_ic_le_f (by omega) (by omega)).mp c_2
        have c_2d := decide_eq_false (Nat.not_le.mpr c_2)
        refine J_iconst cx (v := nI 0) dX6_isName_12 (by decide) ?_
        exact J_zret cx rfl (u := ()) (rfl) (by rw [nameB_no]; rfl; rw [isInB_nI hj0 (by omega) (by omega)]; exact decide_eq_false (by omega)) rfl (Nat.le_of_ble_eq_true rfl) (Nat.le_of_ble_eq_true rfl) dX6_isName_13
  · refine metJ (by decide) (Nat.le_of_ble_eq_true rfl) ?_
    intro p e s m args below meth c _ _ cx
    refine J_iload_n cx dX6_isName_0 rfl 0 rfl ?_
    refine J_iconst cx (v := nI 1) dX6_isName_1 (by decide) ?_
    refine J_icmp_lt cx (tgt := 12) dX6_isName_2 (by decide) (fun c_1 => ?_) (fun c_1 => ?_)
    · have c_1d := decide_eq_true c_1
      refine J_iconst cx (v := nI 0) dX6_isName_12 (by decide) ?_
      exact J_zret cx rfl (u := ()) (rfl) (by rw [nameB_neg hneg]; rfl) rfl (Nat.le_of_ble_eq_true rfl) (Nat.le_of_ble_eq_true rfl) dX6_isName_13
    · have c_1d := decide_eq_false c_1
      exact absurd (Int32.lt_of_lt_of_le hneg (by decide)) c_1
set_option maxHeartbeats 4000000 in
set_option maxRecDepth 100000 in
theorem tX6_requireName (l : Launch) (D : va_G) (g : Nat → ClassId) (A : Nat → Prop) (ad : Nat → Nat → Nat) (κ : CS) (X : XT) (cs : Nat → CT) (lf : Nat → Int64) (pr : PT)  (xn : Int32) (htr : l.stackTraces = false)  : vx_Met l yX6_requireName (wsA yX6_requireName cX6_requireName 1 none) ({ frames := 6, cells := 1, slots := 6, locals := 90 } : Room) (va_Pc [.int xn] (PRE D g A (iW ad g κ X cs lf pr))) (va_Qv (fun (_ : Unit) => nameB xn = true) (fun _ => PO D A (iW ad g κ X cs lf pr)) A) (XQ (fun E => nameB xn = false ∧ E = "java/lang/IllegalArgumentException") D A (iW ad g κ X cs lf pr)) 1 6 A := by
  refine metX (by decide) (Nat.le_of_ble_eq_true rfl) ?_
  intro p e s m args below meth c _ hex cx
  refine J_iload_n cx dX6_requireName_0 rfl 0 rfl ?_
  refine J_callSi cx kX6_291 (As := [.int xn]) (tX6_isName l D g A ad κ X cs lf pr  xn ) ⟨rfl, rfl, by decide, by decide⟩ ⟨by decide, by decide⟩ rfl rfl (Nat.le_of_ble_eq_true rfl) dX6_requireName_1 ?_
  intro _ _ hr; cases hr
  refine J_ifz_ne cx (tgt := 18) dX6_requireName_4 (by decide) (fun c_1 => ?_) (fun c_1 => ?_)
  · refine J_x ?_
    exact J_vret cx rfl (u := ()) (by assumption) rfl (Nat.le_of_ble_eq_true rfl) (Nat.le_of_ble_eq_true rfl) dX6_requireName_18
  · exact J_throw cx hex htr rfl th_298 (List.mem_of_getElem? (i := 2) rfl) ⟨by assumption, rfl⟩ dX6_requireName_7 dX6_requireName_10 (Or.inr ⟨dX6_requireName_11, dX6_requireName_14, dX6_requireName_17⟩) ⟨by decide, by decide, by decide, by decide⟩ ⟨by decide, by decide⟩
set_option maxHeartbeats 4000000 in
set_option maxRecDepth 100000 in
theorem tX6_requireNameOrNone (l : Launch) (D : va_G) (g : Nat → ClassId) (A : Nat → Prop) (ad : Nat → Nat → Nat) (κ : CS) (X : XT) (cs : Nat → CT) (lf : Nat → Int64) (pr : PT)  (xn : Int32) (htr : l.stackTraces = false)  : vx_Met l yX6_requireNameOrNone (wsA yX6_requireNameOrNone cX6_requireNameOrNone 1 none) ({ frames := 7, cells := 1, slots := 6, locals := 110 } : Room) (va_Pc [.int xn] (PRE D g A (iW ad g κ X cs lf pr))) (va_Qv (fun (_ : Unit) => nm0 xn = true) (fun _ => PO D A (iW ad g κ X cs lf pr)) A) (XQ (fun E => nm0 xn = false ∧ E = "java/lang/IllegalArgumentException") D A (iW ad g κ X cs lf pr)) 1 6 A := by
  refine metX (by decide) (Nat.le_of_ble_eq_true rfl) ?_
  intro p e s m args below meth c _ hex cx
  refine J_iload_n cx dX6_requireNameOrNone_0 rfl 0 rfl ?_
  refine J_if_eq cx (tgt := 8) dX6_requireNameOrNone_1 (by decide) (fun c_1 => ?_) (fun c_1 => ?_)
  · have c_1d := decide_eq_true c_1
    refine J_x ?_
    exact J_vret cx rfl (u := ()) (by unfold nm0; rw [decide_eq_true c_1]; rfl) rfl (Nat.le_of_ble_eq_true rfl) (Nat.le_of_ble_eq_true rfl) dX6_requireNameOrNone_8
  · have c_1d := decide_eq_false c_1
    refine J_iload_n cx dX6_requireNameOrNone_4 rfl 0 rfl ?_
    refine J_xcallSv cx hex kX6_52 (As := [.int xn]) (tX6_requireName l D g A ad κ X cs lf pr  xn htr ) (fun E h => ⟨by unfold nm0; rw [decide_eq_false c_1, h.1]; rfl, h.2⟩) ⟨by decide, by decide⟩ ⟨rfl, rfl, by decide, by decide⟩ ⟨by decide, by decide⟩ rfl rfl (Nat.le_of_ble_eq_true rfl) dX6_requireNameOrNone_5 ?_
    intro _ hr
    have hnm := hr
    refine J_x ?_
    exact J_vret cx rfl (u := ()) (by unfold nm0; rw [hnm]; simp) rfl (Nat.le_of_ble_eq_true rfl) (Nat.le_of_ble_eq_true rfl) dX6_requireNameOrNone_8
set_option maxHeartbeats 4000000 in
set_option maxRecDepth 100000 in
theorem tX6_requireDays (l : Launch) (D : va_G) (g : Nat → ClassId) (A : Nat → Prop) (ad : Nat → Nat → Nat) (κ : CS) (X : XT) (cs : Nat → CT) (lf : Nat → Int64) (pr : PT)  (dy : Int32) (htr : l.stackTraces = false)  : vx_Met l yX6_requireDays (wsA yX6_requireDays cX6_requireDays 1 none) ({ frames := 6, cells := 1, slots := 6, locals := 90 } : Room) (va_Pc [.int dy] (PRE D g A (iW ad g κ X cs lf pr))) (va_Qv (fun (_ : Unit) => isInB dy (nI 1) (nI 999) = true) (fun _ => PO D A (iW ad g κ X cs lf pr)) A) (XQ (fun E => isInB dy (nI 1) (nI 999) = false ∧ E = "java/lang/IllegalArgumentException") D A (iW ad g κ X cs lf pr)) 1 6 A := by
  refine metX (by decide) (Nat.le_of_ble_eq_true rfl) ?_
  intro p e s m args below meth c _ hex cx
  refine J_iload_n cx dX6_requireDays_0 rfl 0 rfl ?_
  refine J_iconst cx (v := nI 1) dX6_requireDays_1 (by decide) ?_
  refine J_icmp_lt cx (tgt := 12) dX6_requireDays_2 (by decide) (fun c_1 => ?_) (fun c_1 => ?_)
  · have c_1d := decide_eq_true c_1
    exact J_throw cx hex htr rfl th_298 (List.mem_of_getElem? (i := 3) rfl) ⟨by first | exact isInB_lo (by assumption) | exact isInB_hi (Int32.not_le.mp (by assumption)), rfl⟩ dX6_requireDays_12 dX6_requireDays_15 (Or.inr ⟨dX6_requireDays_16, dX6_requireDays_19, dX6_requireDays_22⟩) ⟨by decide, by decide, by decide, by decide⟩ ⟨by decide, by decide⟩
  · have c_1d := decide_eq_false c_1
    refine J_iload_n cx dX6_requireDays_5 rfl 0 rfl ?_
    refine J_sipush cx (v := nI 999) dX6_requireDays_6 (by decide) ?_
    refine J_icmp_le cx (tgt := 23) dX6_requireDays_9 (by decide) (fun c_2 => ?_) (fun c_2 => ?_)
    · have c_2d := decide_eq_true c_2
      have c_2c := decide_eq_false (Int32.not_lt.mpr c_2)
      refine J_x ?_
      exact J_vret cx rfl (u := ()) (isInB_in (by assumption) (Int32.not_lt.mpr (by assumption))) rfl (Nat.le_of_ble_eq_true rfl) (Nat.le_of_ble_eq_true rfl) dX6_requireDays_23
    · have c_2d := decide_eq_false c_2
      have c_2c := decide_eq_true (Int32.not_le.mp c_2)
      exact J_throw cx hex htr rfl th_298 (List.mem_of_getElem? (i := 3) rfl) ⟨by first | exact isInB_lo (by assumption) | exact isInB_hi (Int32.not_le.mp (by assumption)), rfl⟩ dX6_requireDays_12 dX6_requireDays_15 (Or.inr ⟨dX6_requireDays_16, dX6_requireDays_19, dX6_requireDays_22⟩) ⟨by decide, by decide, by decide, by decide⟩ ⟨by decide, by decide⟩
set_option maxHeartbeats 4000000 in
set_option maxRecDepth 100000 in
theorem tX6_requireLength (l : Launch) (D : va_G) (g : Nat → ClassId) (A : Nat → Prop) (ad : Nat → Nat → Nat) (κ : CS) (X : XT) (cs : Nat → CT) (lf : Nat → Int64) (pr : PT)  (ln : Int32) (htr : l.stackTraces = false)  : vx_Met l yX6_requireLength (wsA yX6_requireLength cX6_requireLength 1 none) ({ frames := 6, cells := 1, slots := 6, locals := 90 } : Room) (va_Pc [.int ln] (PRE D g A (iW ad g κ X cs lf pr))) (va_Qv (fun (_ : Unit) => isInB ln (nI 0) (nI 5) = true) (fun _ => PO D A (iW ad g κ X cs lf pr)) A) (XQ (fun E => isInB ln (nI 0) (nI 5) = false ∧ E = "java/lang/IllegalArgumentException") D A (iW ad g κ X cs lf pr)) 1 6 A := by
  refine metX (by decide) (Nat.le_of_ble_eq_true rfl) ?_
  intro p e s m args below meth c _ hex cx
  refine J_iload_n cx dX6_requireLength_0 rfl 0 rfl ?_
  refine J_if_lt cx (tgt := 9) dX6_requireLength_1 (by decide) (fun c_1 => ?_) (fun c_1 => ?_)
  · have c_1d := decide_eq_true c_1
    exact J_throw cx hex htr rfl th_298 (List.mem_of_getElem? (i := 6) rfl) ⟨by first | exact isInB_lo (by assumption) | exact isInB_hi (Int32.not_le.mp (by assumption)), rfl⟩ dX6_requireLength_9 dX6_requireLength_12 (Or.inr ⟨dX6_requireLength_13, dX6_requireLength_16, dX6_requireLength_19⟩) ⟨by decide, by decide, by decide, by decide⟩ ⟨by decide, by decide⟩
  · have c_1d := decide_eq_false c_1
    refine J_iload_n cx dX6_requireLength_4 rfl 0 rfl ?_
    refine J_iconst cx (v := nI 5) dX6_requireLength_5 (by decide) ?_
    refine J_icmp_le cx (tgt := 20) dX6_requireLength_6 (by decide) (fun c_2 => ?_) (fun c_2 => ?_)
    · have c_2d := decide_eq_true c_2
      have c_2c := decide_eq_false (Int32.not_lt.mpr c_2)
      refine J_x ?_
      exact J_vret cx rfl (u := ()) (isInB_in (by assumption) (Int32.not_lt.mpr (by assumption))) rfl (Nat.le_of_ble_eq_true rfl) (Nat.le_of_ble_eq_true rfl) dX6_requireLength_20
    · have c_2d := decide_eq_false c_2
      have c_2c := decide_eq_true (Int32.not_le.mp c_2)
      exact J_throw cx hex htr rfl th_298 (List.mem_of_getElem? (i := 6) rfl) ⟨by first | exact isInB_lo (by assumption) | exact isInB_hi (Int32.not_le.mp (by assumption)), rfl⟩ dX6_requireLength_9 dX6_requireLength_12 (Or.inr ⟨dX6_requireLength_13, dX6_requireLength_16, dX6_requireLength_19⟩) ⟨by decide, by decide, by decide, by decide⟩ ⟨by decide, by decide⟩
set_option maxHeartbeats 4000000 in
set_option maxRecDepth 100000 in
theorem tX6_requireDay (l : Launch) (D : va_G) (g : Nat → ClassId) (A : Nat → Prop) (ad : Nat → Nat → Nat) (κ : CS) (X : XT) (cs : Nat → CT) (lf : Nat → Int64) (pr : PT)  (dy : Int32) (htr : l.stackTraces = false)  : vx_Met l yX6_requireDay (wsA yX6_requireDay cX6_requireDay 1 none) ({ frames := 6, cells := 1, slots := 6, locals := 90 } : Room) (va_Pc [.int dy] (PRE D g A (iW ad g κ X cs lf pr))) (va_Qv (fun (_ : Unit) => decide (dy < 0) = false) (fun _ => PO D A (iW ad g κ X cs lf pr)) A) (XQ (fun E => decide (dy < 0) = true ∧ E = "java/lang/IllegalArgumentException") D A (iW ad g κ X cs lf pr)) 1 6 A := by
  refine metX (by decide) (Nat.le_of_ble_eq_true rfl) ?_
  intro p e s m args below meth c _ hex cx
  refine J_iload_n cx dX6_requireDay_0 rfl 0 rfl ?_
  refine J_if_ge cx (tgt := 15) dX6_requireDay_1 (by decide) (fun c_1 => ?_) (fun c_1 => ?_)
  · have c_1d := decide_eq_true c_1
    have c_1c := decide_eq_false (Int32.not_lt.mpr c_1)
    refine J_x ?_
    exact J_vret cx rfl (u := ()) (decide_eq_false (Int32.not_lt.mpr (by assumption))) rfl (Nat.le_of_ble_eq_true rfl) (Nat.le_of_ble_eq_true rfl) dX6_requireDay_15
  · have c_1d := decide_eq_false c_1
    have c_1c := decide_eq_true (Int32.not_le.mp c_1)
    exact J_throw cx hex htr rfl th_298 (List.mem_of_getElem? (i := 13) rfl) ⟨decide_eq_true (Int32.not_le.mp (by assumption)), rfl⟩ dX6_requireDay_4 dX6_requireDay_7 (Or.inr ⟨dX6_requireDay_8, dX6_requireDay_11, dX6_requireDay_14⟩) ⟨by decide, by decide, by decide, by decide⟩ ⟨by decide, by decide⟩
set_option maxHeartbeats 4000000 in
set_option maxRecDepth 100000 in
theorem tX6_requireAuthority (l : Launch) (D : va_G) (g : Nat → ClassId) (A : Nat → Prop) (ad : Nat → Nat → Nat) (κ : CS) (X : XT) (cs : Nat → CT) (lf : Nat → Int64) (pr : PT)  (i : Nat) (htr : l.stackTraces = false) (hI : InvM κ) (hi : i < κ.2.2.1 0) : vx_Met l yX6_requireAuthority (wsA yX6_requireAuthority cX6_requireAuthority 1 none) ({ frames := 6, cells := 1, slots := 6, locals := 90 } : Room) (va_Pc [.ref (ad 1 i)] (PRE D g A (iW ad g κ X cs lf pr))) (va_Qv (fun (_ : Unit) => κ.2.1 0 i = true) (fun _ => PO D A (iW ad g κ X cs lf pr)) A) (XQ (fun E => κ.2.1 0 i = false ∧ E = "java/lang/IllegalStateException") D A (iW ad g κ X cs lf pr)) 1 6 A := by
  refine metX (by decide) (Nat.le_of_ble_eq_true rfl) ?_
  intro p e s m args below meth c _ hex cx
  refine J_aload_n cx dX6_requireAuthority_0 rfl 0 rfl ?_
  refine J_callVi cx kX6_159 (As := []) (tX0_isAuthority l D g A ad κ X cs lf pr  i hi) ⟨rfl, rfl, by decide, by decide⟩ ⟨by decide, by decide⟩ rfl (17 + i) (iG_c (by first | assumption | omega)) rfl rfl (Nat.le_of_ble_eq_true rfl) dX6_requireAuthority_1 ?_
  intro _ _ hr; cases hr
  refine J_top (v' := .int (zb (κ.2.1 0 i))) (by rw [len_au hI hi]) ?_
  refine J_ifz_ne cx (tgt := 18) dX6_requireAuthority_4 (by decide) (fun c_1 => ?_) (fun c_1 => ?_)
  · refine J_x ?_
    exact J_vret cx rfl (u := ()) (by assumption) rfl (Nat.le_of_ble_eq_true rfl) (Nat.le_of_ble_eq_true rfl) dX6_requireAuthority_18
  · exact J_throw cx hex htr rfl th_89 (List.mem_of_getElem? (i := 4) rfl) ⟨by assumption, rfl⟩ dX6_requireAuthority_7 dX6_requireAuthority_10 (Or.inr ⟨dX6_requireAuthority_11, dX6_requireAuthority_14, dX6_requireAuthority_17⟩) ⟨by decide, by decide, by decide, by decide⟩ ⟨by decide, by decide⟩
set_option maxHeartbeats 4000000 in
set_option maxRecDepth 100000 in
theorem tX6_requireRoom (l : Launch) (D : va_G) (g : Nat → ClassId) (A : Nat → Prop) (ad : Nat → Nat → Nat) (κ : CS) (X : XT) (cs : Nat → CT) (lf : Nat → Int64) (pr : PT)   (htr : l.stackTraces = false) (hn : κ.2.2.1 0 ≤ 40) : vx_Met l yX6_requireRoom (wsA yX6_requireRoom cX6_requireRoom 1 none) ({ frames := 6, cells := 1, slots := 6, locals := 90 } : Room) (va_Pc [.ref (ad 0 0)] (PRE D g A (iW ad g κ X cs lf pr))) (va_Qv (fun (_ : Unit) => κ.2.2.1 0 < 40) (fun _ => PO D A (iW ad g κ X cs lf pr)) A) (XQ (fun E => κ.2.2.1 0 = 40 ∧ E = "java/lang/IllegalStateException") D A (iW ad g κ X cs lf pr)) 1 6 A := by
  refine metX (by decide) (Nat.le_of_ble_eq_true rfl) ?_
  intro p e s m args below meth c _ hex cx
  refine J_aload_n cx dX6_requireRoom_0 rfl 0 rfl ?_
  refine J_get cx (v := .int (nI (κ.2.2.1 0))) fX6_42 0 rfl rfl dX6_requireRoom_1 ?_
  refine J_bipush cx (v := nI 40) dX6_requireRoom_4 (by decide) ?_
  refine J_icmp_lt cx (tgt := 20) dX6_requireRoom_6 (by decide) (fun c_1 => ?_) (fun c_1 => ?_)
  · have c_1 := (nat_ic_lt (by omega) (by omega)).mp c_1
    have c_1d := decide_eq_true c_1
    refine J_x ?_
    exact J_vret cx rfl (u := ()) (by omega) rfl (Nat.le_of_ble_eq_true rfl) (Nat.le_of_ble_eq_true rfl) dX6_requireRoom_20
  · have c_1 := (nat_ic_lt_f (by omega) (by omega)).mp c_1
    have c_1d := decide_eq_false (Nat.not_lt.mpr c_1)
    exact J_throw cx hex htr rfl th_89 (List.mem_of_getElem? (i := 5) rfl) ⟨by omega, rfl⟩ dX6_requireRoom_9 dX6_requireRoom_12 (Or.inr ⟨dX6_requireRoom_13, dX6_requireRoom_16, dX6_requireRoom_19⟩) ⟨by decide, by decide, by decide, by decide⟩ ⟨by decide, by decide⟩
