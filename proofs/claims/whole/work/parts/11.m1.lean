set_option maxHeartbeats 4000000 in
set_option maxRecDepth 100000 in
theorem tX7_thrown (l : Launch) (D : va_G) (g : Nat → ClassId) (A : Nat → Prop) (ad : Nat → Nat) (κ : CS) (th : Int32) (ch : Nat → Nat) (cm rm : Nat) (row : Nat → Int64)    : CtI l D g A yX7_thrown cX7_thrown 1 .int ({ frames := 0, cells := 0, slots := 0, locals := 0 } : Room) [.ref (ad 0)] (mW ad g κ th ch cm rm row) (th) (mW ad g κ th ch cm rm row) := by
  refine metJ (by decide) (Nat.le_of_ble_eq_true rfl) ?_
  intro p e s m args below meth c _ _ cx
  refine J_aload_n cx dX7_thrown_0 rfl 0 rfl ?_
  refine J_get cx (v := .int th) fX7_63 0 rfl rfl dX7_thrown_1 ?_
  exact J_iret cx rfl (u := ()) rfl rfl (Nat.le_of_ble_eq_true rfl) (Nat.le_of_ble_eq_true rfl) dX7_thrown_4
set_option maxHeartbeats 4000000 in
set_option maxRecDepth 100000 in
theorem tX7_tells (l : Launch) (D : va_G) (g : Nat → ClassId) (A : Nat → Prop) (ad : Nat → Nat) (κ : CS) (th : Int32) (ch : Nat → Nat) (cm rm : Nat) (row : Nat → Int64)  (v : Int32)  : CtI l D g A yX7_tells cX7_tells 2 .int ({ frames := 0, cells := 0, slots := 0, locals := 0 } : Room) [.ref (ad 0), .int v] (mW ad g κ th ch cm rm row) (v) (mW ad g κ (nI 0) ch cm rm row) := by
  refine metJ (by decide) (Nat.le_of_ble_eq_true rfl) ?_
  intro p e s m args below meth c _ _ cx
  refine J_aload_n cx dX7_tells_0 rfl 0 rfl ?_
  refine J_iconst cx (v := nI 0) dX7_tells_1 (by decide) ?_
  refine J_put cx (ws' := (mW ad g κ (nI 0) ch cm rm row)) fX7_63 ⟨tyX7_ok, nmX7, tyX7_ok 24 (by decide)⟩ rfl 0 rfl rfl rfl (Nat.le_of_ble_eq_true rfl) rfl dX7_tells_2 ?_
  refine J_iload_n cx dX7_tells_5 rfl 1 rfl ?_
  exact J_iret cx rfl (u := ()) rfl rfl (Nat.le_of_ble_eq_true rfl) (Nat.le_of_ble_eq_true rfl) dX7_tells_6
set_option maxHeartbeats 4000000 in
set_option maxRecDepth 100000 in
theorem tX7_isIn (l : Launch) (D : va_G) (g : Nat → ClassId) (A : Nat → Prop) (ad : Nat → Nat) (κ : CS) (th : Int32) (ch : Nat → Nat) (cm rm : Nat) (row : Nat → Int64)  (v : Int32) (lo : Int32) (hi : Int32)  : CtI l D g A yX7_isIn cX7_isIn 3 .boolean ({ frames := 0, cells := 0, slots := 0, locals := 0 } : Room) [.int v, .int lo, .int hi] (mW ad g κ th ch cm rm row) (zb (isInB v lo hi)) (mW ad g κ th ch cm rm row) := by
  refine metJ (by decide) (Nat.le_of_ble_eq_true rfl) ?_
  intro p e s m args below meth c _ _ cx
  refine J_iload_n cx dX7_isIn_0 rfl 0 rfl ?_
  refine J_iload_n cx dX7_isIn_1 rfl 1 rfl ?_
  refine J_icmp_lt cx (tgt := 14) dX7_isIn_2 (by decide) (fun c_1 => ?_) (fun c_1 => ?_)
  · have c_1d := decide_eq_true c_1
    refine J_iconst cx (v := nI 0) dX7_isIn_14 (by decide) ?_
    exact J_zret cx rfl (u := ()) (rfl) (by first | rw [isInB_lo c_1]; rfl | rw [isInB_hi c_2]; rfl | rw [isInB_in c_1 c_2]; rfl) rfl (Nat.le_of_ble_eq_true rfl) (Nat.le_of_ble_eq_true rfl) dX7_isIn_15
  · have c_1d := decide_eq_false c_1
    refine J_iload_n cx dX7_isIn_5 rfl 0 rfl ?_
    refine J_iload_n cx dX7_isIn_6 rfl 2 rfl ?_
    refine J_icmp_gt cx (tgt := 14) dX7_isIn_7 (by decide) (fun c_2 => ?_) (fun c_2 => ?_)
    · have c_2d := decide_eq_true c_2
      refine J_iconst cx (v := nI 0) dX7_isIn_14 (by decide) ?_
      exact J_zret cx rfl (u := ()) (rfl) (by first | rw [isInB_lo c_1]; rfl | rw [isInB_hi c_2]; rfl | rw [isInB_in c_1 c_2]; rfl) rfl (Nat.le_of_ble_eq_true rfl) (Nat.le_of_ble_eq_true rfl) dX7_isIn_15
    · have c_2d := decide_eq_false c_2
      refine J_iconst cx (v := nI 1) dX7_isIn_10 (by decide) ?_
      refine J_goto cx (tgt := 15) dX7_isIn_11 (by decide) ?_
      exact J_zret cx rfl (u := ()) (rfl) (by first | rw [isInB_lo c_1]; rfl | rw [isInB_hi c_2]; rfl | rw [isInB_in c_1 c_2]; rfl) rfl (Nat.le_of_ble_eq_true rfl) (Nat.le_of_ble_eq_true rfl) dX7_isIn_15
set_option maxHeartbeats 4000000 in
set_option maxRecDepth 100000 in
theorem tX7_isThrown (l : Launch) (D : va_G) (g : Nat → ClassId) (A : Nat → Prop) (ad : Nat → Nat) (κ : CS) (th : Int32) (ch : Nat → Nat) (cm rm : Nat) (row : Nat → Int64)  (is : Bool) (as : Int32)  : CtI l D g A yX7_isThrown cX7_isThrown 3 .boolean ({ frames := 0, cells := 0, slots := 0, locals := 0 } : Room) [.ref (ad 0), .int (zb is), .int as] (mW ad g κ th ch cm rm row) (zb is) (mW ad g κ (if is then as else nI 0) ch cm rm row) := by
  refine metJ (by decide) (Nat.le_of_ble_eq_true rfl) ?_
  intro p e s m args below meth c _ _ cx
  refine J_aload_n cx dX7_isThrown_0 rfl 0 rfl ?_
  refine J_iload_n cx dX7_isThrown_1 rfl 1 rfl ?_
  refine J_ifz_eq cx (tgt := 9) dX7_isThrown_2 (by decide) (fun c_1 => ?_) (fun c_1 => ?_)
  · refine J_iconst cx (v := nI 0) dX7_isThrown_9 (by decide) ?_
    refine J_put cx (ws' := (mW ad g κ (nI 0) ch cm rm row)) fX7_63 ⟨tyX7_ok, nmX7, tyX7_ok 24 (by decide)⟩ rfl 0 rfl rfl rfl (Nat.le_of_ble_eq_true rfl) rfl dX7_isThrown_10 ?_
    refine J_iload_n cx dX7_isThrown_13 rfl 1 rfl ?_
    exact J_zret cx rfl (u := ()) (zb_nar _) rfl (by simp [*]) (Nat.le_of_ble_eq_true rfl) (Nat.le_of_ble_eq_true rfl) dX7_isThrown_14
  · refine J_iload_n cx dX7_isThrown_5 rfl 2 rfl ?_
    refine J_goto cx (tgt := 10) dX7_isThrown_6 (by decide) ?_
    refine J_put cx (ws' := (mW ad g κ as ch cm rm row)) fX7_63 ⟨tyX7_ok, nmX7, tyX7_ok 24 (by decide)⟩ rfl 0 rfl rfl rfl (Nat.le_of_ble_eq_true rfl) rfl dX7_isThrown_10 ?_
    refine J_iload_n cx dX7_isThrown_13 rfl 1 rfl ?_
    exact J_zret cx rfl (u := ()) (zb_nar _) rfl (by simp [*]) (Nat.le_of_ble_eq_true rfl) (Nat.le_of_ble_eq_true rfl) dX7_isThrown_14
set_option maxHeartbeats 4000000 in
set_option maxRecDepth 100000 in
theorem tX7_isName (l : Launch) (D : va_G) (g : Nat → ClassId) (A : Nat → Prop) (ad : Nat → Nat) (κ : CS) (th : Int32) (ch : Nat → Nat) (cm rm : Nat) (row : Nat → Int64)  (xn : Int32)  : CtI l D g A yX7_isName cX7_isName 3 .boolean ({ frames := 1, cells := 0, slots := 0, locals := 22 } : Room) [.int xn] (mW ad g κ th ch cm rm row) (zb (nameB xn)) (mW ad g κ th ch cm rm row) := by
  rcases i32_cases xn with ⟨j0, hj0, rfl⟩ | hneg
  · refine metJ (by decide) (Nat.le_of_ble_eq_true rfl) ?_
    intro p e s m args below meth c _ _ cx
    refine J_iload_n cx dX7_isName_0 rfl 0 rfl ?_
    refine J_iconst cx (v := nI 1) dX7_isName_1 (by decide) ?_
    refine J_sipush cx (v := nI 9999) dX7_isName_2 (by decide) ?_
    refine J_callSi cx kX7_67 (As := [.int (nI j0), .int (nI 1), .int (nI 9999)]) (tX7_isIn l D g A ad κ th ch cm rm row  (nI j0) (nI 1) (nI 9999) ) ⟨rfl, rfl, by decide, by decide⟩ ⟨by decide, by decide⟩ rfl rfl (Nat.le_of_ble_eq_true rfl) dX7_isName_5 ?_
    intro _ _ hr; cases hr
    refine J_istore_n cx (L' := [(1, .int (zb (isInB (nI j0) (nI 1) (nI 9999)))), (0, .int (nI j0))]) dX7_isName_8 rfl (by decide) rfl ?_
    refine J_iload_n cx dX7_isName_9 rfl 1 rfl ?_
    refine J_istore_n cx (L' := [(2, .int (nI j0)), (1, .int (zb (isInB (nI j0) (nI 1) (nI 9999)))), (0, .int (nI j0))]) dX7_isName_10 rfl (by decide) rfl ?_
    have LP : ∀ (fu : Nat) (f : Nat) (b : Bool) (j : Nat), (j < 10 ^ f) → (j < 2147483648) → ((b && nz f j) = (isInB (nI j0) (nI 1) (nI 9999) && nz 10 j0)) → j < fu → J p l e ({ frames := 1, cells := 0, slots := 0, locals := 22 } : Room) s m args below meth c D A 3 (MQ below (va_Qi (fun (r : Int32) (_ : Unit) => r = (zb (nameB (nI j0)))) (fun _ => PO D A (mW ad g κ th ch cm rm row)) A) args s 0 0 A) 0 0 (mW ad g κ th ch cm rm row) [(1, .int (zb b)), (2, .int (nI j)), (0, .int (nI j0))] 11 [] := by
      intro fu; induction fu with
      | zero => intro f b j hj hj2 hb hfu; exact absurd hfu (Nat.not_lt_zero _)
      | succ fu ih =>
        intro f b j hj hj2 hb hfu
        refine J_iload_n cx dX7_isName_11 rfl 1 rfl ?_
        refine J_if_le cx (tgt := 38) dX7_isName_12 (by decide) (fun c_1 => ?_) (fun c_1 => ?_)
        · have c_1 := (nat_if_le (by omega)).mp c_1
          refine J_iload_n cx dX7_isName_38 rfl 0 rfl ?_
          exact J_zret cx rfl (u := ()) (zb_nar _) (by rw [nameB_nI hj0, ← hb, c_1]; simp [nz_0]) rfl (Nat.le_of_ble_eq_true rfl) (Nat.le_of_ble_eq_true rfl) dX7_isName_39
        · have c_1 := (nat_if_le_f (by omega)).mp c_1
          refine J_iload_n cx dX7_isName_15 rfl 0 rfl ?_
          refine J_iload_n cx dX7_isName_16 rfl 1 rfl ?_
          refine J_bipush cx (v := nI 10) dX7_isName_17 (by decide) ?_
          refine J_irem cx dX7_isName_19 (by decide) ?_
          refine J_top (v' := .int (nI (j % 10))) (congrArg Value.int (pk_rem (by omega) (by decide) (by decide))) ?_
          refine J_if_eq cx (tgt := 27) dX7_isName_20 (by decide) (fun c_2 => ?_) (fun c_2 => ?_)
          · have c_2 := (nat_if_eq (by omega)).mp c_2
            have c_2d := decide_eq_true c_2
            refine J_iconst cx (v := nI 0) dX7_isName_27 (by decide) ?_
            refine J_iand cx dX7_isName_28 ?_
            refine J_top (v' := .int (zb (b && false))) (congrArg Value.int (zb_and b false)) ?_
            refine J_istore_n cx (L' := [(1, .int (zb (b && false))), (2, .int (nI j)), (0, .int (nI j0))]) dX7_isName_29 rfl (by decide) rfl ?_
            refine J_iload_n cx dX7_isName_30 rfl 1 rfl ?_
            refine J_bipush cx (v := nI 10) dX7_isName_31 (by decide) ?_
            refine J_idiv cx dX7_isName_33 (by decide) ?_
            refine J_top (v' := .int (nI (j / 10))) (congrArg Value.int (pk_div (by omega) (by decide) (by decide))) ?_
            refine J_istore_n cx (L' := [(2, .int (nI (j / 10))), (1, .int (zb (b && false))), (0, .int (nI j0))]) dX7_isName_34 rfl (by decide) rfl ?_
            refine J_goto cx (tgt := 11) dX7_isName_35 (by decide) ?_
            refine J_L [1, 0, 2] rfl ?_
            exact ih (f - 1) _ _ (nz_s c_1 hj).2 (by omega) (by rw [← hb, (nz_s c_1 hj).1]; simp [c_2]) (by omega)
          · have c_2 := (nat_if_eq_f (by omega)).mp c_2
            have c_2d := decide_eq_false c_2
            refine J_iconst cx (v := nI 1) dX7_isName_23 (by decide) ?_
            refine J_goto cx (tgt := 28) dX7_isName_24 (by decide) ?_
            refine J_iand cx dX7_isName_28 ?_
            refine J_top (v' := .int (zb (b && true))) (congrArg Value.int (zb_and b true)) ?_
            refine J_istore_n cx (L' := [(1, .int (zb (b && true))), (2, .int (nI j)), (0, .int (nI j0))]) dX7_isName_29 rfl (by decide) rfl ?_
            refine J_iload_n cx dX7_isName_30 rfl 1 rfl ?_
            refine J_bipush cx (v := nI 10) dX7_isName_31 (by decide) ?_
            refine J_idiv cx dX7_isName_33 (by decide) ?_
            refine J_top (v' := .int (nI (j / 10))) (congrArg Value.int (pk_div (by omega) (by decide) (by decide))) ?_
            refine J_istore_n cx (L' := [(2, .int (nI (j / 10))), (1, .int (zb (b && true))), (0, .int (nI j0))]) dX7_isName_34 rfl (by decide) rfl ?_
            refine J_goto cx (tgt := 11) dX7_isName_35 (by decide) ?_
            refine J_L [1, 0, 2] rfl ?_
            exact ih (f - 1) _ _ (nz_s c_1 hj).2 (by omega) (by rw [← hb, (nz_s c_1 hj).1]; simp [c_2]) (by omega)
    refine J_L [1, 0, 2] rfl ?_
    exact LP _ 10 _ _ (by omega) hj0 rfl (Nat.lt_succ_self _)
  · refine metJ (by decide) (Nat.le_of_ble_eq_true rfl) ?_
    intro p e s m args below meth c _ _ cx
    refine J_iload_n cx dX7_isName_0 rfl 0 rfl ?_
    refine J_iconst cx (v := nI 1) dX7_isName_1 (by decide) ?_
    refine J_sipush cx (v := nI 9999) dX7_isName_2 (by decide) ?_
    refine J_callSi cx kX7_67 (As := [.int xn, .int (nI 1), .int (nI 9999)]) (tX7_isIn l D g A ad κ th ch cm rm row  xn (nI 1) (nI 9999) ) ⟨rfl, rfl, by decide, by decide⟩ ⟨by decide, by decide⟩ rfl rfl (Nat.le_of_ble_eq_true rfl) dX7_isName_5 ?_
    intro _ _ hr; cases hr
    refine J_istore_n cx (L' := [(1, .int (zb (isInB xn (nI 1) (nI 9999)))), (0, .int xn)]) dX7_isName_8 rfl (by decide) rfl ?_
    refine J_iload_n cx dX7_isName_9 rfl 1 rfl ?_
    refine J_istore_n cx (L' := [(2, .int xn), (1, .int (zb (isInB xn (nI 1) (nI 9999)))), (0, .int xn)]) dX7_isName_10 rfl (by decide) rfl ?_
    refine J_iload_n cx dX7_isName_11 rfl 0 rfl ?_
    refine J_if_le cx (tgt := 38) dX7_isName_12 (by decide) (fun c_1 => ?_) (fun c_1 => ?_)
    · have c_1d := decide_eq_true c_1
      have c_1c := decide_eq_false (Int32.not_lt.mpr c_1)
      refine J_iload_n cx dX7_isName_38 rfl 1 rfl ?_
      exact J_zret cx rfl (u := ()) (zb_nar _) (by rw [isInB_neg hneg (by decide), nameB_neg hneg]) rfl (Nat.le_of_ble_eq_true rfl) (Nat.le_of_ble_eq_true rfl) dX7_isName_39
    · have c_1d := decide_eq_false c_1
      have c_1c := decide_eq_true (Int32.not_le.mp c_1)
      exact absurd (Int32.le_of_lt hneg) c_1
set_option maxHeartbeats 4000000 in
set_option maxRecDepth 100000 in
theorem tX7_isUnder (l : Launch) (D : va_G) (g : Nat → ClassId) (A : Nat → Prop) (ad : Nat → Nat) (κ : CS) (th : Int32) (ch : Nat → Nat) (cm rm : Nat) (row : Nat → Int64)  (k0 : Nat) (o : Nat) (hk0 : k0 < 2147483648) (ho : o < 2147483648) : CtI l D g A yX7_isUnder cX7_isUnder 3 .boolean ({ frames := 0, cells := 0, slots := 0, locals := 0 } : Room) [.int (nI k0), .int (nI o)] (mW ad g κ th ch cm rm row) (zb (und 10 k0 o)) (mW ad g κ th ch cm rm row) := by
  refine metJ (by decide) (Nat.le_of_ble_eq_true rfl) ?_
  intro p e s m args below meth c _ _ cx
  refine J_iload_n cx dX7_isUnder_0 rfl 0 rfl ?_
  refine J_istore_n cx (L' := [(2, .int (nI k0)), (0, .int (nI k0)), (1, .int (nI o))]) dX7_isUnder_1 rfl (by decide) rfl ?_
  have LP : ∀ (fu : Nat) (f : Nat) (k : Nat), (k < 10 ^ f) → (k < 2147483648) → (und f k o = und 10 k0 o) → k < fu → J p l e ({ frames := 0, cells := 0, slots := 0, locals := 0 } : Room) s m args below meth c D A 3 (MQ below (va_Qi (fun (r : Int32) (_ : Unit) => r = (zb (und 10 k0 o))) (fun _ => PO D A (mW ad g κ th ch cm rm row)) A) args s 0 0 A) 0 0 (mW ad g κ th ch cm rm row) [(2, .int (nI k)), (0, .int (nI k0)), (1, .int (nI o))] 2 [] := by
    intro fu; induction fu with
    | zero => intro f k hk hk2 hb hfu; exact absurd hfu (Nat.not_lt_zero _)
    | succ fu ih =>
      intro f k hk hk2 hb hfu
      refine J_iload_n cx dX7_isUnder_2 rfl 0 rfl ?_
      refine J_iload_n cx dX7_isUnder_3 rfl 2 rfl ?_
      refine J_icmp_le cx (tgt := 15) dX7_isUnder_4 (by decide) (fun c_1 => ?_) (fun c_1 => ?_)
      · have c_1 := (nat_ic_le (by omega) (by omega)).mp c_1
        have c_1d := decide_eq_true c_1
        refine J_iload_n cx dX7_isUnder_15 rfl 0 rfl ?_
        refine J_iload_n cx dX7_isUnder_16 rfl 2 rfl ?_
        refine J_icmp_ne cx (tgt := 24) dX7_isUnder_17 (by decide) (fun c_2 => ?_) (fun c_2 => ?_)
        · have c_2 := (nat_ic_ne (by omega) (by omega)).mp c_2
          have c_2d := decide_eq_false c_2
          refine J_iconst cx (v := nI 0) dX7_isUnder_24 (by decide) ?_
          exact J_zret cx rfl (u := ()) (rfl) (by rw [← hb, und_le c_1]; simp [zb, *]) rfl (Nat.le_of_ble_eq_true rfl) (Nat.le_of_ble_eq_true rfl) dX7_isUnder_25
        · have c_2 := (nat_ic_ne_f (by omega) (by omega)).mp c_2
          have c_2d := decide_eq_true c_2
          refine J_iconst cx (v := nI 1) dX7_isUnder_20 (by decide) ?_
          refine J_goto cx (tgt := 25) dX7_isUnder_21 (by decide) ?_
          exact J_zret cx rfl (u := ()) (rfl) (by rw [← hb, und_le c_1]; simp [zb, *]) rfl (Nat.le_of_ble_eq_true rfl) (Nat.le_of_ble_eq_true rfl) dX7_isUnder_25
      · have c_1 := (nat_ic_le_f (by omega) (by omega)).mp c_1
        have c_1d := decide_eq_false (Nat.not_le.mpr c_1)
        refine J_iload_n cx dX7_isUnder_7 rfl 0 rfl ?_
        refine J_bipush cx (v := nI 10) dX7_isUnder_8 (by decide) ?_
        refine J_idiv cx dX7_isUnder_10 (by decide) ?_
        refine J_top (v' := .int (nI (k / 10))) (congrArg Value.int (pk_div (by omega) (by decide) (by decide))) ?_
        refine J_istore_n cx (L' := [(2, .int (nI (k / 10))), (0, .int (nI k0)), (1, .int (nI o))]) dX7_isUnder_11 rfl (by decide) rfl ?_
        refine J_goto cx (tgt := 2) dX7_isUnder_12 (by decide) ?_
        refine J_L [0, 1, 2] rfl ?_
        exact ih (f - 1) _ (und_s c_1 hk).2 (by omega) (by rw [← hb, (und_s c_1 hk).1]) (by omega)
  refine J_L [0, 1, 2] rfl ?_
  exact LP _ 10 _ (by omega) (by omega) rfl (Nat.lt_succ_self _)
set_option maxHeartbeats 4000000 in
set_option maxRecDepth 100000 in
theorem tX7_isThere (l : Launch) (D : va_G) (g : Nat → ClassId) (A : Nat → Prop) (ad : Nat → Nat) (κ : CS) (th : Int32) (ch : Nat → Nat) (cm rm : Nat) (row : Nat → Int64)  (xc : Int32) (hn : κ.2.2.1 0 ≤ 40) : CtI l D g A yX7_isThere cX7_isThere 2 .boolean ({ frames := 1, cells := 0, slots := 0, locals := 22 } : Room) [.ref (ad 0), .int xc] (mW ad g κ th ch cm rm row) (zb (inR (κ.2.2.1 0) xc)) (mW ad g κ th ch cm rm row) := by
  refine metJ (by decide) (Nat.le_of_ble_eq_true rfl) ?_
  intro p e s m args below meth c _ _ cx
  refine J_iload_n cx dX7_isThere_0 rfl 1 rfl ?_
  refine J_iconst cx (v := nI 0) dX7_isThere_1 (by decide) ?_
  refine J_aload_n cx dX7_isThere_2 rfl 0 rfl ?_
  refine J_get cx (v := .int (nI (κ.2.2.1 0))) fX7_71 0 rfl rfl dX7_isThere_3 ?_
  refine J_iconst cx (v := nI 1) dX7_isThere_6 (by decide) ?_
  refine J_isub cx dX7_isThere_7 ?_
  refine J_callSi cx kX7_67 (As := [.int xc, .int (nI 0), .int ((nI (κ.2.2.1 0)) - (nI 1))]) (tX7_isIn l D g A ad κ th ch cm rm row  xc (nI 0) ((nI (κ.2.2.1 0)) - (nI 1)) ) ⟨rfl, rfl, by decide, by decide⟩ ⟨by decide, by decide⟩ rfl rfl (Nat.le_of_ble_eq_true rfl) dX7_isThere_8 ?_
  intro _ _ hr; cases hr
  exact J_zret cx rfl (u := ()) (zb_nar _) (by rw [isInB_inR hn]) rfl (Nat.le_of_ble_eq_true rfl) (Nat.le_of_ble_eq_true rfl) dX7_isThere_11
set_option maxHeartbeats 4000000 in
set_option maxRecDepth 100000 in
theorem tX7_isNone (l : Launch) (D : va_G) (g : Nat → ClassId) (A : Nat → Prop) (ad : Nat → Nat) (κ : CS) (th : Int32) (ch : Nat → Nat) (cm rm : Nat) (row : Nat → Int64)  (xc : Int32) (hn : κ.2.2.1 0 ≤ 40) : CtI l D g A yX7_isNone cX7_isNone 2 .boolean ({ frames := 2, cells := 0, slots := 0, locals := 43 } : Room) [.ref (ad 0), .int xc] (mW ad g κ th ch cm rm row) (zb (!inR (κ.2.2.1 0) xc)) (mW ad g κ (if inR (κ.2.2.1 0) xc then nI 0 else nI 1) ch cm rm row) := by
  refine metJ (by decide) (Nat.le_of_ble_eq_true rfl) ?_
  intro p e s m args below meth c _ _ cx
  refine J_aload_n cx dX7_isNone_0 rfl 0 rfl ?_
  refine J_aload_n cx dX7_isNone_1 rfl 0 rfl ?_
  refine J_iload_n cx dX7_isNone_2 rfl 1 rfl ?_
  refine J_callVi cx kX7_74 (As := [.int xc]) (tX7_isThere l D g A ad κ th ch cm rm row  xc (by first | assumption | omega)) ⟨rfl, rfl, by decide, by decide⟩ ⟨by decide, by decide⟩ rfl 0 rfl rfl rfl (Nat.le_of_ble_eq_true rfl) dX7_isNone_3 ?_
  intro _ _ hr; cases hr
  refine J_ifz_ne cx (tgt := 13) dX7_isNone_6 (by decide) (fun c_1 => ?_) (fun c_1 => ?_)
  · refine J_iconst cx (v := nI 0) dX7_isNone_13 (by decide) ?_
    refine J_iconst cx (v := nI 1) dX7_isNone_14 (by decide) ?_
    refine J_callVi cx kX7_78 (As := [.int (nI 0), .int (nI 1)]) (tX7_isThrown l D g A ad κ th ch cm rm row  false (nI 1) ) ⟨rfl, rfl, by decide, by decide⟩ ⟨by decide, by decide⟩ rfl 0 rfl rfl rfl (Nat.le_of_ble_eq_true rfl) dX7_isNone_15 ?_
    intro _ _ hr; cases hr
    exact J_zret cx rfl (u := ()) (zb_nar _) (by simp [*, zb]) (by simp [*]) (Nat.le_of_ble_eq_true rfl) (Nat.le_of_ble_eq_true rfl) dX7_isNone_18
  · refine J_iconst cx (v := nI 1) dX7_isNone_9 (by decide) ?_
    refine J_goto cx (tgt := 14) dX7_isNone_10 (by decide) ?_
    refine J_iconst cx (v := nI 1) dX7_isNone_14 (by decide) ?_
    refine J_callVi cx kX7_78 (As := [.int (nI 1), .int (nI 1)]) (tX7_isThrown l D g A ad κ th ch cm rm row  true (nI 1) ) ⟨rfl, rfl, by decide, by decide⟩ ⟨by decide, by decide⟩ rfl 0 rfl rfl rfl (Nat.le_of_ble_eq_true rfl) dX7_isNone_15 ?_
    intro _ _ hr; cases hr
    exact J_zret cx rfl (u := ()) (zb_nar _) (by simp [*, zb]) (by simp [*]) (Nat.le_of_ble_eq_true rfl) (Nat.le_of_ble_eq_true rfl) dX7_isNone_18
set_option maxHeartbeats 4000000 in
set_option maxRecDepth 100000 in
theorem tX7_makes (l : Launch) (D : va_G) (g : Nat → ClassId) (A : Nat → Prop) (ad : Nat → Nat) (κ : CS) (th : Int32) (ch : Nat → Nat) (cm rm : Nat) (row : Nat → Int64)  (xn : Int32) (xk : Int32) (bn : Int32) (bk : Int32) (dy : Int32) (hn : κ.2.2.1 0 < 40) : CtI l D g A yX7_makes cX7_makes 6 .int ({ frames := 0, cells := 0, slots := 0, locals := 0 } : Room) [.ref (ad 0), .int xn, .int xk, .int bn, .int bk, .int dy] (mW ad g κ th ch cm rm row) (nI (κ.2.2.1 0)) (mW ad g (mkK κ xn xk bn bk dy) th ch cm rm row) := by
  refine metJ (by decide) (Nat.le_of_ble_eq_true rfl) ?_
  intro p e s m args below meth c _ _ cx
  refine J_aload_n cx dX7_makes_0 rfl 0 rfl ?_
  refine J_get cx (v := .ref (ad 1)) fX7_9 0 rfl rfl dX7_makes_1 ?_
  refine J_aload_n cx dX7_makes_4 rfl 0 rfl ?_
  refine J_get cx (v := .int (nI (κ.2.2.1 0))) fX7_71 0 rfl rfl dX7_makes_5 ?_
  refine J_iload_n cx dX7_makes_8 rfl 1 rfl ?_
  refine J_iast cx (ws' := (mW ad g (upI κ.1 0 (κ.2.2.1 0) xn, κ.2.1, κ.2.2.1, κ.2.2.2.1, κ.2.2.2.2) th ch cm rm row)) (j := (κ.2.2.1 0)) 1 rfl  rfl (by omega) (by decide) rfl dX7_makes_9 ?_
  refine J_aload_n cx dX7_makes_10 rfl 0 rfl ?_
  refine J_get cx (v := .ref (ad 2)) fX7_13 0 rfl rfl dX7_makes_11 ?_
  refine J_aload_n cx dX7_makes_14 rfl 0 rfl ?_
  refine J_get cx (v := .int (nI (κ.2.2.1 0))) fX7_71 0 rfl rfl dX7_makes_15 ?_
  refine J_iload_n cx dX7_makes_18 rfl 2 rfl ?_
  refine J_iast cx (ws' := (mW ad g (upI (upI κ.1 0 (κ.2.2.1 0) xn) 1 (κ.2.2.1 0) xk, κ.2.1, κ.2.2.1, κ.2.2.2.1, κ.2.2.2.2) th ch cm rm row)) (j := (κ.2.2.1 0)) 2 rfl  rfl (by omega) (by decide) rfl dX7_makes_19 ?_
  refine J_aload_n cx dX7_makes_20 rfl 0 rfl ?_
  refine J_get cx (v := .ref (ad 5)) fX7_22 0 rfl rfl dX7_makes_21 ?_
  refine J_aload_n cx dX7_makes_24 rfl 0 rfl ?_
  refine J_get cx (v := .int (nI (κ.2.2.1 0))) fX7_71 0 rfl rfl dX7_makes_25 ?_
  refine J_iload_n cx dX7_makes_28 rfl 3 rfl ?_
  refine J_iast cx (ws' := (mW ad g (upI (upI (upI κ.1 0 (κ.2.2.1 0) xn) 1 (κ.2.2.1 0) xk) 4 (κ.2.2.1 0) bn, κ.2.1, κ.2.2.1, κ.2.2.2.1, κ.2.2.2.2) th ch cm rm row)) (j := (κ.2.2.1 0)) 5 rfl  rfl (by omega) (by decide) rfl dX7_makes_29 ?_
  refine J_aload_n cx dX7_makes_30 rfl 0 rfl ?_
  refine J_get cx (v := .ref (ad 6)) fX7_25 0 rfl rfl dX7_makes_31 ?_
  refine J_aload_n cx dX7_makes_34 rfl 0 rfl ?_
  refine J_get cx (v := .int (nI (κ.2.2.1 0))) fX7_71 0 rfl rfl dX7_makes_35 ?_
  refine J_iload cx dX7_makes_38 4 rfl ?_
  refine J_iast cx (ws' := (mW ad g (upI (upI (upI (upI κ.1 0 (κ.2.2.1 0) xn) 1 (κ.2.2.1 0) xk) 4 (κ.2.2.1 0) bn) 5 (κ.2.2.1 0) bk, κ.2.1, κ.2.2.1, κ.2.2.2.1, κ.2.2.2.2) th ch cm rm row)) (j := (κ.2.2.1 0)) 6 rfl  rfl (by omega) (by decide) rfl dX7_makes_40 ?_
  refine J_aload_n cx dX7_makes_41 rfl 0 rfl ?_
  refine J_get cx (v := .ref (ad 3)) fX7_16 0 rfl rfl dX7_makes_42 ?_
  refine J_aload_n cx dX7_makes_45 rfl 0 rfl ?_
  refine J_get cx (v := .int (nI (κ.2.2.1 0))) fX7_71 0 rfl rfl dX7_makes_46 ?_
  refine J_aload_n cx dX7_makes_49 rfl 0 rfl ?_
  refine J_get cx (v := .int (nI (κ.2.2.1 2))) fX7_82 0 rfl rfl dX7_makes_50 ?_
  refine J_iast cx (ws' := (mW ad g (upI (upI (upI (upI (upI κ.1 0 (κ.2.2.1 0) xn) 1 (κ.2.2.1 0) xk) 4 (κ.2.2.1 0) bn) 5 (κ.2.2.1 0) bk) 2 (κ.2.2.1 0) (nI (κ.2.2.1 2)), κ.2.1, κ.2.2.1, κ.2.2.2.1, κ.2.2.2.2) th ch cm rm row)) (j := (κ.2.2.1 0)) 3 rfl  rfl (by omega) (by decide) rfl dX7_makes_53 ?_
  refine J_aload_n cx dX7_makes_54 rfl 0 rfl ?_
  refine J_get cx (v := .ref (ad 4)) fX7_19 0 rfl rfl dX7_makes_55 ?_
  refine J_aload_n cx dX7_makes_58 rfl 0 rfl ?_
  refine J_get cx (v := .int (nI (κ.2.2.1 0))) fX7_71 0 rfl rfl dX7_makes_59 ?_
  refine J_aload_n cx dX7_makes_62 rfl 0 rfl ?_
  refine J_get cx (v := .int (nI (κ.2.2.1 2))) fX7_82 0 rfl rfl dX7_makes_63 ?_
  refine J_iload cx dX7_makes_66 5 rfl ?_
  refine J_iadd cx dX7_makes_68 ?_
  refine J_iconst cx (v := nI 1) dX7_makes_69 (by decide) ?_
  refine J_isub cx dX7_makes_70 ?_
  refine J_iast cx (ws' := (mW ad g (upI (upI (upI (upI (upI (upI κ.1 0 (κ.2.2.1 0) xn) 1 (κ.2.2.1 0) xk) 4 (κ.2.2.1 0) bn) 5 (κ.2.2.1 0) bk) 2 (κ.2.2.1 0) (nI (κ.2.2.1 2))) 3 (κ.2.2.1 0) (((nI (κ.2.2.1 2)) + dy) - (nI 1)), κ.2.1, κ.2.2.1, κ.2.2.2.1, κ.2.2.2.2) th ch cm rm row)) (j := (κ.2.2.1 0)) 4 rfl  rfl (by omega) (by decide) rfl dX7_makes_71 ?_
  refine J_aload_n cx dX7_makes_72 rfl 0 rfl ?_
  refine J_get cx (v := .ref (ad 10)) fX7_37 0 rfl rfl dX7_makes_73 ?_
  refine J_aload_n cx dX7_makes_76 rfl 0 rfl ?_
  refine J_get cx (v := .int (nI (κ.2.2.1 0))) fX7_71 0 rfl rfl dX7_makes_77 ?_
  refine J_iconst cx (v := (-1)) dX7_makes_80 (by decide) ?_
  refine J_iast cx (ws' := (mW ad g (upI (upI (upI (upI (upI (upI (upI κ.1 0 (κ.2.2.1 0) xn) 1 (κ.2.2.1 0) xk) 4 (κ.2.2.1 0) bn) 5 (κ.2.2.1 0) bk) 2 (κ.2.2.1 0) (nI (κ.2.2.1 2))) 3 (κ.2.2.1 0) (((nI (κ.2.2.1 2)) + dy) - (nI 1))) 9 (κ.2.2.1 0) (-1), κ.2.1, κ.2.2.1, κ.2.2.2.1, κ.2.2.2.2) th ch cm rm row)) (j := (κ.2.2.1 0)) 10 rfl  rfl (by omega) (by decide) rfl dX7_makes_81 ?_
  refine J_aload_n cx dX7_makes_82 rfl 0 rfl ?_
  refine J_dup cx dX7_makes_83 rfl ?_
  refine J_get cx (v := .int (nI (κ.2.2.1 0))) fX7_71 0 rfl rfl dX7_makes_84 ?_
  refine J_iconst cx (v := nI 1) dX7_makes_87 (by decide) ?_
  refine J_iadd cx dX7_makes_88 ?_
  refine J_top (v' := .int (nI ((κ.2.2.1 0) + 1))) (congrArg Value.int (nI_add (κ.2.2.1 0) 1)) ?_
  refine J_put cx (ws' := (mW ad g (upI (upI (upI (upI (upI (upI (upI κ.1 0 (κ.2.2.1 0) xn) 1 (κ.2.2.1 0) xk) 4 (κ.2.2.1 0) bn) 5 (κ.2.2.1 0) bk) 2 (κ.2.2.1 0) (nI (κ.2.2.1 2))) 3 (κ.2.2.1 0) (((nI (κ.2.2.1 2)) + dy) - (nI 1))) 9 (κ.2.2.1 0) (-1), κ.2.1, upn κ.2.2.1 0 ((κ.2.2.1 0) + 1), κ.2.2.2.1, κ.2.2.2.2) th ch cm rm row)) fX7_71 ⟨tyX7_ok, nmX7, tyX7_ok 17 (by decide)⟩ rfl 0 rfl rfl rfl (Nat.le_of_ble_eq_true rfl) rfl dX7_makes_89 ?_
  refine J_aload_n cx dX7_makes_92 rfl 0 rfl ?_
  refine J_get cx (v := .int (nI ((κ.2.2.1 0) + 1))) fX7_71 0 rfl rfl dX7_makes_93 ?_
  refine J_iconst cx (v := nI 1) dX7_makes_96 (by decide) ?_
  refine J_isub cx dX7_makes_97 ?_
  refine J_top (v' := .int (nI (((κ.2.2.1 0) + 1) - 1))) (congrArg Value.int (pk_sub (by omega))) ?_
  exact J_iret cx rfl (u := ()) rfl rfl (Nat.le_of_ble_eq_true rfl) (Nat.le_of_ble_eq_true rfl) dX7_makes_98
set_option maxHeartbeats 4000000 in
set_option maxRecDepth 100000 in
theorem tX7_authority (l : Launch) (D : va_G) (g : Nat → ClassId) (A : Nat → Prop) (ad : Nat → Nat) (κ : CS) (th : Int32) (ch : Nat → Nat) (cm rm : Nat) (row : Nat → Int64)  (i : Nat) (ln : Int32) (hi : i < 40) : CtI l D g A yX7_authority cX7_authority 3 .int ({ frames := 0, cells := 0, slots := 0, locals := 0 } : Room) [.ref (ad 0), .int (nI i), .int ln] (mW ad g κ th ch cm rm row) (nI i) (mW ad g (auK κ i ln) th ch cm rm row) := by
  refine metJ (by decide) (Nat.le_of_ble_eq_true rfl) ?_
  intro p e s m args below meth c _ _ cx
  refine J_aload_n cx dX7_authority_0 rfl 0 rfl ?_
  refine J_get cx (v := .ref (ad 11)) fX7_40 0 rfl rfl dX7_authority_1 ?_
  refine J_iload_n cx dX7_authority_4 rfl 1 rfl ?_
  refine J_iconst cx (v := nI 1) dX7_authority_5 (by decide) ?_
  refine J_zast cx (ws' := (mW ad g (κ.1, upB κ.2.1 0 i true, κ.2.2.1, κ.2.2.2.1, κ.2.2.2.2) th ch cm rm row)) (j := i) 11 rfl  rfl (by omega) (by decide) (by rw [show vp_nar .boolean (nI 1) = zb true from zb_vnar true, upb_zb]; rfl) dX7_authority_6 ?_
  refine J_aload_n cx dX7_authority_7 rfl 0 rfl ?_
  refine J_get cx (v := .ref (ad 7)) fX7_28 0 rfl rfl dX7_authority_8 ?_
  refine J_iload_n cx dX7_authority_11 rfl 1 rfl ?_
  refine J_iload_n cx dX7_authority_12 rfl 2 rfl ?_
  refine J_iast cx (ws' := (mW ad g (upI κ.1 6 i ln, upB κ.2.1 0 i true, κ.2.2.1, κ.2.2.2.1, κ.2.2.2.2) th ch cm rm row)) (j := i) 7 rfl  rfl (by omega) (by decide) rfl dX7_authority_13 ?_
  refine J_iload_n cx dX7_authority_14 rfl 1 rfl ?_
  exact J_iret cx rfl (u := ()) rfl rfl (Nat.le_of_ble_eq_true rfl) (Nat.le_of_ble_eq_true rfl) dX7_authority_15
