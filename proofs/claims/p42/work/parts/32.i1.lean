set_option maxHeartbeats 4000000 in
set_option maxRecDepth 100000 in
theorem tX6_beginsWith (l : Launch) (D : va_G) (g : Nat → ClassId) (A : Nat → Prop) (ad : Nat → Nat → Nat) (κ : CS) (X : XT) (cs : Nat → CT) (lf : Nat → Int64) (pr : PT)  (k0 : Nat) (o : Nat) (hk0 : k0 < 2147483648) (ho : o < 2147483648) : CtI l D g A yX6_beginsWith cX6_beginsWith 4 .boolean ({ frames := 0, cells := 0, slots := 0, locals := 0 } : Room) [.int (nI k0), .int (nI o)] (iW ad g κ X cs lf pr) (zb (und 4 k0 o)) (iW ad g κ X cs lf pr) := by
  refine metJ (by decide) (Nat.le_of_ble_eq_true rfl) ?_
  intro p e s m args below meth c _ _ cx
  refine J_iload_n cx dX6_beginsWith_0 rfl 0 rfl ?_
  refine J_istore_n cx (L' := [(2, .int (nI k0)), (0, .int (nI k0)), (1, .int (nI o))]) dX6_beginsWith_1 rfl (by decide) rfl ?_
  refine J_iconst cx (v := nI 0) dX6_beginsWith_2 (by decide) ?_
  refine J_istore_n cx (L' := [(3, .int (nI 0)), (2, .int (nI k0)), (0, .int (nI k0)), (1, .int (nI o))]) dX6_beginsWith_3 rfl (by decide) rfl ?_
  have LP : ∀ (fu : Nat) (j : Nat) (h : Nat), (j ≤ 4) → (h < 2147483648) → (und (4 - j) h o = und 4 k0 o) → 4 - j < fu → J p l e ({ frames := 0, cells := 0, slots := 0, locals := 0 } : Room) s m args below meth c D A 4 (MQ below (va_Qi (fun (r : Int32) (_ : Unit) => r = (zb (und 4 k0 o))) (fun _ => PO D A (iW ad g κ X cs lf pr)) A) args s 0 0 A) 0 0 (iW ad g κ X cs lf pr) [(2, .int (nI h)), (3, .int (nI j)), (0, .int (nI k0)), (1, .int (nI o))] 4 [] := by
    intro fu; induction fu with
    | zero => intro j h hj hh he hfu; exact absurd hfu (Nat.not_lt_zero _)
    | succ fu ih =>
      intro j h hj hh he hfu
      refine J_iload_n cx dX6_beginsWith_4 rfl 1 rfl ?_
      refine J_iconst cx (v := nI 4) dX6_beginsWith_5 (by decide) ?_
      refine J_icmp_ge cx (tgt := 25) dX6_beginsWith_6 (by decide) (fun c_1 => ?_) (fun c_1 => ?_)
      · have c_1 := (nat_ic_ge (by omega) (by omega)).mp c_1
        have c_1d := decide_eq_true c_1
        refine J_iload_n cx dX6_beginsWith_25 rfl 0 rfl ?_
        refine J_iload_n cx dX6_beginsWith_26 rfl 3 rfl ?_
        refine J_icmp_ne cx (tgt := 34) dX6_beginsWith_27 (by decide) (fun c_2 => ?_) (fun c_2 => ?_)
        · have c_2 := (nat_ic_ne (by omega) (by omega)).mp c_2
          have c_2d := decide_eq_false c_2
          refine J_iconst cx (v := nI 0) dX6_beginsWith_34 (by decide) ?_
          exact J_zret cx rfl (u := ()) (rfl) (by rw [← he, show und (4 - j) h o = (h == o) from by first | exact und_le (by omega) | (rw [show 4 - j = 0 from by omega]; rfl)]; first | (rw [show (h == o) = true from beq_iff_eq.mpr (by omega)]; rfl) | (rw [show (h == o) = false from beq_eq_false_iff_ne.mpr (by omega)]; rfl)) rfl (Nat.le_of_ble_eq_true rfl) (Nat.le_of_ble_eq_true rfl) dX6_beginsWith_35
        · have c_2 := (nat_ic_ne_f (by omega) (by omega)).mp c_2
          have c_2d := decide_eq_true c_2
          refine J_iconst cx (v := nI 1) dX6_beginsWith_30 (by decide) ?_
          refine J_goto cx (tgt := 35) dX6_beginsWith_31 (by decide) ?_
          exact J_zret cx rfl (u := ()) (rfl) (by rw [← he, show und (4 - j) h o = (h == o) from by first | exact und_le (by omega) | (rw [show 4 - j = 0 from by omega]; rfl)]; first | (rw [show (h == o) = true from beq_iff_eq.mpr (by omega)]; rfl) | (rw [show (h == o) = false from beq_eq_false_iff_ne.mpr (by omega)]; rfl)) rfl (Nat.le_of_ble_eq_true rfl) (Nat.le_of_ble_eq_true rfl) dX6_beginsWith_35
      · have c_1 := (nat_ic_ge_f (by omega) (by omega)).mp c_1
        have c_1d := decide_eq_false (Nat.not_le.mpr c_1)
        refine J_iload_n cx dX6_beginsWith_9 rfl 0 rfl ?_
        refine J_iload_n cx dX6_beginsWith_10 rfl 3 rfl ?_
        refine J_icmp_le cx (tgt := 25) dX6_beginsWith_11 (by decide) (fun c_3 => ?_) (fun c_3 => ?_)
        · have c_3 := (nat_ic_le (by omega) (by omega)).mp c_3
          have c_3d := decide_eq_true c_3
          refine J_iload_n cx dX6_beginsWith_25 rfl 0 rfl ?_
          refine J_iload_n cx dX6_beginsWith_26 rfl 3 rfl ?_
          refine J_icmp_ne cx (tgt := 34) dX6_beginsWith_27 (by decide) (fun c_4 => ?_) (fun c_4 => ?_)
          · have c_4 := (nat_ic_ne (by omega) (by omega)).mp c_4
            have c_4d := decide_eq_false c_4
            refine J_iconst cx (v := nI 0) dX6_beginsWith_34 (by decide) ?_
            exact J_zret cx rfl (u := ()) (rfl) (by rw [← he, show und (4 - j) h o = (h == o) from by first | exact und_le (by omega) | (rw [show 4 - j = 0 from by omega]; rfl)]; first | (rw [show (h == o) = true from beq_iff_eq.mpr (by omega)]; rfl) | (rw [show (h == o) = false from beq_eq_false_iff_ne.mpr (by omega)]; rfl)) rfl (Nat.le_of_ble_eq_true rfl) (Nat.le_of_ble_eq_true rfl) dX6_beginsWith_35
          · have c_4 := (nat_ic_ne_f (by omega) (by omega)).mp c_4
            have c_4d := decide_eq_true c_4
            refine J_iconst cx (v := nI 1) dX6_beginsWith_30 (by decide) ?_
            refine J_goto cx (tgt := 35) dX6_beginsWith_31 (by decide) ?_
            exact J_zret cx rfl (u := ()) (rfl) (by rw [← he, show und (4 - j) h o = (h == o) from by first | exact und_le (by omega) | (rw [show 4 - j = 0 from by omega]; rfl)]; first | (rw [show (h == o) = true from beq_iff_eq.mpr (by omega)]; rfl) | (rw [show (h == o) = false from beq_eq_false_iff_ne.mpr (by omega)]; rfl)) rfl (Nat.le_of_ble_eq_true rfl) (Nat.le_of_ble_eq_true rfl) dX6_beginsWith_35
        · have c_3 := (nat_ic_le_f (by omega) (by omega)).mp c_3
          have c_3d := decide_eq_false (Nat.not_le.mpr c_3)
          refine J_iload_n cx dX6_beginsWith_14 rfl 0 rfl ?_
          refine J_bipush cx (v := nI 10) dX6_beginsWith_15 (by decide) ?_
          refine J_idiv cx dX6_beginsWith_17 (by decide) ?_
          refine J_top (v' := .int (nI (h / 10))) (congrArg Value.int (pk_div (by omega) (by decide) (by decide))) ?_
          refine J_istore_n cx (L' := [(2, .int (nI (h / 10))), (3, .int (nI j)), (0, .int (nI k0)), (1, .int (nI o))]) dX6_beginsWith_18 rfl (by decide) rfl ?_
          refine J_iinc cx (v := (nI (j + 1))) (L' := [(3, .int (nI (j + 1))), (2, .int (nI (h / 10))), (0, .int (nI k0)), (1, .int (nI o))]) dX6_beginsWith_19 1 rfl (by exact nI_add j 1) (by decide) rfl ?_
          refine J_goto cx (tgt := 4) dX6_beginsWith_22 (by decide) ?_
          refine J_L [1, 0, 2, 3] rfl ?_
          exact ih (j + 1) _ (by omega) (by omega) (by rw [← he, show 4 - j = (4 - (j + 1)) + 1 from by omega]; show _ = (if o < h then _ else _); rw [if_pos (by omega)]) (by omega)
  refine J_L [1, 0, 2, 3] rfl ?_
  exact LP _ 0 _ (by omega) (by omega) rfl (Nat.lt_succ_self _)
set_option maxHeartbeats 4000000 in
set_option maxRecDepth 100000 in
theorem tX0_isRoot (l : Launch) (D : va_G) (g : Nat → ClassId) (A : Nat → Prop) (ad : Nat → Nat → Nat) (κ : CS) (X : XT) (cs : Nat → CT) (lf : Nat → Int64) (pr : PT)  (i : Nat)  (hS : ShX κ X) (hi : i < κ.2.2.1 0) : CtI l D g A yX0_isRoot cX0_isRoot 1 .boolean ({ frames := 0, cells := 0, slots := 0, locals := 0 } : Room) [.ref (ad 1 i)] (iW ad g κ X cs lf pr) (zb (decide (X.1 i = X.2.1 i))) (iW ad g κ X cs lf pr) := by
  refine metJ (by decide) (Nat.le_of_ble_eq_true rfl) ?_
  intro p e s m args below meth c _ _ cx
  refine J_apart (fun hDD => ?_)
  refine J_aload_n cx dX0_isRoot_0 rfl 0 rfl ?_
  refine J_get cx (v := .ref (ad 2 (X.1 i))) fX0_15 (17 + i) (iG_c (by first | assumption | omega)) rfl dX0_isRoot_1 ?_
  refine J_aload_n cx dX0_isRoot_4 rfl 0 rfl ?_
  refine J_get cx (v := .ref (ad 2 (X.2.1 i))) fX0_19 (17 + i) (iG_c (by first | assumption | omega)) rfl dX0_isRoot_5 ?_
  refine J_acmp_ne cx (rx := some (ad 2 (X.1 i))) (ry := some (ad 2 (X.2.1 i))) (tgt := 15) dX0_isRoot_8 (by decide) (fun c_1 => ?_) (fun c_1 => ?_)
  · have c_1 : ¬ X.1 i = X.2.1 i := fun q => c_1 (by rw [q])
    refine J_iconst cx (v := nI 0) dX0_isRoot_15 (by decide) ?_
    exact J_zret cx rfl (u := ()) (rfl) (by simp [zb, c_1]) rfl (Nat.le_of_ble_eq_true rfl) (Nat.le_of_ble_eq_true rfl) dX0_isRoot_16
  · have c_1 : X.1 i = X.2.1 i := iG_ad2 hDD (hS.sb hi) (hS.is hi) (Option.some.inj c_1)
    refine J_iconst cx (v := nI 1) dX0_isRoot_11 (by decide) ?_
    refine J_goto cx (tgt := 16) dX0_isRoot_12 (by decide) ?_
    exact J_zret cx rfl (u := ()) (rfl) (by simp [zb, c_1]) rfl (Nat.le_of_ble_eq_true rfl) (Nat.le_of_ble_eq_true rfl) dX0_isRoot_16
set_option maxHeartbeats 4000000 in
set_option maxRecDepth 100000 in
theorem tX0_isAuthority (l : Launch) (D : va_G) (g : Nat → ClassId) (A : Nat → Prop) (ad : Nat → Nat → Nat) (κ : CS) (X : XT) (cs : Nat → CT) (lf : Nat → Int64) (pr : PT)  (i : Nat)  (hi : i < κ.2.2.1 0) : CtI l D g A yX0_isAuthority cX0_isAuthority 1 .boolean ({ frames := 0, cells := 0, slots := 0, locals := 0 } : Room) [.ref (ad 1 i)] (iW ad g κ X cs lf pr) (zb (!decide (lenI κ i = -1))) (iW ad g κ X cs lf pr) := by
  refine metJ (by decide) (Nat.le_of_ble_eq_true rfl) ?_
  intro p e s m args below meth c _ _ cx
  refine J_aload_n cx dX0_isAuthority_0 rfl 0 rfl ?_
  refine J_get cx (v := .int (lenI κ i)) fX0_28 (17 + i) (iG_c (by first | assumption | omega)) rfl dX0_isAuthority_1 ?_
  refine J_iconst cx (v := (-1)) dX0_isAuthority_4 (by decide) ?_
  refine J_icmp_eq cx (tgt := 12) dX0_isAuthority_5 (by decide) (fun c_1 => ?_) (fun c_1 => ?_)
  · have c_1d := decide_eq_true c_1
    refine J_iconst cx (v := nI 0) dX0_isAuthority_12 (by decide) ?_
    exact J_zret cx rfl (u := ()) (rfl) (by simp [true_and, zb, c_1d]) rfl (Nat.le_of_ble_eq_true rfl) (Nat.le_of_ble_eq_true rfl) dX0_isAuthority_13
  · have c_1d := decide_eq_false c_1
    refine J_iconst cx (v := nI 1) dX0_isAuthority_8 (by decide) ?_
    refine J_goto cx (tgt := 13) dX0_isAuthority_9 (by decide) ?_
    exact J_zret cx rfl (u := ()) (rfl) (by simp [true_and, zb, c_1, c_1d]) rfl (Nat.le_of_ble_eq_true rfl) (Nat.le_of_ble_eq_true rfl) dX0_isAuthority_13
set_option maxHeartbeats 4000000 in
set_option maxRecDepth 100000 in
theorem tX0_isValidOn (l : Launch) (D : va_G) (g : Nat → ClassId) (A : Nat → Prop) (ad : Nat → Nat → Nat) (κ : CS) (X : XT) (cs : Nat → CT) (lf : Nat → Int64) (pr : PT)  (i : Nat) (dy : Int32) (hi : i < κ.2.2.1 0) : CtI l D g A yX0_isValidOn cX0_isValidOn 2 .boolean ({ frames := 0, cells := 0, slots := 0, locals := 0 } : Room) [.ref (ad 1 i), .int dy] (iW ad g κ X cs lf pr) (zb (vaB κ i dy)) (iW ad g κ X cs lf pr) := by
  refine metJ (by decide) (Nat.le_of_ble_eq_true rfl) ?_
  intro p e s m args below meth c _ _ cx
  refine J_aload_n cx dX0_isValidOn_0 rfl 0 rfl ?_
  refine J_get cx (v := .int (κ.1 2 i)) fX0_22 (17 + i) (iG_c (by first | assumption | omega)) rfl dX0_isValidOn_1 ?_
  refine J_iload_n cx dX0_isValidOn_4 rfl 1 rfl ?_
  refine J_icmp_gt cx (tgt := 20) dX0_isValidOn_5 (by decide) (fun c_1 => ?_) (fun c_1 => ?_)
  · have c_1d := decide_eq_true c_1
    refine J_iconst cx (v := nI 0) dX0_isValidOn_20 (by decide) ?_
    exact J_zret cx rfl (u := ()) (rfl) (by simp [vaB, zb, c_1, c_1d]) rfl (Nat.le_of_ble_eq_true rfl) (Nat.le_of_ble_eq_true rfl) dX0_isValidOn_21
  · have c_1d := decide_eq_false c_1
    refine J_iload_n cx dX0_isValidOn_8 rfl 1 rfl ?_
    refine J_aload_n cx dX0_isValidOn_9 rfl 0 rfl ?_
    refine J_get cx (v := .int (κ.1 3 i)) fX0_25 (17 + i) (iG_c (by first | assumption | omega)) rfl dX0_isValidOn_10 ?_
    refine J_icmp_gt cx (tgt := 20) dX0_isValidOn_13 (by decide) (fun c_2 => ?_) (fun c_2 => ?_)
    · have c_2d := decide_eq_true c_2
      refine J_iconst cx (v := nI 0) dX0_isValidOn_20 (by decide) ?_
      exact J_zret cx rfl (u := ()) (rfl) (by simp [vaB, zb, c_1, c_1d, c_2, c_2d]) rfl (Nat.le_of_ble_eq_true rfl) (Nat.le_of_ble_eq_true rfl) dX0_isValidOn_21
    · have c_2d := decide_eq_false c_2
      refine J_iconst cx (v := nI 1) dX0_isValidOn_16 (by decide) ?_
      refine J_goto cx (tgt := 21) dX0_isValidOn_17 (by decide) ?_
      exact J_zret cx rfl (u := ()) (rfl) (by simp [vaB, zb, c_1, c_1d, c_2, c_2d]) rfl (Nat.le_of_ble_eq_true rfl) (Nat.le_of_ble_eq_true rfl) dX0_isValidOn_21
set_option maxHeartbeats 4000000 in
set_option maxRecDepth 100000 in
theorem tX0_isOutOfForceOn (l : Launch) (D : va_G) (g : Nat → ClassId) (A : Nat → Prop) (ad : Nat → Nat → Nat) (κ : CS) (X : XT) (cs : Nat → CT) (lf : Nat → Int64) (pr : PT)  (i : Nat) (dy : Int32) (hi : i < κ.2.2.1 0) : CtI l D g A yX0_isOutOfForceOn cX0_isOutOfForceOn 2 .boolean ({ frames := 0, cells := 0, slots := 0, locals := 0 } : Room) [.ref (ad 1 i), .int dy] (iW ad g κ X cs lf pr) (zb (outB κ i dy)) (iW ad g κ X cs lf pr) := by
  refine metJ (by decide) (Nat.le_of_ble_eq_true rfl) ?_
  intro p e s m args below meth c _ _ cx
  refine J_aload_n cx dX0_isOutOfForceOn_0 rfl 0 rfl ?_
  refine J_get cx (v := .int (κ.1 9 i)) fX0_44 (17 + i) (iG_c (by first | assumption | omega)) rfl dX0_isOutOfForceOn_1 ?_
  refine J_iconst cx (v := (-1)) dX0_isOutOfForceOn_4 (by decide) ?_
  refine J_icmp_eq cx (tgt := 20) dX0_isOutOfForceOn_5 (by decide) (fun c_1 => ?_) (fun c_1 => ?_)
  · have c_1d := decide_eq_true c_1
    refine J_iconst cx (v := nI 0) dX0_isOutOfForceOn_20 (by decide) ?_
    exact J_zret cx rfl (u := ()) (rfl) (by simp [outB, zb, c_1d]) rfl (Nat.le_of_ble_eq_true rfl) (Nat.le_of_ble_eq_true rfl) dX0_isOutOfForceOn_21
  · have c_1d := decide_eq_false c_1
    refine J_aload_n cx dX0_isOutOfForceOn_8 rfl 0 rfl ?_
    refine J_get cx (v := .int (κ.1 9 i)) fX0_44 (17 + i) (iG_c (by first | assumption | omega)) rfl dX0_isOutOfForceOn_9 ?_
    refine J_iload_n cx dX0_isOutOfForceOn_12 rfl 1 rfl ?_
    refine J_icmp_gt cx (tgt := 20) dX0_isOutOfForceOn_13 (by decide) (fun c_2 => ?_) (fun c_2 => ?_)
    · have c_2d := decide_eq_true c_2
      refine J_iconst cx (v := nI 0) dX0_isOutOfForceOn_20 (by decide) ?_
      exact J_zret cx rfl (u := ()) (rfl) (by simp [outB, zb, c_1, c_1d, c_2, c_2d]) rfl (Nat.le_of_ble_eq_true rfl) (Nat.le_of_ble_eq_true rfl) dX0_isOutOfForceOn_21
    · have c_2d := decide_eq_false c_2
      refine J_iconst cx (v := nI 1) dX0_isOutOfForceOn_16 (by decide) ?_
      refine J_goto cx (tgt := 21) dX0_isOutOfForceOn_17 (by decide) ?_
      exact J_zret cx rfl (u := ()) (rfl) (by simp [outB, zb, c_1, c_1d, c_2, c_2d]) rfl (Nat.le_of_ble_eq_true rfl) (Nat.le_of_ble_eq_true rfl) dX0_isOutOfForceOn_21
set_option maxHeartbeats 4000000 in
set_option maxRecDepth 100000 in
theorem tX0_refusalOn (l : Launch) (D : va_G) (g : Nat → ClassId) (A : Nat → Prop) (ad : Nat → Nat → Nat) (κ : CS) (X : XT) (cs : Nat → CT) (lf : Nat → Int64) (pr : PT)  (i : Nat) (dy : Int32) (hi : i < κ.2.2.1 0) : CtI l D g A yX0_refusalOn cX0_refusalOn 2 .char ({ frames := 1, cells := 0, slots := 0, locals := 21 } : Room) [.ref (ad 1 i), .int dy] (iW ad g κ X cs lf pr) (nI (rfI κ i dy)) (iW ad g κ X cs lf pr) := by
  refine metJ (by decide) (Nat.le_of_ble_eq_true rfl) ?_
  intro p e s m args below meth c _ _ cx
  refine J_aload_n cx dX0_refusalOn_0 rfl 0 rfl ?_
  refine J_iload_n cx dX0_refusalOn_1 rfl 1 rfl ?_
  refine J_callVi cx kX0_47 (As := [.int dy]) (tX0_isValidOn l D g A ad κ X cs lf pr  i dy (by first | assumption | decide | omega)) ⟨rfl, rfl, by decide, by decide⟩ ⟨by decide, by decide⟩ rfl (17 + i) (iG_c (by first | assumption | omega)) rfl rfl (Nat.le_of_ble_eq_true rfl) dX0_refusalOn_2 ?_
  intro _ _ hr; cases hr
  refine J_ifz_ne cx (tgt := 11) dX0_refusalOn_5 (by decide) (fun c_1 => ?_) (fun c_1 => ?_)
  · refine J_aload_n cx dX0_refusalOn_11 rfl 0 rfl ?_
    refine J_iload_n cx dX0_refusalOn_12 rfl 1 rfl ?_
    refine J_callVi cx kX0_51 (As := [.int dy]) (tX0_isOutOfForceOn l D g A ad κ X cs lf pr  i dy (by first | assumption | decide | omega)) ⟨rfl, rfl, by decide, by decide⟩ ⟨by decide, by decide⟩ rfl (17 + i) (iG_c (by first | assumption | omega)) rfl rfl (Nat.le_of_ble_eq_true rfl) dX0_refusalOn_13 ?_
    intro _ _ hr; cases hr
    refine J_ifz_eq cx (tgt := 24) dX0_refusalOn_16 (by decide) (fun c_2 => ?_) (fun c_2 => ?_)
    · refine J_bipush cx (v := nI 111) dX0_refusalOn_24 (by decide) ?_
      exact J_zret cx rfl (u := ()) (by first | decide | rfl) (by simp [rfI, ← vaB_eq, c_1, c_2]) rfl (Nat.le_of_ble_eq_true rfl) (Nat.le_of_ble_eq_true rfl) dX0_refusalOn_26
    · refine J_bipush cx (v := nI 114) dX0_refusalOn_19 (by decide) ?_
      refine J_goto cx (tgt := 26) dX0_refusalOn_21 (by decide) ?_
      exact J_zret cx rfl (u := ()) (by first | decide | rfl) (by simp [rfI, ← vaB_eq, c_1, c_2]) rfl (Nat.le_of_ble_eq_true rfl) (Nat.le_of_ble_eq_true rfl) dX0_refusalOn_26
  · refine J_bipush cx (v := nI 116) dX0_refusalOn_8 (by decide) ?_
    exact J_zret cx rfl (u := ()) (by first | decide | rfl) (by simp [rfI, ← vaB_eq, c_1]) rfl (Nat.le_of_ble_eq_true rfl) (Nat.le_of_ble_eq_true rfl) dX0_refusalOn_10
