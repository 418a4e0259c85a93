theorem atC_last {c : CT} (h : c.2.1 ≤ 7) : atC c (nI c.2.1 - nI 1) = lastC c := by
  unfold atC lastC
  rcases Nat.eq_zero_or_pos c.2.1 with h0 | h0
  · rw [h0, if_pos rfl, show nI 0 - nI 1 = (-1 : Int32) from by decide, inR_neg (by decide)]; rfl
  · rw [pk_sub h0, inR_nI (by omega), if_pos (decide_eq_true (by omega)), if_neg (by omega), show xj (nI (c.2.1 - 1)) = c.2.1 - 1 from nI_clamp (by omega)]
theorem inR_f {n : Nat} {x : Int32} (h : ¬ x < nI n) (hn : n < 2147483648) : inR n x = false := by
  rcases i32_cases x with ⟨j, hj, rfl⟩ | h2
  · rw [inR_nI hj, decide_eq_false]; intro q; exact h ((nI_ltI hj hn).mpr q)
  · exact inR_neg h2
set_option maxHeartbeats 4000000 in
set_option maxRecDepth 100000 in
theorem tX1_at (l : Launch) (D : va_G) (g : Nat → ClassId) (A : Nat → Prop) (ad : Nat → Nat → Nat) (κ : CS) (X : XT) (cs : Nat → CT) (lf : Nat → Int64) (pr : PT)  (q : Nat) (ct : CT) (xi : Int32) (hq : q < 3) (hz : ct.2.1 ≤ 7) : CtQ l D g A yX1_at cX1_at 2 (.object "Certhold$Certificate") ({ frames := 0, cells := 0, slots := 0, locals := 0 } : Room) [.ref (ad 0 (11 + 2 * q)), .int xi] (iW ad g κ X (upc cs q ct) lf pr) ((atC ct xi).map (ad 1)) (iW ad g κ X (upc cs q ct) lf pr) := by
  rcases i32_cases xi with ⟨j, hj, rfl⟩ | hneg
  · refine metJ (by decide) (Nat.le_of_ble_eq_true rfl) ?_
    intro p e s m args below meth c _ _ cx
    refine J_iload_n cx dX1_at_0 rfl 1 rfl ?_
    refine J_if_lt cx (tgt := 21) dX1_at_1 (by decide) (fun h => absurd h (nI_pos (by omega))) (fun _ => ?_)
    refine J_iload_n cx dX1_at_4 rfl 1 rfl ?_
    refine J_aload_n cx dX1_at_5 rfl 0 rfl ?_
    refine J_get cx (v := .int (nI ct.2.1)) fX1_17 (11 + 2 * q) (iG_chU hq) rfl dX1_at_6 ?_
    refine J_icmp_ge cx (tgt := 21) dX1_at_9 (by decide) (fun c_2 => ?_) (fun c_2 => ?_)
    · have c_2 := (nat_ic_ge (by omega) (by omega)).mp c_2
      have c_2d := decide_eq_true c_2
      refine J_null cx dX1_at_21 ?_
      refine J_top (v' := va_rf none) rfl ?_
      refine J_goto cx (tgt := 31) dX1_at_22 (by decide) ?_
      exact J_qret cx rfl (u := ()) (v := none) (by unfold atC; rw [inR_nI hj]; first | (rw [if_pos (decide_eq_true (by omega)), show xj (nI j) = j from nI_clamp hj]; rfl) | (rw [decide_eq_false (by omega)]; rfl)) rfl (Nat.le_of_ble_eq_true rfl) (Nat.le_of_ble_eq_true rfl) dX1_at_31
    · have c_2 := (nat_ic_ge_f (by omega) (by omega)).mp c_2
      have c_2d := decide_eq_false (Nat.not_le.mpr c_2)
      refine J_iload_n cx dX1_at_12 rfl 1 rfl ?_
      refine J_aload_n cx dX1_at_13 rfl 0 rfl ?_
      refine J_get cx (v := .ref (ad 0 (12 + 2 * q))) fX1_11 (11 + 2 * q) (iG_chU hq) rfl dX1_at_14 ?_
      refine J_alen cx (v := nI 7) (12 + 2 * q) (iG_roU hq) (t0 := 3) rfl rfl dX1_at_17 ?_
      refine J_icmp_lt cx (tgt := 25) dX1_at_18 (by decide) (fun c_3 => ?_) (fun c_3 => ?_)
      · have c_3 := (nat_ic_lt (by omega) (by omega)).mp c_3
        have c_3d := decide_eq_true c_3
        refine J_aload_n cx dX1_at_25 rfl 0 rfl ?_
        refine J_get cx (v := .ref (ad 0 (12 + 2 * q))) fX1_11 (11 + 2 * q) (iG_chU hq) rfl dX1_at_26 ?_
        refine J_iload_n cx dX1_at_29 rfl 1 rfl ?_
        refine J_aald cx (j := j) (f := rfa ad ct.1) (12 + 2 * q) (iG_roU hq) rfl (by omega) (by decide) dX1_at_30 ?_
        exact J_qret cx rfl (u := ()) (v := (rfa ad ct.1 j)) (by unfold atC; rw [inR_nI hj]; first | (rw [if_pos (decide_eq_true (by omega)), show xj (nI j) = j from nI_clamp hj]; rfl) | (rw [decide_eq_false (by omega)]; rfl)) rfl (Nat.le_of_ble_eq_true rfl) (Nat.le_of_ble_eq_true rfl) dX1_at_31
      · have c_3 := (nat_ic_lt_f (by omega) (by omega)).mp c_3
        have c_3d := decide_eq_false (Nat.not_lt.mpr c_3)
        refine J_null cx dX1_at_21 ?_
        refine J_top (v' := va_rf none) rfl ?_
        refine J_goto cx (tgt := 31) dX1_at_22 (by decide) ?_
        exact J_qret cx rfl (u := ()) (v := none) (by unfold atC; rw [inR_nI hj]; first | (rw [if_pos (decide_eq_true (by omega)), show xj (nI j) = j from nI_clamp hj]; rfl) | (rw [decide_eq_false (by omega)]; rfl)) rfl (Nat.le_of_ble_eq_true rfl) (Nat.le_of_ble_eq_true rfl) dX1_at_31
  · refine metJ (by decide) (Nat.le_of_ble_eq_true rfl) ?_
    intro p e s m args below meth c _ _ cx
    refine J_iload_n cx dX1_at_0 rfl 1 rfl ?_
    refine J_if_lt cx (tgt := 21) dX1_at_1 (by decide) (fun c_1 => ?_) (fun c_1 => ?_)
    · have c_1d := decide_eq_true c_1
      refine J_null cx dX1_at_21 ?_
      refine J_top (v' := va_rf none) rfl ?_
      refine J_goto cx (tgt := 31) dX1_at_22 (by decide) ?_
      exact J_qret cx rfl (u := ()) (v := none) (by unfold atC; rw [inR_neg hneg]; rfl) rfl (Nat.le_of_ble_eq_true rfl) (Nat.le_of_ble_eq_true rfl) dX1_at_31
    · have c_1d := decide_eq_false c_1
      exact absurd hneg c_1
set_option maxHeartbeats 4000000 in
set_option maxRecDepth 100000 in
theorem tX1_last (l : Launch) (D : va_G) (g : Nat → ClassId) (A : Nat → Prop) (ad : Nat → Nat → Nat) (κ : CS) (X : XT) (cs : Nat → CT) (lf : Nat → Int64) (pr : PT)  (q : Nat) (ct : CT)  (hq : q < 3) (hz : ct.2.1 ≤ 7) : CtQ l D g A yX1_last cX1_last 1 (.object "Certhold$Certificate") ({ frames := 1, cells := 0, slots := 0, locals := 21 } : Room) [.ref (ad 0 (11 + 2 * q))] (iW ad g κ X (upc cs q ct) lf pr) ((lastC ct).map (ad 1)) (iW ad g κ X (upc cs q ct) lf pr) := by
  refine metJ (by decide) (Nat.le_of_ble_eq_true rfl) ?_
  intro p e s m args below meth c _ _ cx
  refine J_aload_n cx dX1_last_0 rfl 0 rfl ?_
  refine J_aload_n cx dX1_last_1 rfl 0 rfl ?_
  refine J_get cx (v := .int (nI ct.2.1)) fX1_17 (11 + 2 * q) (iG_chU hq) rfl dX1_last_2 ?_
  refine J_iconst cx (v := nI 1) dX1_last_5 (by decide) ?_
  refine J_isub cx dX1_last_6 ?_
  refine J_callVq cx kX1_28 (As := [.int ((nI ct.2.1) - (nI 1))]) (tX1_at l D g A ad κ X cs lf pr  q ct ((nI ct.2.1) - (nI 1)) (by first | assumption | decide | omega) (by first | assumption | decide | omega)) ⟨rfl, rfl, by decide, by decide⟩ ⟨by decide, by decide⟩ rfl (11 + 2 * q) (iG_ch hq) rfl rfl (Nat.le_of_ble_eq_true rfl) dX1_last_7 ?_
  intro _ _ hr; cases hr
  exact J_qret cx rfl (u := ()) (v := ((atC ct ((nI ct.2.1) - (nI 1))).map (ad 1))) (congrArg (Option.map (ad 1)) (atC_last hz)) rfl (Nat.le_of_ble_eq_true rfl) (Nat.le_of_ble_eq_true rfl) dX1_last_10
set_option maxHeartbeats 4000000 in
set_option maxRecDepth 100000 in
theorem tX1_has (l : Launch) (D : va_G) (g : Nat → ClassId) (A : Nat → Prop) (ad : Nat → Nat → Nat) (κ : CS) (X : XT) (cs : Nat → CT) (lf : Nat → Int64) (pr : PT)  (q : Nat) (ct : CT) (k : Nat) (hq : q < 3) (hC : ShC κ ct) (hk : k < κ.2.2.1 0) : CtI l D g A yX1_has cX1_has 3 .boolean ({ frames := 1, cells := 0, slots := 0, locals := 21 } : Room) [.ref (ad 0 (11 + 2 * q)), .ref (ad 1 k)] (iW ad g κ X (upc cs q ct) lf pr) (zb (hasC ct k)) (iW ad g κ X (upc cs q ct) lf pr) := by
  have hz := hC.1
  refine metJ (by decide) (Nat.le_of_ble_eq_true rfl) ?_
  intro p e s m args below meth c _ _ cx
  refine J_apart (fun hDD => ?_)
  refine J_iconst cx (v := nI 0) dX1_has_0 (by decide) ?_
  refine J_istore_n cx (L' := [(2, .int (nI 0)), (0, .ref (ad 0 (11 + 2 * q))), (1, .ref (ad 1 k))]) dX1_has_1 rfl (by decide) rfl ?_
  have LP : ∀ (fu : Nat) (r : Nat), (r ≤ ct.2.1) → (anyN (inW (wyO ct) k) r = false) → ct.2.1 - r < fu → J p l e ({ frames := 1, cells := 0, slots := 0, locals := 21 } : Room) s m args below meth c D A 3 (MQ below (va_Qi (fun (r : Int32) (_ : Unit) => r = (zb (hasC ct k))) (fun _ => PO D A (iW ad g κ X (upc cs q ct) lf pr)) A) args s 0 0 A) 0 0 (iW ad g κ X (upc cs q ct) lf pr) [(2, .int (nI r)), (0, .ref (ad 0 (11 + 2 * q))), (1, .ref (ad 1 k))] 2 [] := by
    intro fu; induction fu with
    | zero => intro r hr hno hfu; exact absurd hfu (Nat.not_lt_zero _)
    | succ fu ih =>
      intro r hr hno hfu
      refine J_iload_n cx dX1_has_2 rfl 0 rfl ?_
      refine J_aload_n cx dX1_has_3 rfl 1 rfl ?_
      refine J_get cx (v := .int (nI ct.2.1)) fX1_17 (11 + 2 * q) (iG_chU hq) rfl dX1_has_4 ?_
      refine J_icmp_ge cx (tgt := 27) dX1_has_7 (by decide) (fun c_1 => ?_) (fun c_1 => ?_)
      · have c_1 := (nat_ic_ge (by omega) (by omega)).mp c_1
        have c_1d := decide_eq_true c_1
        refine J_iconst cx (v := nI 0) dX1_has_27 (by decide) ?_
        exact J_zret cx rfl (u := ()) (rfl) (by unfold hasC; rw [show ct.2.1 = r from by omega, hno]; rfl) rfl (Nat.le_of_ble_eq_true rfl) (Nat.le_of_ble_eq_true rfl) dX1_has_28
      · have c_1 := (nat_ic_ge_f (by omega) (by omega)).mp c_1
        have c_1d := decide_eq_false (Nat.not_le.mpr c_1)
        refine J_aload_n cx dX1_has_10 rfl 1 rfl ?_
        refine J_iload_n cx dX1_has_11 rfl 0 rfl ?_
        refine J_callVq cx kX1_28 (As := [.int (nI r)]) (tX1_at l D g A ad κ X cs lf pr  q ct (nI r) hq hz) ⟨rfl, rfl, by decide, by decide⟩ ⟨by decide, by decide⟩ rfl (11 + 2 * q) (iG_ch hq) rfl rfl (Nat.le_of_ble_eq_true rfl) dX1_has_12 ?_
        intro _ _ hr; cases hr
        refine J_top (v' := .ref (ad 1 (wyO ct r))) (by rw [atC_at hC (by omega)]; rfl) ?_
        refine J_aload_n cx dX1_has_15 rfl 2 rfl ?_
        refine J_acmp_ne cx (rx := some (ad 1 (wyO ct r))) (ry := some (ad 1 k)) (tgt := 21) dX1_has_16 (by decide) (fun c_2 => ?_) (fun c_2 => ?_)
        · have hwr := (wyO_at hC (show r < ct.2.1 by omega)).2
          have c_2 : ¬ wyO ct r = k := fun z => c_2 (by rw [z])
          refine J_iinc cx (v := (nI (r + 1))) (L' := [(2, .int (nI (r + 1))), (0, .ref (ad 0 (11 + 2 * q))), (1, .ref (ad 1 k))]) dX1_has_21 0 rfl (by exact nI_add r 1) (by decide) rfl ?_
          refine J_goto cx (tgt := 2) dX1_has_24 (by decide) ?_
          refine J_L [0, 1, 2] rfl ?_
          exact ih (r + 1) (by omega) (by show (anyN _ r || _) = false; rw [hno]; exact decide_eq_false c_2) (by omega)
        · have hwr := (wyO_at hC (show r < ct.2.1 by omega)).2
          have c_2 : wyO ct r = k := iG_ad1 hDD hwr hk (Option.some.inj c_2)
          refine J_iconst cx (v := nI 1) dX1_has_19 (by decide) ?_
          exact J_zret cx rfl (u := ()) (rfl) (by unfold hasC; rw [anyN_true (k := r) (by omega) (decide_eq_true c_2)]; rfl) rfl (Nat.le_of_ble_eq_true rfl) (Nat.le_of_ble_eq_true rfl) dX1_has_20
  refine J_L [0, 1, 2] rfl ?_
  exact LP _ 0 (by omega) rfl (Nat.lt_succ_self _)
