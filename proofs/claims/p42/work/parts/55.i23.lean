set_option maxHeartbeats 4000000 in
set_option maxRecDepth 100000 in
theorem tX2_isFull (l : Launch) (D : va_G) (g : Nat → ClassId) (A : Nat → Prop) (ad : Nat → Nat → Nat) (κ : CS) (X : XT) (cs : Nat → CT) (lf : Nat → Int64) (pr : PT)  (h : Nat)  (hh : h < κ.2.2.1 1) (hc40 : X.2.2.2.1 h ≤ 40) : CtI l D g A yX2_isFull cX2_isFull 1 .boolean ({ frames := 0, cells := 0, slots := 0, locals := 0 } : Room) [.ref (ad 2 h)] (iW ad g κ X cs lf pr) (zb (!decide (X.2.2.2.1 h < 3))) (iW ad g κ X cs lf pr) := by
  refine metJ (by decide) (Nat.le_of_ble_eq_true rfl) ?_
  intro p e s m args below meth c _ _ cx
  refine J_aload_n cx dX2_isFull_0 rfl 0 rfl ?_
  refine J_get cx (v := .int (nI (X.2.2.2.1 h))) fX2_24 (17 + κ.2.2.1 0 + h) (iG_h (by first | assumption | omega)) rfl dX2_isFull_1 ?_
  refine J_iconst cx (v := nI 3) dX2_isFull_4 (by decide) ?_
  refine J_icmp_lt cx (tgt := 12) dX2_isFull_5 (by decide) (fun c_1 => ?_) (fun c_1 => ?_)
  · have c_1 := (nat_ic_lt (by omega) (by omega)).mp c_1
    have c_1d := decide_eq_true c_1
    refine J_iconst cx (v := nI 0) dX2_isFull_12 (by decide) ?_
    exact J_zret cx rfl (u := ()) (rfl) (by first | (rw [decide_eq_true (show X.2.2.2.1 h < 3 by omega)]; rfl) | (rw [decide_eq_false (show ¬ X.2.2.2.1 h < 3 by omega)]; rfl)) rfl (Nat.le_of_ble_eq_true rfl) (Nat.le_of_ble_eq_true rfl) dX2_isFull_13
  · have c_1 := (nat_ic_lt_f (by omega) (by omega)).mp c_1
    have c_1d := decide_eq_false (Nat.not_lt.mpr c_1)
    refine J_iconst cx (v := nI 1) dX2_isFull_8 (by decide) ?_
    refine J_goto cx (tgt := 13) dX2_isFull_9 (by decide) ?_
    exact J_zret cx rfl (u := ()) (rfl) (by first | (rw [decide_eq_true (show X.2.2.2.1 h < 3 by omega)]; rfl) | (rw [decide_eq_false (show ¬ X.2.2.2.1 h < 3 by omega)]; rfl)) rfl (Nat.le_of_ble_eq_true rfl) (Nat.le_of_ble_eq_true rfl) dX2_isFull_13
def sdB (κ : CS) (k : Nat) : Bool := vaB κ k (nI (κ.2.2.1 2)) && decide (κ.1 9 k = -1)
set_option maxHeartbeats 4000000 in
set_option maxRecDepth 100000 in
theorem tX6_soundShare (l : Launch) (D : va_G) (g : Nat → ClassId) (A : Nat → Prop) (ad : Nat → Nat → Nat) (κ : CS) (X : XT) (cs : Nat → CT) (lf : Nat → Int64) (pr : PT)   (htr : l.stackTraces = false) (hn : κ.2.2.1 0 ≤ 40) : vx_Met l yX6_soundShare (wsA yX6_soundShare cX6_soundShare 6 (some .float)) ({ frames := 6, cells := 1, slots := 6, locals := 90 } : Room) (va_Pc [.ref (ad 0 0)] (PRE D g A (iW ad g κ X cs lf pr))) (va_Qf (fun (r : UInt32) (_ : Unit) => ¬ κ.2.2.1 0 = 0 ∧ r = FP.fdiv (FP.i2f (nI (cnt (sdB κ) (κ.2.2.1 0)))) (FP.i2f (nI (κ.2.2.1 0)))) (fun _ => PO D A (iW ad g κ X cs lf pr)) A) (XQ (fun E => κ.2.2.1 0 = 0 ∧ E = "java/lang/ArithmeticException") D A (iW ad g κ X cs lf pr)) 1 6 A := by
  refine metX (by decide) (Nat.le_of_ble_eq_true rfl) ?_
  intro p e s m args below meth c _ hex cx
  refine J_aload_n cx dX6_soundShare_0 rfl 0 rfl ?_
  refine J_get cx (v := .int (nI (κ.2.2.1 0))) fX6_42 0 rfl rfl dX6_soundShare_1 ?_
  refine J_if_ne cx (tgt := 18) dX6_soundShare_4 (by decide) (fun c_1 => ?_) (fun c_1 => ?_)
  · have c_1 := (nat_if_ne (by omega)).mp c_1
    have c_1d := decide_eq_false c_1
    refine J_iconst cx (v := nI 0) dX6_soundShare_18 (by decide) ?_
    refine J_istore_n cx (L' := [(1, .int (nI 0)), (0, .ref (ad 0 0))]) dX6_soundShare_19 rfl (by decide) rfl ?_
    refine J_aload_n cx dX6_soundShare_20 rfl 1 rfl ?_
    refine J_get cx (v := .ref (ad 0 1)) fX6_11 0 rfl rfl dX6_soundShare_21 ?_
    refine J_astore_n cx (L' := [(2, .ref (ad 0 1)), (1, .int (nI 0)), (0, .ref (ad 0 0))]) dX6_soundShare_24 rfl (by decide) rfl ?_
    refine J_aload_n cx dX6_soundShare_25 rfl 0 rfl ?_
    refine J_alen cx (v := nI 40) 1 rfl (t0 := 3) rfl rfl dX6_soundShare_26 ?_
    refine J_istore_n cx (L' := [(3, .int (nI 40)), (2, .ref (ad 0 1)), (1, .int (nI 0)), (0, .ref (ad 0 0))]) dX6_soundShare_27 rfl (by decide) rfl ?_
    refine J_iconst cx (v := nI 0) dX6_soundShare_28 (by decide) ?_
    refine J_istore cx (L' := [(4, .int (nI 0)), (3, .int (nI 40)), (2, .ref (ad 0 1)), (1, .int (nI 0)), (0, .ref (ad 0 0))]) dX6_soundShare_29 (by decide) rfl ?_
    have LP : ∀ (fu : Nat) (k : Nat), (k ≤ 40) → 40 - k < fu → J p l e ({ frames := 6, cells := 1, slots := 6, locals := 90 } : Room) s m args below meth c D A 6 (vx_MQ below (va_Qf (fun (r : UInt32) (_ : Unit) => ¬ κ.2.2.1 0 = 0 ∧ r = FP.fdiv (FP.i2f (nI (cnt (sdB κ) (κ.2.2.1 0)))) (FP.i2f (nI (κ.2.2.1 0)))) (fun _ => PO D A (iW ad g κ X cs lf pr)) A) (XQ (fun E => κ.2.2.1 0 = 0 ∧ E = "java/lang/ArithmeticException") D A (iW ad g κ X cs lf pr)) args s 1 6 A) 0 0 (iW ad g κ X cs lf pr) [(1, .int (nI (cnt (mdB (κ.2.2.1 0) (sdB κ)) k))), (2, .ref (ad 0 1)), (3, .int (nI 40)), (4, .int (nI k)), (0, .ref (ad 0 0))] 31 [] := by
      intro fu; induction fu with
      | zero => intro k hk hfu; exact absurd hfu (Nat.not_lt_zero _)
      | succ fu ih =>
        intro k hk hfu
        refine J_iload cx dX6_soundShare_31 3 rfl ?_
        refine J_iload_n cx dX6_soundShare_33 rfl 2 rfl ?_
        refine J_icmp_ge cx (tgt := 78) dX6_soundShare_34 (by decide) (fun c_2 => ?_) (fun c_2 => ?_)
        · have c_2 := (nat_ic_ge (by omega) (by omega)).mp c_2
          have c_2d := decide_eq_true c_2
          have hk40 : k = 40 := by omega
          have hcm : cnt (mdB (κ.2.2.1 0) (sdB κ)) k = cnt (sdB κ) (κ.2.2.1 0) := by rw [hk40, cnt_md 40 hn]
          have hcl := cnt_le (sdB κ) (κ.2.2.1 0)
          refine J_iload_n cx dX6_soundShare_78 rfl 0 rfl ?_
          refine J_i2f cx dX6_soundShare_79 ?_
          refine J_aload_n cx dX6_soundShare_80 rfl 4 rfl ?_
          refine J_get cx (v := .int (nI (κ.2.2.1 0))) fX6_42 0 rfl rfl dX6_soundShare_81 ?_
          refine J_i2f cx dX6_soundShare_84 ?_
          refine J_fdiv cx dX6_soundShare_85 (by rw [hcm]; exact fdiv_ok _ (by omega) _ (by omega) (by omega)) ?_
          refine J_x ?_
          exact J_fret cx rfl (u := ()) ⟨by omega, by rw [hcm]⟩ rfl (Nat.le_of_ble_eq_true rfl) (Nat.le_of_ble_eq_true rfl) dX6_soundShare_86
        · have c_2 := (nat_ic_ge_f (by omega) (by omega)).mp c_2
          have c_2d := decide_eq_false (Nat.not_le.mpr c_2)
          refine J_aload_n cx dX6_soundShare_37 rfl 1 rfl ?_
          refine J_iload cx dX6_soundShare_38 3 rfl ?_
          refine J_aald cx (j := k) (f := rfa ad (made (κ.2.2.1 0))) 1 rfl rfl (by omega) (by decide) dX6_soundShare_40 ?_
          refine J_astoreq cx (L' := [(5, va_rf (rfa ad (made (κ.2.2.1 0)) k)), (1, .int (nI (cnt (mdB (κ.2.2.1 0) (sdB κ)) k))), (2, .ref (ad 0 1)), (3, .int (nI 40)), (4, .int (nI k)), (0, .ref (ad 0 0))]) dX6_soundShare_41 (by decide) rfl ?_
          refine J_aloadq cx dX6_soundShare_43 0 rfl ?_
          refine J_ifnull cx (tgt := 72) dX6_soundShare_45 (by decide) (fun c_3 => ?_) (fun y_4 c_3 => ?_)
          · have hno := made_none (rfa_none c_3)
            refine J_Le (L' := [(5, va_rf (rfa ad (made (κ.2.2.1 0)) k)), (1, .int (nI (cnt (mdB (κ.2.2.1 0) (sdB κ)) (k + 1)))), (2, .ref (ad 0 1)), (3, .int (nI 40)), (4, .int (nI k)), (0, .ref (ad 0 0))]) (by rw [← cnt_f (p := mdB (κ.2.2.1 0) (sdB κ)) (k := k) (mdB_no hno)]; try rfl) ?_
            refine J_iinc cx (v := (nI (k + 1))) (L' := [(4, .int (nI (k + 1))), (5, va_rf (rfa ad (made (κ.2.2.1 0)) k)), (1, .int (nI (cnt (mdB (κ.2.2.1 0) (sdB κ)) (k + 1)))), (2, .ref (ad 0 1)), (3, .int (nI 40)), (0, .ref (ad 0 0))]) dX6_soundShare_72 4 rfl (by exact nI_add k 1) (by decide) rfl ?_
            refine J_goto cx (tgt := 31) dX6_soundShare_75 (by decide) ?_
            refine J_L [2, 3, 4, 0, 5] rfl ?_
            exact ih (k + 1) (by omega) (by omega)
          · have c_3v := c_3
            obtain ⟨i, him, hiy⟩ := rfa_some c_3; obtain ⟨hi, hie⟩ := made_some him; have hie := hie.symm; subst hie; subst hiy
            refine J_Le (L' := [(5, .ref (ad 1 k)), (1, .int (nI (cnt (mdB (κ.2.2.1 0) (sdB κ)) k))), (2, .ref (ad 0 1)), (3, .int (nI 40)), (4, .int (nI k)), (0, .ref (ad 0 0))]) (by rw [c_3v]; rfl) ?_
            refine J_aload cx dX6_soundShare_48 0 rfl ?_
            refine J_aload_n cx dX6_soundShare_50 rfl 5 rfl ?_
            refine J_get cx (v := .int (nI (κ.2.2.1 2))) fX6_49 0 rfl rfl dX6_soundShare_51 ?_
            refine J_callVi cx kX6_268 (As := [.int (nI (κ.2.2.1 2))]) (tX0_isValidOn l D g A ad κ X cs lf pr  k (nI (κ.2.2.1 2)) hi) ⟨rfl, rfl, by decide, by decide⟩ ⟨by decide, by decide⟩ rfl (17 + k) (iG_c (by first | assumption | omega)) rfl rfl (Nat.le_of_ble_eq_true rfl) dX6_soundShare_54 ?_
            intro _ _ hr; cases hr
            refine J_ifz_eq cx (tgt := 72) dX6_soundShare_57 (by decide) (fun c_5 => ?_) (fun c_5 => ?_)
            · refine J_Le (L' := [(5, .ref (ad 1 k)), (1, .int (nI (cnt (mdB (κ.2.2.1 0) (sdB κ)) (k + 1)))), (2, .ref (ad 0 1)), (3, .int (nI 40)), (4, .int (nI k)), (0, .ref (ad 0 0))]) (by rw [← cnt_f (p := mdB (κ.2.2.1 0) (sdB κ)) (k := k) ((mdB_in hi).trans (by simp [sdB, c_1, c_1d, c_2, c_2d, c_5]))]; try rfl) ?_
              refine J_iinc cx (v := (nI (k + 1))) (L' := [(4, .int (nI (k + 1))), (5, .ref (ad 1 k)), (1, .int (nI (cnt (mdB (κ.2.2.1 0) (sdB κ)) (k + 1)))), (2, .ref (ad 0 1)), (3, .int (nI 40)), (0, .ref (ad 0 0))]) dX6_soundShare_72 4 rfl (by exact nI_add k 1) (by decide) rfl ?_
              refine J_goto cx (tgt := 31) dX6_soundShare_75 (by decide) ?_
              refine J_L [2, 3, 4, 0, 5] rfl ?_
              exact ih (k + 1) (by omega) (by omega)
            · refine J_aload cx dX6_soundShare_60 0 rfl ?_
              refine J_get cx (v := .int (κ.1 9 k)) fX6_271 (17 + k) (iG_c (by first | assumption | omega)) rfl dX6_soundShare_62 ?_
              refine J_iconst cx (v := (-1)) dX6_soundShare_65 (by decide) ?_
              refine J_icmp_ne cx (tgt := 72) dX6_soundShare_66 (by decide) (fun c_6 => ?_) (fun c_6 => ?_)
              · have c_6d := decide_eq_false c_6
                refine J_Le (L' := [(5, .ref (ad 1 k)), (1, .int (nI (cnt (mdB (κ.2.2.1 0) (sdB κ)) (k + 1)))), (2, .ref (ad 0 1)), (3, .int (nI 40)), (4, .int (nI k)), (0, .ref (ad 0 0))]) (by rw [← cnt_f (p := mdB (κ.2.2.1 0) (sdB κ)) (k := k) ((mdB_in hi).trans (by simp [sdB, c_1, c_1d, c_2, c_2d, c_5, c_6, c_6d]))]; try rfl) ?_
                refine J_iinc cx (v := (nI (k + 1))) (L' := [(4, .int (nI (k + 1))), (5, .ref (ad 1 k)), (1, .int (nI (cnt (mdB (κ.2.2.1 0) (sdB κ)) (k + 1)))), (2, .ref (ad 0 1)), (3, .int (nI 40)), (0, .ref (ad 0 0))]) dX6_soundShare_72 4 rfl (by exact nI_add k 1) (by decide) rfl ?_
                refine J_goto cx (tgt := 31) dX6_soundShare_75 (by decide) ?_
                refine J_L [2, 3, 4, 0, 5] rfl ?_
                exact ih (k + 1) (by omega) (by omega)
              · have c_6d := decide_eq_true c_6
                refine J_iinc cx (v := (nI ((cnt (mdB (κ.2.2.1 0) (sdB κ)) k) + 1))) (L' := [(1, .int (nI ((cnt (mdB (κ.2.2.1 0) (sdB κ)) k) + 1))), (5, .ref (ad 1 k)), (2, .ref (ad 0 1)), (3, .int (nI 40)), (4, .int (nI k)), (0, .ref (ad 0 0))]) dX6_soundShare_69 1 rfl (by exact nI_add (cnt (mdB (κ.2.2.1 0) (sdB κ)) k) 1) (by decide) rfl ?_
                refine J_Le (L' := [(1, .int (nI (cnt (mdB (κ.2.2.1 0) (sdB κ)) (k + 1)))), (5, .ref (ad 1 k)), (2, .ref (ad 0 1)), (3, .int (nI 40)), (4, .int (nI k)), (0, .ref (ad 0 0))]) (by rw [← cnt_t (p := mdB (κ.2.2.1 0) (sdB κ)) (k := k) ((mdB_in hi).trans (by simp [sdB, c_1, c_1d, c_2, c_2d, c_5, c_6d]))]; try rfl) ?_
                refine J_iinc cx (v := (nI (k + 1))) (L' := [(4, .int (nI (k + 1))), (1, .int (nI (cnt (mdB (κ.2.2.1 0) (sdB κ)) (k + 1)))), (5, .ref (ad 1 k)), (2, .ref (ad 0 1)), (3, .int (nI 40)), (0, .ref (ad 0 0))]) dX6_soundShare_72 4 rfl (by exact nI_add k 1) (by decide) rfl ?_
                refine J_goto cx (tgt := 31) dX6_soundShare_75 (by decide) ?_
                refine J_L [1, 3, 4, 0, 5] rfl ?_
                exact ih (k + 1) (by omega) (by omega)
    refine J_L [3, 2, 1, 0, 4] rfl ?_
    exact LP _ 0 (by omega) (Nat.lt_succ_self _)
  · have c_1 := (nat_if_ne_f (by omega)).mp c_1
    have c_1d := decide_eq_true c_1
    exact J_throw cx hex htr rfl th_267 (List.mem_of_getElem? (i := 0) rfl) ⟨by omega, rfl⟩ dX6_soundShare_7 dX6_soundShare_10 (Or.inr ⟨dX6_soundShare_11, dX6_soundShare_14, dX6_soundShare_17⟩) ⟨by decide, by decide, by decide, by decide⟩ ⟨by decide, by decide⟩
