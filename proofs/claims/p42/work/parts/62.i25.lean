def rmL (d : Nat) : Room := { frames := 4 + d, cells := 0, slots := 0, locals := 90 + d * 30 }
set_option maxHeartbeats 4000000 in
set_option maxRecDepth 100000 in
theorem tX6_countLengthened (l : Launch) (D : va_G) (g : Nat → ClassId) (A : Nat → Prop) (ad : Nat → Nat → Nat) (κ : CS) (X : XT) (cs : Nat → CT) (lf : Nat → Int64) (pr : PT)  (hI : InvM κ) (hS : ShX κ X) : ∀ (d : Nat) (c1 : CT), (ShC κ c1) → (1 ≤ c1.2.1) → (c1.2.1 + d = 8) → CtI l D g A yX6_countLengthened cX6_countLengthened 5 .int (rmL d) [.ref (ad 0 13)] (iW ad g κ X (upc cs 1 c1) lf pr) (nI (ctK (thC κ X) (okL κ) X d c1).1) (iW ad g κ X (upc cs 1 ((ctK (thC κ X) (okL κ) X d c1).2)) lf pr) := by
  intro d; induction d with
  | zero => 
    intro c1 hC1 h1 h8
    exact absurd h8 (by have := hC1.1; omega)
  | succ d ihd => 
    intro c1 hC1 h1 h8
    have hz1 := hC1.1
    refine metJ (by decide) (Nat.le_of_ble_eq_true rfl) ?_
    intro p e s m args below meth c _ _ cx
    refine J_aload_n cx dX6_countLengthened_0 rfl 0 rfl ?_
    refine J_callVq cx kX6_286 (As := []) (tX1_last l D g A ad κ X cs lf pr  1 c1 (by decide) hz1) ⟨rfl, rfl, by simp only [rmL]; omega, by simp only [rmL]; omega⟩ ⟨by simp only [rmL]; omega, by simp only [rmL]; omega⟩ rfl (11 + 2 * 1) (iG_ch (by decide)) rfl rfl (Nat.le_of_ble_eq_true rfl) dX6_countLengthened_1 ?_
    intro _ _ hr; cases hr
    refine J_astore_nq cx (L' := [(1, va_rf ((lastC c1).map (ad 1))), (0, .ref (ad 0 13))]) dX6_countLengthened_4 rfl (by decide) rfl ?_
    refine J_aload_nq cx dX6_countLengthened_5 rfl 0 rfl ?_
    refine J_ifnonnull cx (tgt := 11) dX6_countLengthened_6 (by decide) (fun y_2 c_1 => ?_) (fun c_1 => ?_)
    · have c_1v := c_1
      obtain ⟨i, hi, hiy⟩ := Option.map_eq_some_iff.mp c_1; subst hiy
      have hib := lastC_lt hC1 hi
      refine J_Le (L' := [(1, .ref (ad 1 i)), (0, .ref (ad 0 13))]) (by rw [c_1v]; rfl) ?_
      have LP : ∀ (fu : Nat) (r : Nat) (t : CT) (a : Nat), (r ≤ 3) → (KeepT κ c1 t) → (ctL (ctB (okL κ) X (ctK (thC κ X) (okL κ) X d) i) (3 - r) r (a, t) = ctK (thC κ X) (okL κ) X (d + 1) c1) → 3 - r < fu → J p l e (rmL (d + 1)) s m args below meth c D A 5 (MQ below (va_Qi (fun (r : Int32) (_ : Unit) => r = (nI (ctK (thC κ X) (okL κ) X (d + 1) c1).1)) (fun _ => PO D A (iW ad g κ X (upc cs 1 ((ctK (thC κ X) (okL κ) X (d + 1) c1).2)) lf pr)) A) args s 0 0 A) 0 0 (iW ad g κ X (upc cs 1 t) lf pr) [(3, .int (nI r)), (2, .int (nI a)), (0, .ref (ad 0 13)), (1, .ref (ad 1 i))] 26 [] := by
        intro fu; induction fu with
        | zero => intro r t a hr hkp heq hfu; exact absurd hfu (Nat.not_lt_zero _)
        | succ fu ih =>
          intro r t a hr hkp heq hfu
          have ht2 : t.2.1 = c1.2.1 := congrArg Prod.fst hkp.2.1
          have hz1 := hC1.1
          refine J_iload_n cx dX6_countLengthened_26 rfl 0 rfl ?_
          refine J_iconst cx (v := nI 3) dX6_countLengthened_27 (by decide) ?_
          refine J_icmp_ge cx (tgt := 80) dX6_countLengthened_28 (by decide) (fun c_3 => ?_) (fun c_3 => ?_)
          · have c_3 := (nat_ic_ge (by omega) (by omega)).mp c_3
            have c_3d := decide_eq_true c_3
            refine J_iload_n cx dX6_countLengthened_80 rfl 1 rfl ?_
            exact J_iret cx rfl (u := ()) (by rw [← heq, show 3 - r = 0 from by omega]; rfl) (by rw [← heq, show 3 - r = 0 from by omega]; rfl) (Nat.le_of_ble_eq_true rfl) (Nat.le_of_ble_eq_true rfl) dX6_countLengthened_81
          · have c_3 := (nat_ic_ge_f (by omega) (by omega)).mp c_3
            have c_3d := decide_eq_false (Nat.not_le.mpr c_3)
            have hr3 : r < 3 := by omega
            refine J_aload_n cx dX6_countLengthened_31 rfl 3 rfl ?_
            refine J_iload_n cx dX6_countLengthened_32 rfl 0 rfl ?_
            refine J_callVq cx kX6_281 (As := [.int (nI r)]) (tX0_candidate l D g A ad κ X (upc cs 1 t) lf pr  i (nI r) hS hib) ⟨rfl, rfl, by simp only [rmL]; omega, by simp only [rmL]; omega⟩ ⟨by simp only [rmL]; omega, by simp only [rmL]; omega⟩ rfl (17 + i) (iG_c (by first | assumption | omega)) rfl rfl (Nat.le_of_ble_eq_true rfl) dX6_countLengthened_33 ?_
            intro _ _ hr; cases hr
            refine J_astoreq cx (L' := [(4, va_rf ((cdC X i (nI r)).map (ad 1))), (3, .int (nI r)), (2, .int (nI a)), (0, .ref (ad 0 13)), (1, .ref (ad 1 i))]) dX6_countLengthened_36 (by decide) rfl ?_
            refine J_aloadq cx dX6_countLengthened_38 0 rfl ?_
            refine J_ifnull cx (tgt := 74) dX6_countLengthened_40 (by decide) (fun c_4 => ?_) (fun y_5 c_4 => ?_)
            · have c_4 : cdC X i (nI r) = none := Option.map_eq_none_iff.mp c_4
              refine J_iinc cx (v := (nI (r + 1))) (L' := [(3, .int (nI (r + 1))), (4, va_rf ((cdC X i (nI r)).map (ad 1))), (2, .int (nI a)), (0, .ref (ad 0 13)), (1, .ref (ad 1 i))]) dX6_countLengthened_74 1 rfl (by exact nI_add r 1) (by decide) rfl ?_
              refine J_goto cx (tgt := 26) dX6_countLengthened_77 (by decide) ?_
              refine J_L [0, 2, 3, 4] rfl ?_
              exact ih (r + 1) t a (by omega) hkp ((ctL_step hr3 (ctB_none c_4)).symm.trans heq) (by omega)
            · have c_4v := c_4
              obtain ⟨k, hk, hky⟩ := Option.map_eq_some_iff.mp c_4; subst hky
              have hkb := (cdC_lt hS hib hk).1
              refine J_Le (L' := [(4, .ref (ad 1 k)), (3, .int (nI r)), (2, .int (nI a)), (0, .ref (ad 0 13)), (1, .ref (ad 1 i))]) (by rw [c_4v]; rfl) ?_
              refine J_aload_n cx dX6_countLengthened_43 rfl 3 rfl ?_
              refine J_aload cx dX6_countLengthened_44 0 rfl ?_
              refine J_callVi cx kX6_217 (As := [.ref (ad 1 k)]) (tX1_refusalOf l D g A ad κ X cs lf pr  1 t k (by decide) hS hI hkp.1 hkb (by omega)) ⟨rfl, rfl, by simp only [rmL]; omega, by simp only [rmL]; omega⟩ ⟨by simp only [rmL]; omega, by simp only [rmL]; omega⟩ rfl (11 + 2 * 1) (iG_ch (by decide)) rfl rfl (Nat.le_of_ble_eq_true rfl) dX6_countLengthened_46 ?_
              intro _ _ hr; cases hr
              have hrl := refC_le κ (wyO t) t.2.1 k t.2.2
              refine J_bipush cx (v := nI 111) dX6_countLengthened_49 (by decide) ?_
              refine J_icmp_ne cx (tgt := 74) dX6_countLengthened_51 (by decide) (fun c_6 => ?_) (fun c_6 => ?_)
              · have c_6 := (nat_ic_ne (by omega) (by omega)).mp c_6
                have c_6d := decide_eq_false c_6
                refine J_iinc cx (v := (nI (r + 1))) (L' := [(3, .int (nI (r + 1))), (4, .ref (ad 1 k)), (2, .int (nI a)), (0, .ref (ad 0 13)), (1, .ref (ad 1 i))]) dX6_countLengthened_74 1 rfl (by exact nI_add r 1) (by decide) rfl ?_
                refine J_goto cx (tgt := 26) dX6_countLengthened_77 (by decide) ?_
                refine J_L [0, 2, 3, 4] rfl ?_
                exact ih (r + 1) t a (by omega) hkp ((ctL_step hr3 (ctB_no hk (decide_eq_false c_6))).symm.trans heq) (by omega)
              · have c_6 := (nat_ic_ne_f (by omega) (by omega)).mp c_6
                have c_6d := decide_eq_true c_6
                have hrk := c_6
                have h6 := refC_sz hI hkb (by omega) hrk
                have hlt : t.2.1 < 7 := by omega
                have hok : okL κ t k = true := decide_eq_true hrk
                refine J_aload_n cx dX6_countLengthened_54 rfl 3 rfl ?_
                refine J_aload cx dX6_countLengthened_55 0 rfl ?_
                refine J_callVi cx kX6_221 (As := [.ref (ad 1 k)]) (tX1_add l D g A ad κ X cs lf pr  1 t k (by decide) hlt hkb) ⟨rfl, rfl, by simp only [rmL]; omega, by simp only [rmL]; omega⟩ ⟨by simp only [rmL]; omega, by simp only [rmL]; omega⟩ rfl (11 + 2 * 1) (iG_ch (by decide)) rfl rfl (Nat.le_of_ble_eq_true rfl) dX6_countLengthened_57 ?_
                intro _ _ hr; cases hr
                refine J_if_eq cx (tgt := 74) dX6_countLengthened_60 (by decide) (fun h => absurd h (by decide)) (fun _ => ?_)
                refine J_ws (ws' := (iW ad g κ X (upc cs 1 (addC t k)) lf pr)) rfl ?_
                have hck := ctK_keep (X := X) (th := thC κ X) (ok := okL κ) (okL_7 hI) hS d (addC t k) (addC_ok hkp.1 (by omega) hkb) (by show 1 ≤ t.2.1 + 1; omega)
                have hfs : (ctK (thC κ X) (okL κ) X d (addC t k)).2.2.1 = t.2.1 + 1 := congrArg Prod.fst hck.2.1
                have hfb : ctB (okL κ) X (ctK (thC κ X) (okL κ) X d) i r (a, t) = (a + (ctK (thC κ X) (okL κ) X d (addC t k)).1, popC (ctK (thC κ X) (okL κ) X d (addC t k)).2) := ctB_some hk hok
                refine J_iload_n cx dX6_countLengthened_63 rfl 2 rfl ?_
                refine J_aload_n cx dX6_countLengthened_64 rfl 3 rfl ?_
                refine J_callSi cx kX6_210 (As := [.ref (ad 0 13)]) (ihd (addC t k) (addC_ok hkp.1 (by omega) hkb) (by show 1 ≤ t.2.1 + 1; omega) (by show t.2.1 + 1 + d = 8; omega)) ⟨rfl, rfl, by simp only [rmL]; omega, by simp only [rmL]; omega⟩ ⟨by simp only [rmL]; omega, by simp only [rmL]; omega⟩ rfl rfl (Nat.le_of_ble_eq_true rfl) dX6_countLengthened_65 ?_
                intro _ _ hr; cases hr
                refine J_iadd cx dX6_countLengthened_68 ?_
                refine J_top (v' := .int (nI (a + (ctK (thC κ X) (okL κ) X d (addC t k)).1))) (congrArg Value.int (nI_add a ((ctK (thC κ X) (okL κ) X d (addC t k)).1))) ?_
                refine J_istore_n cx (L' := [(2, .int (nI (a + (ctK (thC κ X) (okL κ) X d (addC t k)).1))), (4, .ref (ad 1 k)), (3, .int (nI r)), (0, .ref (ad 0 13)), (1, .ref (ad 1 i))]) dX6_countLengthened_69 rfl (by decide) rfl ?_
                refine J_aload_n cx dX6_countLengthened_70 rfl 3 rfl ?_
                refine J_callVv cx kX6_338 (As := []) (tX1_removeLast l D g A ad κ X cs lf pr  1 ((ctK (thC κ X) (okL κ) X d (addC t k)).2) (by decide) (by rw [hfs]; omega) (by rw [hfs]; omega)) ⟨rfl, rfl, by simp only [rmL]; omega, by simp only [rmL]; omega⟩ ⟨by simp only [rmL]; omega, by simp only [rmL]; omega⟩ rfl (11 + 2 * 1) (iG_ch (by decide)) rfl rfl (Nat.le_of_ble_eq_true rfl) dX6_countLengthened_71 ?_
                intro _ _
                refine J_ws (ws' := (iW ad g κ X (upc cs 1 (popC (ctK (thC κ X) (okL κ) X d (addC t k)).2)) lf pr)) rfl ?_
                refine J_iinc cx (v := (nI (r + 1))) (L' := [(3, .int (nI (r + 1))), (2, .int (nI (a + (ctK (thC κ X) (okL κ) X d (addC t k)).1))), (4, .ref (ad 1 k)), (0, .ref (ad 0 13)), (1, .ref (ad 1 i))]) dX6_countLengthened_74 2 rfl (by exact nI_add r 1) (by decide) rfl ?_
                refine J_goto cx (tgt := 26) dX6_countLengthened_77 (by decide) ?_
                refine J_L [0, 1, 3, 4] rfl ?_
                exact ih (r + 1) (popC (ctK (thC κ X) (okL κ) X d (addC t k)).2) _ (by omega) (by have q := ctB_keep (ok := okL κ) (go := ctK (thC κ X) (okL κ) X d) (okL_7 hI) hS hib h1 (fun _ t2 a2 e2 => ctK_keep (th := thC κ X) (okL_7 hI) hS d t2 a2 (by omega)) r (a, t) hkp; rw [hfb] at q; exact q) ((ctL_step hr3 hfb).symm.trans heq) (by omega)
      refine J_aload_n cx dX6_countLengthened_11 rfl 1 rfl ?_
      refine J_callVi cx kX6_228 (As := []) (tX1_endsInTrust l D g A ad κ X cs lf pr  1 c1 (by decide) hS hC1) ⟨rfl, rfl, by simp only [rmL]; omega, by simp only [rmL]; omega⟩ ⟨by simp only [rmL]; omega, by simp only [rmL]; omega⟩ rfl (11 + 2 * 1) (iG_ch (by decide)) rfl rfl (Nat.le_of_ble_eq_true rfl) dX6_countLengthened_12 ?_
      intro _ _ hr; cases hr
      refine J_ifz_eq cx (tgt := 22) dX6_countLengthened_15 (by decide) (fun c_8 => ?_) (fun c_8 => ?_)
      · refine J_iconst cx (v := nI 0) dX6_countLengthened_22 (by decide) ?_
        refine J_istore_n cx (L' := [(2, .int (nI 0)), (1, .ref (ad 1 i)), (0, .ref (ad 0 13))]) dX6_countLengthened_23 rfl (by decide) rfl ?_
        refine J_iconst cx (v := nI 0) dX6_countLengthened_24 (by decide) ?_
        refine J_istore_n cx (L' := [(3, .int (nI 0)), (2, .int (nI 0)), (1, .ref (ad 1 i)), (0, .ref (ad 0 13))]) dX6_countLengthened_25 rfl (by decide) rfl ?_
        refine J_L [0, 1, 3, 2] rfl ?_
        exact LP _ 0 c1 0 (by omega) ⟨hC1, rfl, fun _ _ => rfl⟩ (by rw [ctK_s hi, c_8, if_neg Bool.false_ne_true]) (Nat.lt_succ_self _)
      · refine J_iconst cx (v := nI 1) dX6_countLengthened_18 (by decide) ?_
        refine J_goto cx (tgt := 23) dX6_countLengthened_19 (by decide) ?_
        refine J_istore_n cx (L' := [(2, .int (nI 1)), (1, .ref (ad 1 i)), (0, .ref (ad 0 13))]) dX6_countLengthened_23 rfl (by decide) rfl ?_
        refine J_iconst cx (v := nI 0) dX6_countLengthened_24 (by decide) ?_
        refine J_istore_n cx (L' := [(3, .int (nI 0)), (2, .int (nI 1)), (1, .ref (ad 1 i)), (0, .ref (ad 0 13))]) dX6_countLengthened_25 rfl (by decide) rfl ?_
        refine J_L [0, 1, 3, 2] rfl ?_
        exact LP _ 0 c1 1 (by omega) ⟨hC1, rfl, fun _ _ => rfl⟩ (by rw [ctK_s hi, c_8, if_pos rfl]) (Nat.lt_succ_self _)
    · have c_1 : lastC c1 = none := Option.map_eq_none_iff.mp c_1
      refine J_iconst cx (v := nI 0) dX6_countLengthened_9 (by decide) ?_
      exact J_iret cx rfl (u := ()) (by rw [ctK_n c_1]) (by rw [ctK_n c_1]) (Nat.le_of_ble_eq_true rfl) (Nat.le_of_ble_eq_true rfl) dX6_countLengthened_10
def rmJ (d : Nat) : Room := { frames := 5 + d, cells := 0, slots := 0, locals := 112 + d * 30 }
set_option maxHeartbeats 4000000 in
set_option maxRecDepth 100000 in
theorem tX6_countJudged (l : Launch) (D : va_G) (g : Nat → ClassId) (A : Nat → Prop) (ad : Nat → Nat → Nat) (κ : CS) (X : XT) (cs : Nat → CT) (lf : Nat → Int64) (pr : PT)  (hI : InvM κ) (hS : ShX κ X) : ∀ (d : Nat) (c1 : CT), (ShC κ c1) → (1 ≤ c1.2.1) → (c1.2.1 + d = 8) → CtI l D g A yX6_countJudged cX6_countJudged 5 .int (rmJ d) [.ref (ad 0 13)] (iW ad g κ X (upc cs 1 c1) lf pr) (nI (ctK (goodC κ X) (okJ) X d c1).1) (iW ad g κ X (upc cs 1 ((ctK (goodC κ X) (okJ) X d c1).2)) lf pr) := by
  intro d; induction d with
  | zero => 
    intro c1 hC1 h1 h8
    exact absurd h8 (by have := hC1.1; omega)
  | succ d ihd => 
    intro c1 hC1 h1 h8
    have hz1 := hC1.1
    refine metJ (by decide) (Nat.le_of_ble_eq_true rfl) ?_
    intro p e s m args below meth c _ _ cx
    refine J_aload_n cx dX6_countJudged_0 rfl 0 rfl ?_
    refine J_callVq cx kX6_286 (As := []) (tX1_last l D g A ad κ X cs lf pr  1 c1 (by decide) hz1) ⟨rfl, rfl, by simp only [rmJ]; omega, by simp only [rmJ]; omega⟩ ⟨by simp only [rmJ]; omega, by simp only [rmJ]; omega⟩ rfl (11 + 2 * 1) (iG_ch (by decide)) rfl rfl (Nat.le_of_ble_eq_true rfl) dX6_countJudged_1 ?_
    intro _ _ hr; cases hr
    refine J_astore_nq cx (L' := [(1, va_rf ((lastC c1).map (ad 1))), (0, .ref (ad 0 13))]) dX6_countJudged_4 rfl (by decide) rfl ?_
    refine J_aload_nq cx dX6_countJudged_5 rfl 0 rfl ?_
    refine J_ifnonnull cx (tgt := 11) dX6_countJudged_6 (by decide) (fun y_2 c_1 => ?_) (fun c_1 => ?_)
    · have c_1v := c_1
      obtain ⟨i, hi, hiy⟩ := Option.map_eq_some_iff.mp c_1; subst hiy
      have hib := lastC_lt hC1 hi
      refine J_Le (L' := [(1, .ref (ad 1 i)), (0, .ref (ad 0 13))]) (by rw [c_1v]; rfl) ?_
      have LP : ∀ (fu : Nat) (r : Nat) (t : CT) (a : Nat), (r ≤ 3) → (KeepT κ c1 t) → (ctL (ctB (okJ) X (ctK (goodC κ X) (okJ) X d) i) (3 - r) r (a, t) = ctK (goodC κ X) (okJ) X (d + 1) c1) → 3 - r < fu → J p l e (rmJ (d + 1)) s m args below meth c D A 5 (MQ below (va_Qi (fun (r : Int32) (_ : Unit) => r = (nI (ctK (goodC κ X) (okJ) X (d + 1) c1).1)) (fun _ => PO D A (iW ad g κ X (upc cs 1 ((ctK (goodC κ X) (okJ) X (d + 1) c1).2)) lf pr)) A) args s 0 0 A) 0 0 (iW ad g κ X (upc cs 1 t) lf pr) [(3, .int (nI r)), (2, .int (nI a)), (0, .ref (ad 0 13)), (1, .ref (ad 1 i))] 26 [] := by
        intro fu; induction fu with
        | zero => intro r t a hr hkp heq hfu; exact absurd hfu (Nat.not_lt_zero _)
        | succ fu ih =>
          intro r t a hr hkp heq hfu
          have ht2 : t.2.1 = c1.2.1 := congrArg Prod.fst hkp.2.1
          have hz1 := hC1.1
          refine J_iload_n cx dX6_countJudged_26 rfl 0 rfl ?_
          refine J_iconst cx (v := nI 3) dX6_countJudged_27 (by decide) ?_
          refine J_icmp_ge cx (tgt := 78) dX6_countJudged_28 (by decide) (fun c_3 => ?_) (fun c_3 => ?_)
          · have c_3 := (nat_ic_ge (by omega) (by omega)).mp c_3
            have c_3d := decide_eq_true c_3
            refine J_iload_n cx dX6_countJudged_78 rfl 1 rfl ?_
            exact J_iret cx rfl (u := ()) (by rw [← heq, show 3 - r = 0 from by omega]; rfl) (by rw [← heq, show 3 - r = 0 from by omega]; rfl) (Nat.le_of_ble_eq_true rfl) (Nat.le_of_ble_eq_true rfl) dX6_countJudged_79
          · have c_3 := (nat_ic_ge_f (by omega) (by omega)).mp c_3
            have c_3d := decide_eq_false (Nat.not_le.mpr c_3)
            have hr3 : r < 3 := by omega
            refine J_aload_n cx dX6_countJudged_31 rfl 3 rfl ?_
            refine J_iload_n cx dX6_countJudged_32 rfl 0 rfl ?_
            refine J_callVq cx kX6_281 (As := [.int (nI r)]) (tX0_candidate l D g A ad κ X (upc cs 1 t) lf pr  i (nI r) hS hib) ⟨rfl, rfl, by simp only [rmJ]; omega, by simp only [rmJ]; omega⟩ ⟨by simp only [rmJ]; omega, by simp only [rmJ]; omega⟩ rfl (17 + i) (iG_c (by first | assumption | omega)) rfl rfl (Nat.le_of_ble_eq_true rfl) dX6_countJudged_33 ?_
            intro _ _ hr; cases hr
            refine J_astoreq cx (L' := [(4, va_rf ((cdC X i (nI r)).map (ad 1))), (3, .int (nI r)), (2, .int (nI a)), (0, .ref (ad 0 13)), (1, .ref (ad 1 i))]) dX6_countJudged_36 (by decide) rfl ?_
            refine J_aloadq cx dX6_countJudged_38 0 rfl ?_
            refine J_ifnull cx (tgt := 72) dX6_countJudged_40 (by decide) (fun c_4 => ?_) (fun y_5 c_4 => ?_)
            · have c_4 : cdC X i (nI r) = none := Option.map_eq_none_iff.mp c_4
              refine J_iinc cx (v := (nI (r + 1))) (L' := [(3, .int (nI (r + 1))), (4, va_rf ((cdC X i (nI r)).map (ad 1))), (2, .int (nI a)), (0, .ref (ad 0 13)), (1, .ref (ad 1 i))]) dX6_countJudged_72 1 rfl (by exact nI_add r 1) (by decide) rfl ?_
              refine J_goto cx (tgt := 26) dX6_countJudged_75 (by decide) ?_
              refine J_L [0, 2, 3, 4] rfl ?_
              exact ih (r + 1) t a (by omega) hkp ((ctL_step hr3 (ctB_none c_4)).symm.trans heq) (by omega)
            · have c_4v := c_4
              obtain ⟨k, hk, hky⟩ := Option.map_eq_some_iff.mp c_4; subst hky
              have hkb := (cdC_lt hS hib hk).1
              refine J_Le (L' := [(4, .ref (ad 1 k)), (3, .int (nI r)), (2, .int (nI a)), (0, .ref (ad 0 13)), (1, .ref (ad 1 i))]) (by rw [c_4v]; rfl) ?_
              refine J_aload_n cx dX6_countJudged_43 rfl 3 rfl ?_
              refine J_aload cx dX6_countJudged_44 0 rfl ?_
              refine J_callVi cx kX6_344 (As := [.ref (ad 1 k)]) (tX1_has l D g A ad κ X cs lf pr  1 t k (by decide) hkp.1 hkb) ⟨rfl, rfl, by simp only [rmJ]; omega, by simp only [rmJ]; omega⟩ ⟨by simp only [rmJ]; omega, by simp only [rmJ]; omega⟩ rfl (11 + 2 * 1) (iG_ch (by decide)) rfl rfl (Nat.le_of_ble_eq_true rfl) dX6_countJudged_46 ?_
              intro _ _ hr; cases hr
              refine J_ifz_ne cx (tgt := 72) dX6_countJudged_49 (by decide) (fun c_6 => ?_) (fun c_6 => ?_)
              · refine J_iinc cx (v := (nI (r + 1))) (L' := [(3, .int (nI (r + 1))), (4, .ref (ad 1 k)), (2, .int (nI a)), (0, .ref (ad 0 13)), (1, .ref (ad 1 i))]) dX6_countJudged_72 1 rfl (by exact nI_add r 1) (by decide) rfl ?_
                refine J_goto cx (tgt := 26) dX6_countJudged_75 (by decide) ?_
                refine J_L [0, 2, 3, 4] rfl ?_
                exact ih (r + 1) t a (by omega) hkp ((ctL_step hr3 (ctB_no hk (by unfold okJ; rw [c_6]; rfl))).symm.trans heq) (by omega)
              · have hnh := c_6
                rcases Nat.lt_or_ge t.2.1 7 with hlt | hge
                · have hok : okJ t k = true := by unfold okJ; rw [hnh, decide_eq_true hlt]; rfl
                  refine J_aload_n cx dX6_countJudged_52 rfl 3 rfl ?_
                  refine J_aload cx dX6_countJudged_53 0 rfl ?_
                  refine J_callVi cx kX6_221 (As := [.ref (ad 1 k)]) (tX1_add l D g A ad κ X cs lf pr  1 t k (by decide) hlt hkb) ⟨rfl, rfl, by simp only [rmJ]; omega, by simp only [rmJ]; omega⟩ ⟨by simp only [rmJ]; omega, by simp only [rmJ]; omega⟩ rfl (11 + 2 * 1) (iG_ch (by decide)) rfl rfl (Nat.le_of_ble_eq_true rfl) dX6_countJudged_55 ?_
                  intro _ _ hr; cases hr
                  refine J_if_eq cx (tgt := 72) dX6_countJudged_58 (by decide) (fun h => absurd h (by decide)) (fun _ => ?_)
                  refine J_ws (ws' := (iW ad g κ X (upc cs 1 (addC t k)) lf pr)) rfl ?_
                  have hck := ctK_keep (X := X) (th := goodC κ X) (ok := okJ) okJ_7 hS d (addC t k) (addC_ok hkp.1 (by omega) hkb) (by show 1 ≤ t.2.1 + 1; omega)
                  have hfs : (ctK (goodC κ X) (okJ) X d (addC t k)).2.2.1 = t.2.1 + 1 := congrArg Prod.fst hck.2.1
                  have hfb : ctB (okJ) X (ctK (goodC κ X) (okJ) X d) i r (a, t) = (a + (ctK (goodC κ X) (okJ) X d (addC t k)).1, popC (ctK (goodC κ X) (okJ) X d (addC t k)).2) := ctB_some hk hok
                  refine J_iload_n cx dX6_countJudged_61 rfl 2 rfl ?_
                  refine J_aload_n cx dX6_countJudged_62 rfl 3 rfl ?_
                  refine J_callSi cx kX6_202 (As := [.ref (ad 0 13)]) (ihd (addC t k) (addC_ok hkp.1 (by omega) hkb) (by show 1 ≤ t.2.1 + 1; omega) (by show t.2.1 + 1 + d = 8; omega)) ⟨rfl, rfl, by simp only [rmJ]; omega, by simp only [rmJ]; omega⟩ ⟨by simp only [rmJ]; omega, by simp only [rmJ]; omega⟩ rfl rfl (Nat.le_of_ble_eq_true rfl) dX6_countJudged_63 ?_
                  intro _ _ hr; cases hr
                  refine J_iadd cx dX6_countJudged_66 ?_
                  refine J_top (v' := .int (nI (a + (ctK (goodC κ X) (okJ) X d (addC t k)).1))) (congrArg Value.int (nI_add a ((ctK (goodC κ X) (okJ) X d (addC t k)).1))) ?_
                  refine J_istore_n cx (L' := [(2, .int (nI (a + (ctK (goodC κ X) (okJ) X d (addC t k)).1))), (4, .ref (ad 1 k)), (3, .int (nI r)), (0, .ref (ad 0 13)), (1, .ref (ad 1 i))]) dX6_countJudged_67 rfl (by decide) rfl ?_
                  refine J_aload_n cx dX6_countJudged_68 rfl 3 rfl ?_
                  refine J_callVv cx kX6_338 (As := []) (tX1_removeLast l D g A ad κ X cs lf pr  1 ((ctK (goodC κ X) (okJ) X d (addC t k)).2) (by decide) (by rw [hfs]; omega) (by rw [hfs]; omega)) ⟨rfl, rfl, by simp only [rmJ]; omega, by simp only [rmJ]; omega⟩ ⟨by simp only [rmJ]; omega, by simp only [rmJ]; omega⟩ rfl (11 + 2 * 1) (iG_ch (by decide)) rfl rfl (Nat.le_of_ble_eq_true rfl) dX6_countJudged_69 ?_
                  intro _ _
                  refine J_ws (ws' := (iW ad g κ X (upc cs 1 (popC (ctK (goodC κ X) (okJ) X d (addC t k)).2)) lf pr)) rfl ?_
                  refine J_iinc cx (v := (nI (r + 1))) (L' := [(3, .int (nI (r + 1))), (2, .int (nI (a + (ctK (goodC κ X) (okJ) X d (addC t k)).1))), (4, .ref (ad 1 k)), (0, .ref (ad 0 13)), (1, .ref (ad 1 i))]) dX6_countJudged_72 2 rfl (by exact nI_add r 1) (by decide) rfl ?_
                  refine J_goto cx (tgt := 26) dX6_countJudged_75 (by decide) ?_
                  refine J_L [0, 1, 3, 4] rfl ?_
                  exact ih (r + 1) (popC (ctK (goodC κ X) (okJ) X d (addC t k)).2) _ (by omega) (by have q := ctB_keep (ok := okJ) (go := ctK (goodC κ X) (okJ) X d) okJ_7 hS hib h1 (fun _ t2 a2 e2 => ctK_keep (th := goodC κ X) okJ_7 hS d t2 a2 (by omega)) r (a, t) hkp; rw [hfb] at q; exact q) ((ctL_step hr3 hfb).symm.trans heq) (by omega)
                · have ht7 : t.2.1 = 7 := by omega
                  refine J_aload_n cx dX6_countJudged_52 rfl 3 rfl ?_
                  refine J_aload cx dX6_countJudged_53 0 rfl ?_
                  refine J_callVi cx kX6_221 (As := [.ref (ad 1 k)]) (tX1_addF l D g A ad κ X cs lf pr  1 t k (by decide) ht7 hkb) ⟨rfl, rfl, by simp only [rmJ]; omega, by simp only [rmJ]; omega⟩ ⟨by simp only [rmJ]; omega, by simp only [rmJ]; omega⟩ rfl (11 + 2 * 1) (iG_ch (by decide)) rfl rfl (Nat.le_of_ble_eq_true rfl) dX6_countJudged_55 ?_
                  intro _ _ hr; cases hr
                  refine J_if_eq cx (tgt := 72) dX6_countJudged_58 (by decide) (fun _ => ?_) (fun h => absurd h (by decide))
                  refine J_iinc cx (v := (nI (r + 1))) (L' := [(3, .int (nI (r + 1))), (4, .ref (ad 1 k)), (2, .int (nI a)), (0, .ref (ad 0 13)), (1, .ref (ad 1 i))]) dX6_countJudged_72 1 rfl (by exact nI_add r 1) (by decide) rfl ?_
                  refine J_goto cx (tgt := 26) dX6_countJudged_75 (by decide) ?_
                  refine J_L [0, 2, 3, 4] rfl ?_
                  exact ih (r + 1) t a (by omega) hkp ((ctL_step hr3 (ctB_no hk (by unfold okJ; rw [decide_eq_false (show ¬ t.2.1 < 7 by omega)]; simp))).symm.trans heq) (by omega)
      refine J_aload_n cx dX6_countJudged_11 rfl 1 rfl ?_
      refine J_callVi cx kX6_341 (As := []) (tX1_isGood l D g A ad κ X cs lf pr  1 c1 (by decide) hS hI hC1) ⟨rfl, rfl, by simp only [rmJ]; omega, by simp only [rmJ]; omega⟩ ⟨by simp only [rmJ]; omega, by simp only [rmJ]; omega⟩ rfl (11 + 2 * 1) (iG_ch (by decide)) rfl rfl (Nat.le_of_ble_eq_true rfl) dX6_countJudged_12 ?_
      intro _ _ hr; cases hr
      refine J_ifz_eq cx (tgt := 22) dX6_countJudged_15 (by decide) (fun c_9 => ?_) (fun c_9 => ?_)
      · refine J_iconst cx (v := nI 0) dX6_countJudged_22 (by decide) ?_
        refine J_istore_n cx (L' := [(2, .int (nI 0)), (1, .ref (ad 1 i)), (0, .ref (ad 0 13))]) dX6_countJudged_23 rfl (by decide) rfl ?_
        refine J_iconst cx (v := nI 0) dX6_countJudged_24 (by decide) ?_
        refine J_istore_n cx (L' := [(3, .int (nI 0)), (2, .int (nI 0)), (1, .ref (ad 1 i)), (0, .ref (ad 0 13))]) dX6_countJudged_25 rfl (by decide) rfl ?_
        refine J_L [0, 1, 3, 2] rfl ?_
        exact LP _ 0 c1 0 (by omega) ⟨hC1, rfl, fun _ _ => rfl⟩ (by rw [ctK_s hi, c_9, if_neg Bool.false_ne_true]) (Nat.lt_succ_self _)
      · refine J_iconst cx (v := nI 1) dX6_countJudged_18 (by decide) ?_
        refine J_goto cx (tgt := 23) dX6_countJudged_19 (by decide) ?_
        refine J_istore_n cx (L' := [(2, .int (nI 1)), (1, .ref (ad 1 i)), (0, .ref (ad 0 13))]) dX6_countJudged_23 rfl (by decide) rfl ?_
        refine J_iconst cx (v := nI 0) dX6_countJudged_24 (by decide) ?_
        refine J_istore_n cx (L' := [(3, .int (nI 0)), (2, .int (nI 1)), (1, .ref (ad 1 i)), (0, .ref (ad 0 13))]) dX6_countJudged_25 rfl (by decide) rfl ?_
        refine J_L [0, 1, 3, 2] rfl ?_
        exact LP _ 0 c1 1 (by omega) ⟨hC1, rfl, fun _ _ => rfl⟩ (by rw [ctK_s hi, c_9, if_pos rfl]) (Nat.lt_succ_self _)
    · have c_1 : lastC c1 = none := Option.map_eq_none_iff.mp c_1
      refine J_iconst cx (v := nI 0) dX6_countJudged_9 (by decide) ?_
      exact J_iret cx rfl (u := ()) (by rw [ctK_n c_1]) (by rw [ctK_n c_1]) (Nat.le_of_ble_eq_true rfl) (Nat.le_of_ble_eq_true rfl) dX6_countJudged_10
