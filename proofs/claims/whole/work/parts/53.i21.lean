def rfP (J : Int64 → Int64 → Int64) (q : PT) : Nat → Int64 → Int64
  | 0, r => r
  | k + 1, r => rfP J q k (if q.2.1 k then J (q.1 k) r else J r (q.1 k))
theorem rfP_t {J : Int64 → Int64 → Int64} {q : PT} {n : Nat} {r : Int64} (h : 1 ≤ n) (hb : q.2.1 (n - 1) = true) : rfP J q (n - 1) (J (q.1 (n - 1)) r) = rfP J q n r := by
  obtain ⟨k, rfl⟩ : ∃ k, n = k + 1 := ⟨n - 1, by omega⟩
  show _ = rfP J q k (if q.2.1 k then J (q.1 k) r else J r (q.1 k))
  rw [if_pos (show q.2.1 k = true from hb)]; rfl
theorem rfP_f {J : Int64 → Int64 → Int64} {q : PT} {n : Nat} {r : Int64} (h : 1 ≤ n) (hb : q.2.1 (n - 1) = false) : rfP J q (n - 1) (J r (q.1 (n - 1))) = rfP J q n r := by
  obtain ⟨k, rfl⟩ : ∃ k, n = k + 1 := ⟨n - 1, by omega⟩
  show _ = rfP J q k (if q.2.1 k then J (q.1 k) r else J r (q.1 k))
  rw [if_neg (by rw [show q.2.1 k = false from hb]; decide)]; rfl
theorem rfP_0 {J : Int64 → Int64 → Int64} {q : PT} {r : Int64} : rfP J q 0 r = r := rfl
set_option maxHeartbeats 4000000 in
set_option maxRecDepth 100000 in
theorem tX6_hashAt (l : Launch) (D : va_G) (g : Nat → ClassId) (A : Nat → Prop) (ad : Nat → Nat → Nat) (κ : CS) (X : XT) (cs : Nat → CT) (lf : Nat → Int64) (pr : PT)  (xi : Int32) (htr : l.stackTraces = false) (hp8 : pr.2.2 ≤ 8) : vx_Met l yX6_hashAt (wsA yX6_hashAt cX6_hashAt 2 (some .long)) ({ frames := 6, cells := 1, slots := 6, locals := 90 } : Room) (va_Pc [.ref (ad 0 8), .int xi] (PRE D g A (iW ad g κ X cs lf pr))) (va_Ql (fun (r : Int64) (_ : Unit) => inR pr.2.2 xi = true ∧ r = pr.1 (pr.2.2 - 1 - xj xi)) (fun _ => PO D A (iW ad g κ X cs lf pr)) A) (XQ (fun E => inR pr.2.2 xi = false ∧ E = "java/lang/IndexOutOfBoundsException") D A (iW ad g κ X cs lf pr)) 1 6 A := by
  refine metX (by decide) (Nat.le_of_ble_eq_true rfl) ?_
  intro p e s m args below meth c _ hex cx
  refine J_aload_n cx dX6_hashAt_0 rfl 0 rfl ?_
  refine J_iload_n cx dX6_hashAt_1 rfl 1 rfl ?_
  refine J_callVi cx kX6_357 (As := [.int xi]) (tX5_hasIndex l D g A ad κ X cs lf pr  xi hp8) ⟨rfl, rfl, by decide, by decide⟩ ⟨by decide, by decide⟩ rfl 8 rfl rfl rfl (Nat.le_of_ble_eq_true rfl) dX6_hashAt_2 ?_
  intro _ _ hr; cases hr
  refine J_ifz_ne cx (tgt := 19) dX6_hashAt_5 (by decide) (fun c_1 => ?_) (fun c_1 => ?_)
  · obtain ⟨j, hj, hxj⟩ := inR_spec c_1 (by omega)
    subst hxj
    have hjc : (nI j).toNatClampNeg = j := nI_clamp (by omega)
    refine J_aload_n cx dX6_hashAt_19 rfl 0 rfl ?_
    refine J_iload_n cx dX6_hashAt_20 rfl 1 rfl ?_
    refine J_callVl cx kX6_362 (As := [.int (nI j)]) (tX5_hash l D g A ad κ X cs lf pr  j hp8 hj) ⟨rfl, rfl, by decide, by decide⟩ ⟨by decide, by decide⟩ rfl 8 rfl rfl rfl (Nat.le_of_ble_eq_true rfl) dX6_hashAt_21 ?_
    intro _ _ hr; cases hr
    refine J_x ?_
    exact J_lret cx rfl (u := ()) ⟨by assumption, by rw [show xj (nI j) = j from hjc]⟩ rfl (Nat.le_of_ble_eq_true rfl) (Nat.le_of_ble_eq_true rfl) dX6_hashAt_24
  · exact J_throw cx hex htr rfl th_197 (List.mem_of_getElem? (i := 18) rfl) ⟨by assumption, rfl⟩ dX6_hashAt_8 dX6_hashAt_11 (Or.inr ⟨dX6_hashAt_12, dX6_hashAt_15, dX6_hashAt_18⟩) ⟨by decide, by decide, by decide, by decide⟩ ⟨by decide, by decide⟩
set_option maxHeartbeats 4000000 in
set_option maxRecDepth 100000 in
theorem tX5_rootFrom (l : Launch) (D : va_G) (g : Nat → ClassId) (A : Nat → Prop) (ad : Nat → Nat → Nat) (κ : CS) (X : XT) (cs : Nat → CT) (lf : Nat → Int64) (pr : PT)  (h : Int64) (hp8 : pr.2.2 ≤ 8) : CtL l D g A yX5_rootFrom cX5_rootFrom 6 .long ({ frames := 1, cells := 0, slots := 0, locals := 23 } : Room) [.ref (ad 0 8), .long h] (iW ad g κ X cs lf pr) (rfP jn pr pr.2.2 h) (iW ad g κ X cs lf pr) := by
  refine metJ (by decide) (Nat.le_of_ble_eq_true rfl) ?_
  intro p e s m args below meth c _ _ cx
  refine J_lload_n cx dX5_rootFrom_0 rfl 1 rfl ?_
  refine J_lstore_n cx (L' := [(3, .long h), (0, .ref (ad 0 8)), (1, .long h)]) dX5_rootFrom_1 rfl (by decide) rfl ?_
  refine J_aload_n cx dX5_rootFrom_2 rfl 1 rfl ?_
  refine J_get cx (v := .int (nI pr.2.2)) fX5_17 8 rfl rfl dX5_rootFrom_3 ?_
  refine J_iconst cx (v := nI 1) dX5_rootFrom_6 (by decide) ?_
  refine J_isub cx dX5_rootFrom_7 ?_
  refine J_istore cx (L' := [(5, .int ((nI pr.2.2) - (nI 1))), (3, .long h), (0, .ref (ad 0 8)), (1, .long h)]) dX5_rootFrom_8 (by decide) rfl ?_
  have LP : ∀ (fu : Nat) (z9 : Nat) (r : Int64), (z9 ≤ 8) → (rfP jn pr z9 r = rfP jn pr pr.2.2 h) → z9 < fu → J p l e ({ frames := 1, cells := 0, slots := 0, locals := 23 } : Room) s m args below meth c D A 6 (MQ below (va_Ql (fun (r : Int64) (_ : Unit) => r = (rfP jn pr pr.2.2 h)) (fun _ => PO D A (iW ad g κ X cs lf pr)) A) args s 0 0 A) 0 0 (iW ad g κ X cs lf pr) [(5, .int (nI z9 - nI 1)), (3, .long r), (0, .ref (ad 0 8)), (1, .long h)] 10 [] := by
    intro fu; induction fu with
    | zero => intro z9 r hc hb hfu; exact absurd hfu (Nat.not_lt_zero _)
    | succ fu ih =>
      intro z9 r hc hb hfu
      refine J_iload cx dX5_rootFrom_10 0 rfl ?_
      refine J_if_lt cx (tgt := 77) dX5_rootFrom_12 (by decide) (fun c_1 => ?_) (fun c_1 => ?_)
      · have c_1d := decide_eq_true c_1
        have hc0 : z9 = 0 := by rcases Nat.eq_zero_or_pos z9 with q | q; exact q; exact absurd c_1 (by rw [pk_sub q]; exact nI_pos (by omega))
        refine J_lload_n cx dX5_rootFrom_77 rfl 1 rfl ?_
        exact J_lret cx rfl (u := ()) (by rw [← hb, hc0, rfP_0]) rfl (Nat.le_of_ble_eq_true rfl) (Nat.le_of_ble_eq_true rfl) dX5_rootFrom_78
      · have c_1d := decide_eq_false c_1
        have hc1 : 1 ≤ z9 := by rcases Nat.eq_zero_or_pos z9 with q | q; exact absurd (show nI z9 - nI 1 < 0 by rw [q]; decide) c_1; exact q
        refine J_Le (L' := [(5, .int (nI (z9 - 1))), (3, .long r), (0, .ref (ad 0 8)), (1, .long h)]) (by rw [pk_sub hc1]) ?_
        refine J_iload cx dX5_rootFrom_15 0 rfl ?_
        refine J_aload_n cx dX5_rootFrom_17 rfl 2 rfl ?_
        refine J_get cx (v := .ref (ad 0 9)) fX5_9 8 rfl rfl dX5_rootFrom_18 ?_
        refine J_alen cx (v := nI 8) 9 rfl (t0 := 1) rfl rfl dX5_rootFrom_21 ?_
        refine J_icmp_ge cx (tgt := 77) dX5_rootFrom_22 (by decide) (fun c_2 => ?_) (fun c_2 => ?_)
        · have c_2 := (nat_ic_ge (by omega) (by omega)).mp c_2
          have c_2d := decide_eq_true c_2
          exfalso; omega
        · have c_2 := (nat_ic_ge_f (by omega) (by omega)).mp c_2
          have c_2d := decide_eq_false (Nat.not_le.mpr c_2)
          refine J_iload cx dX5_rootFrom_25 0 rfl ?_
          refine J_aload_n cx dX5_rootFrom_27 rfl 2 rfl ?_
          refine J_get cx (v := .ref (ad 0 10)) fX5_13 8 rfl rfl dX5_rootFrom_28 ?_
          refine J_alen cx (v := nI 8) 10 rfl (t0 := 2) rfl rfl dX5_rootFrom_31 ?_
          refine J_icmp_ge cx (tgt := 77) dX5_rootFrom_32 (by decide) (fun c_3 => ?_) (fun c_3 => ?_)
          · have c_3 := (nat_ic_ge (by omega) (by omega)).mp c_3
            have c_3d := decide_eq_true c_3
            exfalso; omega
          · have c_3 := (nat_ic_ge_f (by omega) (by omega)).mp c_3
            have c_3d := decide_eq_false (Nat.not_le.mpr c_3)
            refine J_aload_n cx dX5_rootFrom_35 rfl 2 rfl ?_
            refine J_get cx (v := .ref (ad 0 10)) fX5_13 8 rfl rfl dX5_rootFrom_36 ?_
            refine J_iload cx dX5_rootFrom_39 0 rfl ?_
            refine J_zald cx (j := (z9 - 1)) (f := fun i => zb (pr.2.1 i)) 10 rfl rfl (by omega) (by decide) dX5_rootFrom_41 ?_
            refine J_ifz_eq cx (tgt := 59) dX5_rootFrom_42 (by decide) (fun c_4 => ?_) (fun c_4 => ?_)
            · refine J_lload_n cx dX5_rootFrom_59 rfl 1 rfl ?_
              refine J_aload_n cx dX5_rootFrom_60 rfl 2 rfl ?_
              refine J_get cx (v := .ref (ad 0 9)) fX5_9 8 rfl rfl dX5_rootFrom_61 ?_
              refine J_iload cx dX5_rootFrom_64 0 rfl ?_
              refine J_lald cx (j := (z9 - 1)) (f := pr.1) 9 rfl rfl (by omega) (by decide) dX5_rootFrom_66 ?_
              refine J_callSl cx kX5_25 (As := [.long r, .long (pr.1 (z9 - 1))]) (tX4_joined l D g A ad κ X cs lf pr  r (pr.1 (z9 - 1)) ) ⟨rfl, rfl, by decide, by decide⟩ ⟨by decide, by decide⟩ rfl rfl (Nat.le_of_ble_eq_true rfl) dX5_rootFrom_67 ?_
              intro _ _ hr; cases hr
              refine J_lstore_n cx (L' := [(3, .long (jn r (pr.1 (z9 - 1)))), (5, .int (nI (z9 - 1))), (0, .ref (ad 0 8)), (1, .long h)]) dX5_rootFrom_70 rfl (by decide) rfl ?_
              refine J_iinc cx (v := ((nI (z9 - 1)) + (-1))) (L' := [(5, .int ((nI (z9 - 1)) + (-1))), (3, .long (jn r (pr.1 (z9 - 1)))), (0, .ref (ad 0 8)), (1, .long h)]) dX5_rootFrom_71 1 rfl (congrArg ((nI (z9 - 1)) + ·) (show Int32.ofInt (-1) = (-1 : Int32) from by decide)) (by decide) rfl ?_
              refine J_Le (L' := [(5, .int (nI (z9 - 1) - nI 1)), (3, .long (jn r (pr.1 (z9 - 1)))), (0, .ref (ad 0 8)), (1, .long h)]) (by rw [nI_m1']) ?_
              refine J_goto cx (tgt := 10) dX5_rootFrom_74 (by decide) ?_
              refine J_L [0, 1, 2, 3] rfl ?_
              exact ih (z9 - 1) _ (by omega) ((rfP_f hc1 c_4).trans hb) (by omega)
            · refine J_aload_n cx dX5_rootFrom_45 rfl 2 rfl ?_
              refine J_get cx (v := .ref (ad 0 9)) fX5_9 8 rfl rfl dX5_rootFrom_46 ?_
              refine J_iload cx dX5_rootFrom_49 0 rfl ?_
              refine J_lald cx (j := (z9 - 1)) (f := pr.1) 9 rfl rfl (by omega) (by decide) dX5_rootFrom_51 ?_
              refine J_lload_n cx dX5_rootFrom_52 rfl 1 rfl ?_
              refine J_callSl cx kX5_25 (As := [.long (pr.1 (z9 - 1)), .long r]) (tX4_joined l D g A ad κ X cs lf pr  (pr.1 (z9 - 1)) r ) ⟨rfl, rfl, by decide, by decide⟩ ⟨by decide, by decide⟩ rfl rfl (Nat.le_of_ble_eq_true rfl) dX5_rootFrom_53 ?_
              intro _ _ hr; cases hr
              refine J_goto cx (tgt := 70) dX5_rootFrom_56 (by decide) ?_
              refine J_lstore_n cx (L' := [(3, .long (jn (pr.1 (z9 - 1)) r)), (5, .int (nI (z9 - 1))), (0, .ref (ad 0 8)), (1, .long h)]) dX5_rootFrom_70 rfl (by decide) rfl ?_
              refine J_iinc cx (v := ((nI (z9 - 1)) + (-1))) (L' := [(5, .int ((nI (z9 - 1)) + (-1))), (3, .long (jn (pr.1 (z9 - 1)) r)), (0, .ref (ad 0 8)), (1, .long h)]) dX5_rootFrom_71 1 rfl (congrArg ((nI (z9 - 1)) + ·) (show Int32.ofInt (-1) = (-1 : Int32) from by decide)) (by decide) rfl ?_
              refine J_Le (L' := [(5, .int (nI (z9 - 1) - nI 1)), (3, .long (jn (pr.1 (z9 - 1)) r)), (0, .ref (ad 0 8)), (1, .long h)]) (by rw [nI_m1']) ?_
              refine J_goto cx (tgt := 10) dX5_rootFrom_74 (by decide) ?_
              refine J_L [0, 1, 2, 3] rfl ?_
              exact ih (z9 - 1) _ (by omega) ((rfP_t hc1 c_4).trans hb) (by omega)
  refine J_L [0, 1, 2, 3] rfl ?_
  exact LP _ pr.2.2 _ (by omega) rfl (Nat.lt_succ_self _)
set_option maxHeartbeats 4000000 in
set_option maxRecDepth 100000 in
theorem tX6_proofSize (l : Launch) (D : va_G) (g : Nat → ClassId) (A : Nat → Prop) (ad : Nat → Nat → Nat) (κ : CS) (X : XT) (cs : Nat → CT) (lf : Nat → Int64) (pr : PT)  (xe : Int32) (xs : Int32) (htr : l.stackTraces = false) (hEn : ∀ i, i < κ.2.2.1 0 → X.2.2.2.2.2.2.2.2 i = ent κ i) (hn : κ.2.2.1 0 ≤ 40) : vx_Met l yX6_proofSize (wsA yX6_proofSize cX6_proofSize 3 (some .int)) ({ frames := 13, cells := 2, slots := 12, locals := 315 } : Room) (va_Pc [.ref (ad 0 0), .int xe, .int xs] (PRE D g A (iW ad g κ X cs lf pr))) (va_Qi (fun (r : Int32) (_ : Unit) => prC κ xe xs = 0 ∧ r = nI (dsP κ xe xs pr).2.2) (fun _ => PO D A (iW ad g κ X cs lf (dsP κ xe xs pr))) A) (XQ (fun E => thrE ["java/lang/IllegalArgumentException", "java/lang/IndexOutOfBoundsException"] (prC κ xe xs) E) D A (iW ad g κ X cs lf (dsP κ xe xs pr))) 2 12 A := by
  refine metX (by decide) (Nat.le_of_ble_eq_true rfl) ?_
  intro p e s m args below meth c _ hex cx
  refine J_aload_n cx dX6_proofSize_0 rfl 0 rfl ?_
  refine J_iload_n cx dX6_proofSize_1 rfl 1 rfl ?_
  refine J_iload_n cx dX6_proofSize_2 rfl 2 rfl ?_
  refine J_xcallVq cx hex kX6_242 (As := [.int xe, .int xs]) (tX6_prove l D g A ad κ X cs lf pr  xe xs htr hEn hn) (fun _ h => h) ⟨by decide, by decide⟩ ⟨rfl, rfl, (by first | decide | (simp only [rmQ]; omega)), (by first | decide | (simp only [rmQ]; omega))⟩ ⟨(by first | decide | (simp only [rmQ]; omega)), (by first | decide | (simp only [rmQ]; omega))⟩ rfl 0 rfl rfl rfl (Nat.le_of_ble_eq_true rfl) dX6_proofSize_3 ?_
  intro _ _ hr; obtain ⟨hc0p, hr⟩ := hr; subst hr
  refine J_top (v' := .ref (ad 0 8)) rfl ?_
  refine J_get cx (v := .int (nI ((dsP κ xe xs pr).2.2))) fX6_246 8 rfl rfl dX6_proofSize_6 ?_
  refine J_x ?_
  exact J_iret cx rfl (u := ()) ⟨by assumption, rfl⟩ rfl (Nat.le_of_ble_eq_true rfl) (Nat.le_of_ble_eq_true rfl) dX6_proofSize_9
set_option maxHeartbeats 4000000 in
set_option maxRecDepth 100000 in
theorem tX6_growthSize (l : Launch) (D : va_G) (g : Nat → ClassId) (A : Nat → Prop) (ad : Nat → Nat → Nat) (κ : CS) (X : XT) (cs : Nat → CT) (lf : Nat → Int64) (pr : PT)  (xe : Int32) (xs : Int32) (htr : l.stackTraces = false) (hEn : ∀ i, i < κ.2.2.1 0 → X.2.2.2.2.2.2.2.2 i = ent κ i) (hn : κ.2.2.1 0 ≤ 40) : vx_Met l yX6_growthSize (wsA yX6_growthSize cX6_growthSize 3 (some .int)) ({ frames := 13, cells := 2, slots := 12, locals := 315 } : Room) (va_Pc [.ref (ad 0 0), .int xe, .int xs] (PRE D g A (iW ad g κ X cs lf pr))) (va_Qi (fun (r : Int32) (_ : Unit) => grC κ xe xs = 0 ∧ r = nI (dsG κ xe xs pr).2.2) (fun _ => PO D A (iW ad g κ X cs lf (dsG κ xe xs pr))) A) (XQ (fun E => thrE ["java/lang/IllegalArgumentException", "java/lang/IndexOutOfBoundsException"] (grC κ xe xs) E) D A (iW ad g κ X cs lf (dsG κ xe xs pr))) 2 12 A := by
  refine metX (by decide) (Nat.le_of_ble_eq_true rfl) ?_
  intro p e s m args below meth c _ hex cx
  refine J_aload_n cx dX6_growthSize_0 rfl 0 rfl ?_
  refine J_iload_n cx dX6_growthSize_1 rfl 1 rfl ?_
  refine J_iload_n cx dX6_growthSize_2 rfl 2 rfl ?_
  refine J_xcallVq cx hex kX6_260 (As := [.int xe, .int xs]) (tX6_proveGrowth l D g A ad κ X cs lf pr  xe xs htr hEn hn) (fun _ h => h) ⟨by decide, by decide⟩ ⟨rfl, rfl, (by first | decide | (simp only [rmQ]; omega)), (by first | decide | (simp only [rmQ]; omega))⟩ ⟨(by first | decide | (simp only [rmQ]; omega)), (by first | decide | (simp only [rmQ]; omega))⟩ rfl 0 rfl rfl rfl (Nat.le_of_ble_eq_true rfl) dX6_growthSize_3 ?_
  intro _ _ hr; obtain ⟨hc0p, hr⟩ := hr; subst hr
  refine J_top (v' := .ref (ad 0 8)) rfl ?_
  refine J_get cx (v := .int (nI ((dsG κ xe xs pr).2.2))) fX6_246 8 rfl rfl dX6_growthSize_6 ?_
  refine J_x ?_
  exact J_iret cx rfl (u := ()) ⟨by assumption, rfl⟩ rfl (Nat.le_of_ble_eq_true rfl) (Nat.le_of_ble_eq_true rfl) dX6_growthSize_9
theorem dsP_le {κ : CS} {xe xs : Int32} {pr : PT} (h : prC κ xe xs = 0) : (dsP κ xe xs pr).2.2 ≤ 8 := by
  unfold dsP; rw [decide_eq_true h]; exact Nat.le_trans (dsK_le 6 0 (xj xs) (pr.1, pr.2.1, 0)) (show 0 + 6 + 1 ≤ 8 by omega)
theorem dsG_le {κ : CS} {xe xs : Int32} {pr : PT} (h : grC κ xe xs = 0) : (dsG κ xe xs pr).2.2 ≤ 8 := by
  unfold dsG; rw [decide_eq_true h]; exact Nat.le_trans (dsK_le 6 0 (xj xs) (pr.1, pr.2.1, 0)) (show 0 + 6 + 1 ≤ 8 by omega)
set_option maxHeartbeats 4000000 in
set_option maxRecDepth 100000 in
theorem tX6_proofAt (l : Launch) (D : va_G) (g : Nat → ClassId) (A : Nat → Prop) (ad : Nat → Nat → Nat) (κ : CS) (X : XT) (cs : Nat → CT) (lf : Nat → Int64) (pr : PT)  (xe : Int32) (xs : Int32) (xi : Int32) (htr : l.stackTraces = false) (hEn : ∀ i, i < κ.2.2.1 0 → X.2.2.2.2.2.2.2.2 i = ent κ i) (hn : κ.2.2.1 0 ≤ 40) : vx_Met l yX6_proofAt (wsA yX6_proofAt cX6_proofAt 4 (some .long)) ({ frames := 13, cells := 3, slots := 18, locals := 315 } : Room) (va_Pc [.ref (ad 0 0), .int xe, .int xs, .int xi] (PRE D g A (iW ad g κ X cs lf pr))) (va_Ql (fun (r : Int64) (_ : Unit) => prC κ xe xs = 0 ∧ inR (dsP κ xe xs pr).2.2 xi = true ∧ r = (dsP κ xe xs pr).1 ((dsP κ xe xs pr).2.2 - 1 - xj xi)) (fun _ => PO D A (iW ad g κ X cs lf (dsP κ xe xs pr))) A) (XQ (fun E => thrE ["java/lang/IllegalArgumentException", "java/lang/IndexOutOfBoundsException"] (if decide (prC κ xe xs = 0) then (if inR (dsP κ xe xs pr).2.2 xi then 0 else 2) else prC κ xe xs) E) D A (iW ad g κ X cs lf (dsP κ xe xs pr))) 3 18 A := by
  refine metX (by decide) (Nat.le_of_ble_eq_true rfl) ?_
  intro p e s m args below meth c _ hex cx
  refine J_aload_n cx dX6_proofAt_0 rfl 0 rfl ?_
  refine J_iload_n cx dX6_proofAt_1 rfl 1 rfl ?_
  refine J_iload_n cx dX6_proofAt_2 rfl 2 rfl ?_
  refine J_xcallVq cx hex kX6_242 (As := [.int xe, .int xs]) (tX6_prove l D g A ad κ X cs lf pr  xe xs htr hEn hn) (fun E h => by unfold thrE at h ⊢; rw [decide_eq_false h.1]; exact h) ⟨by decide, by decide⟩ ⟨rfl, rfl, (by first | decide | (simp only [rmQ]; omega)), (by first | decide | (simp only [rmQ]; omega))⟩ ⟨(by first | decide | (simp only [rmQ]; omega)), (by first | decide | (simp only [rmQ]; omega))⟩ rfl 0 rfl rfl rfl (Nat.le_of_ble_eq_true rfl) dX6_proofAt_3 ?_
  intro _ _ hr; obtain ⟨hc0p, hr⟩ := hr; subst hr
  refine J_top (v' := .ref (ad 0 8)) rfl ?_
  refine J_iload_n cx dX6_proofAt_6 rfl 3 rfl ?_
  refine J_xcallSl cx hex kX6_249 (As := [.ref (ad 0 8), .int xi]) (tX6_hashAt l D g A ad κ X cs lf (dsP κ xe xs pr)  xi htr (dsP_le hc0p)) (fun E h => by obtain ⟨h1, h2⟩ := h; subst h2; unfold thrE; rw [decide_eq_true hc0p, h1]; exact ⟨show 2 ≠ 0 by decide, rfl⟩) ⟨by decide, by decide⟩ ⟨rfl, rfl, (by first | decide | (simp only [rmQ]; omega)), (by first | decide | (simp only [rmQ]; omega))⟩ ⟨(by first | decide | (simp only [rmQ]; omega)), (by first | decide | (simp only [rmQ]; omega))⟩ rfl rfl (Nat.le_of_ble_eq_true rfl) dX6_proofAt_7 ?_
  intro _ _ hr
  obtain ⟨hix, hr⟩ := hr
  subst hr
  refine J_x ?_
  exact J_lret cx rfl (u := ()) ⟨by assumption, by assumption, rfl⟩ rfl (Nat.le_of_ble_eq_true rfl) (Nat.le_of_ble_eq_true rfl) dX6_proofAt_10
set_option maxHeartbeats 4000000 in
set_option maxRecDepth 100000 in
theorem tX6_growthAt (l : Launch) (D : va_G) (g : Nat → ClassId) (A : Nat → Prop) (ad : Nat → Nat → Nat) (κ : CS) (X : XT) (cs : Nat → CT) (lf : Nat → Int64) (pr : PT)  (xe : Int32) (xs : Int32) (xi : Int32) (htr : l.stackTraces = false) (hEn : ∀ i, i < κ.2.2.1 0 → X.2.2.2.2.2.2.2.2 i = ent κ i) (hn : κ.2.2.1 0 ≤ 40) : vx_Met l yX6_growthAt (wsA yX6_growthAt cX6_growthAt 4 (some .long)) ({ frames := 13, cells := 3, slots := 18, locals := 315 } : Room) (va_Pc [.ref (ad 0 0), .int xe, .int xs, .int xi] (PRE D g A (iW ad g κ X cs lf pr))) (va_Ql (fun (r : Int64) (_ : Unit) => grC κ xe xs = 0 ∧ inR (dsG κ xe xs pr).2.2 xi = true ∧ r = (dsG κ xe xs pr).1 ((dsG κ xe xs pr).2.2 - 1 - xj xi)) (fun _ => PO D A (iW ad g κ X cs lf (dsG κ xe xs pr))) A) (XQ (fun E => thrE ["java/lang/IllegalArgumentException", "java/lang/IndexOutOfBoundsException"] (if decide (grC κ xe xs = 0) then (if inR (dsG κ xe xs pr).2.2 xi then 0 else 2) else grC κ xe xs) E) D A (iW ad g κ X cs lf (dsG κ xe xs pr))) 3 18 A := by
  refine metX (by decide) (Nat.le_of_ble_eq_true rfl) ?_
  intro p e s m args below meth c _ hex cx
  refine J_aload_n cx dX6_growthAt_0 rfl 0 rfl ?_
  refine J_iload_n cx dX6_growthAt_1 rfl 1 rfl ?_
  refine J_iload_n cx dX6_growthAt_2 rfl 2 rfl ?_
  refine J_xcallVq cx hex kX6_260 (As := [.int xe, .int xs]) (tX6_proveGrowth l D g A ad κ X cs lf pr  xe xs htr hEn hn) (fun E h => by unfold thrE at h ⊢; rw [decide_eq_false h.1]; exact h) ⟨by decide, by decide⟩ ⟨rfl, rfl, (by first | decide | (simp only [rmQ]; omega)), (by first | decide | (simp only [rmQ]; omega))⟩ ⟨(by first | decide | (simp only [rmQ]; omega)), (by first | decide | (simp only [rmQ]; omega))⟩ rfl 0 rfl rfl rfl (Nat.le_of_ble_eq_true rfl) dX6_growthAt_3 ?_
  intro _ _ hr; obtain ⟨hc0p, hr⟩ := hr; subst hr
  refine J_top (v' := .ref (ad 0 8)) rfl ?_
  refine J_iload_n cx dX6_growthAt_6 rfl 3 rfl ?_
  refine J_xcallSl cx hex kX6_249 (As := [.ref (ad 0 8), .int xi]) (tX6_hashAt l D g A ad κ X cs lf (dsG κ xe xs pr)  xi htr (dsG_le hc0p)) (fun E h => by obtain ⟨h1, h2⟩ := h; subst h2; unfold thrE; rw [decide_eq_true hc0p, h1]; exact ⟨show 2 ≠ 0 by decide, rfl⟩) ⟨by decide, by decide⟩ ⟨rfl, rfl, (by first | decide | (simp only [rmQ]; omega)), (by first | decide | (simp only [rmQ]; omega))⟩ ⟨(by first | decide | (simp only [rmQ]; omega)), (by first | decide | (simp only [rmQ]; omega))⟩ rfl rfl (Nat.le_of_ble_eq_true rfl) dX6_growthAt_7 ?_
  intro _ _ hr
  obtain ⟨hix, hr⟩ := hr
  subst hr
  refine J_x ?_
  exact J_lret cx rfl (u := ()) ⟨by assumption, by assumption, rfl⟩ rfl (Nat.le_of_ble_eq_true rfl) (Nat.le_of_ble_eq_true rfl) dX6_growthAt_10
