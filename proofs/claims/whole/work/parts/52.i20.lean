set_option maxHeartbeats 4000000 in
set_option maxRecDepth 100000 in
theorem tX4_proofOfEntry (l : Launch) (D : va_G) (g : Nat → ClassId) (A : Nat → Prop) (ad : Nat → Nat → Nat) (κ : CS) (X : XT) (cs : Nat → CT) (lf : Nat → Int64) (pr : PT)  (en : Nat) (nn : Nat) (hEn : ∀ i, i < κ.2.2.1 0 → X.2.2.2.2.2.2.2.2 i = ent κ i) (hn : κ.2.2.1 0 ≤ 40) (h1 : 1 ≤ nn) (h2 : nn ≤ κ.2.2.1 0) (hen : en ≤ 40) : CtQ l D g A yX4_proofOfEntry cX4_proofOfEntry 3 (.object "Certhold$Proof") ({ frames := 11, cells := 0, slots := 0, locals := 271 } : Room) [.ref (ad 0 5), .int (nI en), .int (nI nn)] (iW ad g κ X cs lf pr) (some (ad 0 8)) (iW ad g κ X cs lf (dsK κ (en + 1) false 6 0 nn (pr.1, pr.2.1, 0))) := by
  refine metJ (by decide) (Nat.le_of_ble_eq_true rfl) ?_
  intro p e s m args below meth c _ _ cx
  refine J_aload_n cx dX4_proofOfEntry_0 rfl 0 rfl ?_
  refine J_get cx (v := .ref (ad 0 8)) fX4_21 5 rfl rfl dX4_proofOfEntry_1 ?_
  refine J_callVv cx kX4_89 (As := []) (tX5_clear l D g A ad κ X cs lf pr   ) ⟨rfl, rfl, (by first | decide | (simp only [rmQ]; omega)), (by first | decide | (simp only [rmQ]; omega))⟩ ⟨(by first | decide | (simp only [rmQ]; omega)), (by first | decide | (simp only [rmQ]; omega))⟩ rfl 8 rfl rfl rfl (Nat.le_of_ble_eq_true rfl) dX4_proofOfEntry_4 ?_
  intro _ _
  refine J_aload_n cx dX4_proofOfEntry_7 rfl 0 rfl ?_
  refine J_iload_n cx dX4_proofOfEntry_8 rfl 1 rfl ?_
  refine J_iconst cx (v := nI 1) dX4_proofOfEntry_9 (by decide) ?_
  refine J_iadd cx dX4_proofOfEntry_10 ?_
  refine J_top (v' := .int (nI (en + 1))) (congrArg Value.int (nI_add en 1)) ?_
  refine J_iload_n cx dX4_proofOfEntry_11 rfl 2 rfl ?_
  refine J_iconst cx (v := nI 0) dX4_proofOfEntry_12 (by decide) ?_
  refine J_callVv cx kX4_92 (As := [.int (nI (en + 1)), .int (nI nn), .int (nI 0)]) (tX4_descend l D g A ad κ X cs lf (pr.1, pr.2.1, 0)  (en + 1) nn false hEn hn (by omega) (by omega) (by omega) rfl) ⟨rfl, rfl, (by first | decide | (simp only [rmQ]; omega)), (by first | decide | (simp only [rmQ]; omega))⟩ ⟨(by first | decide | (simp only [rmQ]; omega)), (by first | decide | (simp only [rmQ]; omega))⟩ rfl 5 rfl rfl rfl (Nat.le_of_ble_eq_true rfl) dX4_proofOfEntry_13 ?_
  intro _ _
  refine J_aload_n cx dX4_proofOfEntry_16 rfl 0 rfl ?_
  refine J_get cx (v := .ref (ad 0 8)) fX4_21 5 rfl rfl dX4_proofOfEntry_17 ?_
  exact J_qret cx rfl (u := ()) (v := some (ad 0 8)) rfl rfl (Nat.le_of_ble_eq_true rfl) (Nat.le_of_ble_eq_true rfl) dX4_proofOfEntry_20
set_option maxHeartbeats 4000000 in
set_option maxRecDepth 100000 in
theorem tX4_proofOfGrowth (l : Launch) (D : va_G) (g : Nat → ClassId) (A : Nat → Prop) (ad : Nat → Nat → Nat) (κ : CS) (X : XT) (cs : Nat → CT) (lf : Nat → Int64) (pr : PT)  (sm : Nat) (nn : Nat) (hEn : ∀ i, i < κ.2.2.1 0 → X.2.2.2.2.2.2.2.2 i = ent κ i) (hn : κ.2.2.1 0 ≤ 40) (h1 : 1 ≤ nn) (h2 : nn ≤ κ.2.2.1 0) (hsm : sm ≤ 41) : CtQ l D g A yX4_proofOfGrowth cX4_proofOfGrowth 3 (.object "Certhold$Proof") ({ frames := 11, cells := 0, slots := 0, locals := 271 } : Room) [.ref (ad 0 5), .int (nI sm), .int (nI nn)] (iW ad g κ X cs lf pr) (some (ad 0 8)) (iW ad g κ X cs lf (dsK κ sm true 6 0 nn (pr.1, pr.2.1, 0))) := by
  refine metJ (by decide) (Nat.le_of_ble_eq_true rfl) ?_
  intro p e s m args below meth c _ _ cx
  refine J_aload_n cx dX4_proofOfGrowth_0 rfl 0 rfl ?_
  refine J_get cx (v := .ref (ad 0 8)) fX4_21 5 rfl rfl dX4_proofOfGrowth_1 ?_
  refine J_callVv cx kX4_89 (As := []) (tX5_clear l D g A ad κ X cs lf pr   ) ⟨rfl, rfl, (by first | decide | (simp only [rmQ]; omega)), (by first | decide | (simp only [rmQ]; omega))⟩ ⟨(by first | decide | (simp only [rmQ]; omega)), (by first | decide | (simp only [rmQ]; omega))⟩ rfl 8 rfl rfl rfl (Nat.le_of_ble_eq_true rfl) dX4_proofOfGrowth_4 ?_
  intro _ _
  refine J_aload_n cx dX4_proofOfGrowth_7 rfl 0 rfl ?_
  refine J_iload_n cx dX4_proofOfGrowth_8 rfl 1 rfl ?_
  refine J_iload_n cx dX4_proofOfGrowth_9 rfl 2 rfl ?_
  refine J_iconst cx (v := nI 1) dX4_proofOfGrowth_10 (by decide) ?_
  refine J_callVv cx kX4_92 (As := [.int (nI sm), .int (nI nn), .int (nI 1)]) (tX4_descend l D g A ad κ X cs lf (pr.1, pr.2.1, 0)  sm nn true hEn hn (by omega) (by omega) (by omega) rfl) ⟨rfl, rfl, (by first | decide | (simp only [rmQ]; omega)), (by first | decide | (simp only [rmQ]; omega))⟩ ⟨(by first | decide | (simp only [rmQ]; omega)), (by first | decide | (simp only [rmQ]; omega))⟩ rfl 5 rfl rfl rfl (Nat.le_of_ble_eq_true rfl) dX4_proofOfGrowth_11 ?_
  intro _ _
  refine J_aload_n cx dX4_proofOfGrowth_14 rfl 0 rfl ?_
  refine J_get cx (v := .ref (ad 0 8)) fX4_21 5 rfl rfl dX4_proofOfGrowth_15 ?_
  exact J_qret cx rfl (u := ()) (v := some (ad 0 8)) rfl rfl (Nat.le_of_ble_eq_true rfl) (Nat.le_of_ble_eq_true rfl) dX4_proofOfGrowth_18
set_option maxHeartbeats 4000000 in
set_option maxRecDepth 100000 in
theorem tX6_prove (l : Launch) (D : va_G) (g : Nat → ClassId) (A : Nat → Prop) (ad : Nat → Nat → Nat) (κ : CS) (X : XT) (cs : Nat → CT) (lf : Nat → Int64) (pr : PT)  (xe : Int32) (xs : Int32) (htr : l.stackTraces = false) (hEn : ∀ i, i < κ.2.2.1 0 → X.2.2.2.2.2.2.2.2 i = ent κ i) (hn : κ.2.2.1 0 ≤ 40) : vx_Met l yX6_prove (wsA yX6_prove cX6_prove 3 (some (.object "Certhold$Proof"))) ({ frames := 12, cells := 2, slots := 12, locals := 293 } : Room) (va_Pc [.ref (ad 0 0), .int xe, .int xs] (PRE D g A (iW ad g κ X cs lf pr))) (va_Qq (fun (r : Option Nat) (_ : Unit) => prC κ xe xs = 0 ∧ r = some (ad 0 8)) (fun _ => PO D A (iW ad g κ X cs lf (dsP κ xe xs pr))) A) (XQ (fun E => thrE ["java/lang/IllegalArgumentException", "java/lang/IndexOutOfBoundsException"] (prC κ xe xs) E) D A (iW ad g κ X cs lf (dsP κ xe xs pr))) 2 12 A := by
  rcases i32_cases xe with ⟨k0, hk0, rfl⟩ | hneg
  · refine metX (by decide) (Nat.le_of_ble_eq_true rfl) ?_
    intro p e s m args below meth c _ hex cx
    refine J_aload_n cx dX6_prove_0 rfl 0 rfl ?_
    refine J_iload_n cx dX6_prove_1 rfl 2 rfl ?_
    refine J_xcallVv cx hex kX6_231 (As := [.int xs]) (xmono (tX6_requireSize l D g A ad κ X cs lf pr  xs htr ) (fun E h => ⟨(by rw [prC_1 h.1, h.2]; exact ⟨show 1 ≠ 0 by decide, rfl⟩), (by rw [dsP_n (by rw [prC_1 h.1]; decide)])⟩)) (fun _ h => h) ⟨by decide, by decide⟩ ⟨rfl, rfl, (by first | decide | (simp only [rmQ]; omega)), (by first | decide | (simp only [rmQ]; omega))⟩ ⟨(by first | decide | (simp only [rmQ]; omega)), (by first | decide | (simp only [rmQ]; omega))⟩ rfl 0 rfl rfl rfl (Nat.le_of_ble_eq_true rfl) dX6_prove_2 ?_
    intro _ hr
    have hsz := hr
    obtain ⟨j, hj1, hj, hxj⟩ := sizB_ex hsz hn; subst hxj
    have hjc : (nI j).toNatClampNeg = j := nI_clamp (by omega)
    refine J_iload_n cx dX6_prove_5 rfl 1 rfl ?_
    refine J_if_lt cx (tgt := 14) dX6_prove_6 (by decide) (fun h => absurd h (nI_pos (by omega))) (fun _ => ?_)
    refine J_iload_n cx dX6_prove_9 rfl 1 rfl ?_
    refine J_iload_n cx dX6_prove_10 rfl 2 rfl ?_
    refine J_icmp_lt cx (tgt := 25) dX6_prove_11 (by decide) (fun c_2 => ?_) (fun c_2 => ?_)
    · have c_2 := (nat_ic_lt (by omega) (by omega)).mp c_2
      have c_2d := decide_eq_true c_2
      refine J_aload_n cx dX6_prove_25 rfl 0 rfl ?_
      refine J_get cx (v := .ref (ad 0 5)) fX6_25 0 rfl rfl dX6_prove_26 ?_
      refine J_iload_n cx dX6_prove_29 rfl 1 rfl ?_
      refine J_iload_n cx dX6_prove_30 rfl 2 rfl ?_
      have hC : prC κ (nI k0) (nI j) = 0 := prC_00 hsz (by omega) (by rw [inR_nI hk0]; exact decide_eq_true (by omega))
      have hkc : (nI k0).toNatClampNeg = k0 := nI_clamp (by omega)
      refine J_callVq cx kX6_349 (As := [.int (nI k0), .int (nI j)]) (tX4_proofOfEntry l D g A ad κ X cs lf pr  k0 j hEn hn (by omega) (by omega) (by omega)) ⟨rfl, rfl, (by first | decide | (simp only [rmQ]; omega)), (by first | decide | (simp only [rmQ]; omega))⟩ ⟨(by first | decide | (simp only [rmQ]; omega)), (by first | decide | (simp only [rmQ]; omega))⟩ rfl 5 rfl rfl rfl (Nat.le_of_ble_eq_true rfl) dX6_prove_31 ?_
      intro _ _ hr; cases hr
      refine J_x ?_
      exact J_qret cx rfl (u := ()) (v := (some (ad 0 8))) ⟨hC, rfl⟩ (by unfold dsP; rw [decide_eq_true hC, show xj (nI k0) = k0 from hkc, show xj (nI j) = j from hjc]; try rfl) (Nat.le_of_ble_eq_true rfl) (Nat.le_of_ble_eq_true rfl) dX6_prove_34
    · have c_2 := (nat_ic_lt_f (by omega) (by omega)).mp c_2
      have c_2d := decide_eq_false (Nat.not_lt.mpr c_2)
      have hC : prC κ (nI k0) (nI j) = 2 := prC_2 hsz (by omega) (by rw [inR_nI hk0]; exact decide_eq_false (by omega))
      refine J_ws (ws' := (iW ad g κ X cs lf (dsP κ (nI k0) (nI j) pr))) (by rw [dsP_n (by rw [hC]; decide)]) ?_
      exact J_throw cx hex htr rfl th_197 (List.mem_of_getElem? (i := 17) rfl) ⟨by rw [hC]; decide, by rw [hC]; rfl⟩ dX6_prove_14 dX6_prove_17 (Or.inr ⟨dX6_prove_18, dX6_prove_21, dX6_prove_24⟩) ⟨by decide, by decide, by decide, by decide⟩ ⟨by decide, by decide⟩
  · refine metX (by decide) (Nat.le_of_ble_eq_true rfl) ?_
    intro p e s m args below meth c _ hex cx
    refine J_aload_n cx dX6_prove_0 rfl 0 rfl ?_
    refine J_iload_n cx dX6_prove_1 rfl 2 rfl ?_
    refine J_xcallVv cx hex kX6_231 (As := [.int xs]) (xmono (tX6_requireSize l D g A ad κ X cs lf pr  xs htr ) (fun E h => ⟨(by rw [prC_1 h.1, h.2]; exact ⟨show 1 ≠ 0 by decide, rfl⟩), (by rw [dsP_n (by rw [prC_1 h.1]; decide)])⟩)) (fun _ h => h) ⟨by decide, by decide⟩ ⟨rfl, rfl, (by first | decide | (simp only [rmQ]; omega)), (by first | decide | (simp only [rmQ]; omega))⟩ ⟨(by first | decide | (simp only [rmQ]; omega)), (by first | decide | (simp only [rmQ]; omega))⟩ rfl 0 rfl rfl rfl (Nat.le_of_ble_eq_true rfl) dX6_prove_2 ?_
    intro _ hr
    have hsz := hr
    obtain ⟨j, hj1, hj, hxj⟩ := sizB_ex hsz hn; subst hxj
    have hjc : (nI j).toNatClampNeg = j := nI_clamp (by omega)
    refine J_iload_n cx dX6_prove_5 rfl 1 rfl ?_
    refine J_if_lt cx (tgt := 14) dX6_prove_6 (by decide) (fun c_1 => ?_) (fun c_1 => ?_)
    · have c_1d := decide_eq_true c_1
      have hC : prC κ xe (nI j) = 2 := prC_2 hsz (by omega) (inR_neg hneg)
      refine J_ws (ws' := (iW ad g κ X cs lf (dsP κ xe (nI j) pr))) (by rw [dsP_n (by rw [hC]; decide)]) ?_
      exact J_throw cx hex htr rfl th_197 (List.mem_of_getElem? (i := 17) rfl) ⟨by rw [hC]; decide, by rw [hC]; rfl⟩ dX6_prove_14 dX6_prove_17 (Or.inr ⟨dX6_prove_18, dX6_prove_21, dX6_prove_24⟩) ⟨by decide, by decide, by decide, by decide⟩ ⟨by decide, by decide⟩
    · have c_1d := decide_eq_false c_1
      exact absurd hneg c_1
set_option maxHeartbeats 4000000 in
set_option maxRecDepth 100000 in
theorem tX6_proveGrowth (l : Launch) (D : va_G) (g : Nat → ClassId) (A : Nat → Prop) (ad : Nat → Nat → Nat) (κ : CS) (X : XT) (cs : Nat → CT) (lf : Nat → Int64) (pr : PT)  (xe : Int32) (xs : Int32) (htr : l.stackTraces = false) (hEn : ∀ i, i < κ.2.2.1 0 → X.2.2.2.2.2.2.2.2 i = ent κ i) (hn : κ.2.2.1 0 ≤ 40) : vx_Met l yX6_proveGrowth (wsA yX6_proveGrowth cX6_proveGrowth 3 (some (.object "Certhold$Proof"))) ({ frames := 12, cells := 2, slots := 12, locals := 293 } : Room) (va_Pc [.ref (ad 0 0), .int xe, .int xs] (PRE D g A (iW ad g κ X cs lf pr))) (va_Qq (fun (r : Option Nat) (_ : Unit) => grC κ xe xs = 0 ∧ r = some (ad 0 8)) (fun _ => PO D A (iW ad g κ X cs lf (dsG κ xe xs pr))) A) (XQ (fun E => thrE ["java/lang/IllegalArgumentException", "java/lang/IndexOutOfBoundsException"] (grC κ xe xs) E) D A (iW ad g κ X cs lf (dsG κ xe xs pr))) 2 12 A := by
  rcases i32_cases xe with ⟨k0, hk0, rfl⟩ | hneg
  · refine metX (by decide) (Nat.le_of_ble_eq_true rfl) ?_
    intro p e s m args below meth c _ hex cx
    refine J_aload_n cx dX6_proveGrowth_0 rfl 0 rfl ?_
    refine J_iload_n cx dX6_proveGrowth_1 rfl 2 rfl ?_
    refine J_xcallVv cx hex kX6_231 (As := [.int xs]) (xmono (tX6_requireSize l D g A ad κ X cs lf pr  xs htr ) (fun E h => ⟨(by rw [grC_1 h.1, h.2]; exact ⟨show 1 ≠ 0 by decide, rfl⟩), (by rw [dsG_n (by rw [grC_1 h.1]; decide)])⟩)) (fun _ h => h) ⟨by decide, by decide⟩ ⟨rfl, rfl, (by first | decide | (simp only [rmQ]; omega)), (by first | decide | (simp only [rmQ]; omega))⟩ ⟨(by first | decide | (simp only [rmQ]; omega)), (by first | decide | (simp only [rmQ]; omega))⟩ rfl 0 rfl rfl rfl (Nat.le_of_ble_eq_true rfl) dX6_proveGrowth_2 ?_
    intro _ hr
    have hsz := hr
    obtain ⟨j, hj1, hj, hxj⟩ := sizB_ex hsz hn; subst hxj
    have hjc : (nI j).toNatClampNeg = j := nI_clamp (by omega)
    refine J_iload_n cx dX6_proveGrowth_5 rfl 1 rfl ?_
    refine J_iconst cx (v := nI 1) dX6_proveGrowth_6 (by decide) ?_
    refine J_icmp_lt cx (tgt := 15) dX6_proveGrowth_7 (by decide) (fun c_1 => ?_) (fun c_1 => ?_)
    · have c_1 := (nat_ic_lt (by omega) (by omega)).mp c_1
      have c_1d := decide_eq_true c_1
      have hC : grC κ (nI k0) (nI j) = 2 := grC_2 hsz (by rw [isInB_nI hk0 (by omega) (by omega)]; exact decide_eq_false (by omega))
      refine J_ws (ws' := (iW ad g κ X cs lf (dsG κ (nI k0) (nI j) pr))) (by rw [dsG_n (by rw [hC]; decide)]) ?_
      exact J_throw cx hex htr rfl th_197 (List.mem_of_getElem? (i := 19) rfl) ⟨by rw [hC]; decide, by rw [hC]; rfl⟩ dX6_proveGrowth_15 dX6_proveGrowth_18 (Or.inr ⟨dX6_proveGrowth_19, dX6_proveGrowth_22, dX6_proveGrowth_25⟩) ⟨by decide, by decide, by decide, by decide⟩ ⟨by decide, by decide⟩
    · have c_1 := (nat_ic_lt_f (by omega) (by omega)).mp c_1
      have c_1d := decide_eq_false (Nat.not_lt.mpr c_1)
      refine J_iload_n cx dX6_proveGrowth_10 rfl 1 rfl ?_
      refine J_iload_n cx dX6_proveGrowth_11 rfl 2 rfl ?_
      refine J_icmp_le cx (tgt := 26) dX6_proveGrowth_12 (by decide) (fun c_2 => ?_) (fun c_2 => ?_)
      · have c_2 := (nat_ic_le (by omega) (by omega)).mp c_2
        have c_2d := decide_eq_true c_2
        refine J_aload_n cx dX6_proveGrowth_26 rfl 0 rfl ?_
        refine J_get cx (v := .ref (ad 0 5)) fX6_25 0 rfl rfl dX6_proveGrowth_27 ?_
        refine J_iload_n cx dX6_proveGrowth_30 rfl 1 rfl ?_
        refine J_iload_n cx dX6_proveGrowth_31 rfl 2 rfl ?_
        have hC : grC κ (nI k0) (nI j) = 0 := grC_00 hsz (by rw [isInB_nI hk0 (by omega) (by omega)]; exact decide_eq_true (by omega))
        have hkc : (nI k0).toNatClampNeg = k0 := nI_clamp (by omega)
        refine J_callVq cx kX6_354 (As := [.int (nI k0), .int (nI j)]) (tX4_proofOfGrowth l D g A ad κ X cs lf pr  k0 j hEn hn (by omega) (by omega) (by omega)) ⟨rfl, rfl, (by first | decide | (simp only [rmQ]; omega)), (by first | decide | (simp only [rmQ]; omega))⟩ ⟨(by first | decide | (simp only [rmQ]; omega)), (by first | decide | (simp only [rmQ]; omega))⟩ rfl 5 rfl rfl rfl (Nat.le_of_ble_eq_true rfl) dX6_proveGrowth_32 ?_
        intro _ _ hr; cases hr
        refine J_x ?_
        exact J_qret cx rfl (u := ()) (v := (some (ad 0 8))) ⟨hC, rfl⟩ (by unfold dsG; rw [decide_eq_true hC, show xj (nI k0) = k0 from hkc, show xj (nI j) = j from hjc]; try rfl) (Nat.le_of_ble_eq_true rfl) (Nat.le_of_ble_eq_true rfl) dX6_proveGrowth_35
      · have c_2 := (nat_ic_le_f (by omega) (by omega)).mp c_2
        have c_2d := decide_eq_false (Nat.not_le.mpr c_2)
        have hC : grC κ (nI k0) (nI j) = 2 := grC_2 hsz (by rw [isInB_nI hk0 (by omega) (by omega)]; exact decide_eq_false (by omega))
        refine J_ws (ws' := (iW ad g κ X cs lf (dsG κ (nI k0) (nI j) pr))) (by rw [dsG_n (by rw [hC]; decide)]) ?_
        exact J_throw cx hex htr rfl th_197 (List.mem_of_getElem? (i := 19) rfl) ⟨by rw [hC]; decide, by rw [hC]; rfl⟩ dX6_proveGrowth_15 dX6_proveGrowth_18 (Or.inr ⟨dX6_proveGrowth_19, dX6_proveGrowth_22, dX6_proveGrowth_25⟩) ⟨by decide, by decide, by decide, by decide⟩ ⟨by decide, by decide⟩
  · refine metX (by decide) (Nat.le_of_ble_eq_true rfl) ?_
    intro p e s m args below meth c _ hex cx
    refine J_aload_n cx dX6_proveGrowth_0 rfl 0 rfl ?_
    refine J_iload_n cx dX6_proveGrowth_1 rfl 2 rfl ?_
    refine J_xcallVv cx hex kX6_231 (As := [.int xs]) (xmono (tX6_requireSize l D g A ad κ X cs lf pr  xs htr ) (fun E h => ⟨(by rw [grC_1 h.1, h.2]; exact ⟨show 1 ≠ 0 by decide, rfl⟩), (by rw [dsG_n (by rw [grC_1 h.1]; decide)])⟩)) (fun _ h => h) ⟨by decide, by decide⟩ ⟨rfl, rfl, (by first | decide | (simp only [rmQ]; omega)), (by first | decide | (simp only [rmQ]; omega))⟩ ⟨(by first | decide | (simp only [rmQ]; omega)), (by first | decide | (simp only [rmQ]; omega))⟩ rfl 0 rfl rfl rfl (Nat.le_of_ble_eq_true rfl) dX6_proveGrowth_2 ?_
    intro _ hr
    have hsz := hr
    obtain ⟨j, hj1, hj, hxj⟩ := sizB_ex hsz hn; subst hxj
    have hjc : (nI j).toNatClampNeg = j := nI_clamp (by omega)
    refine J_iload_n cx dX6_proveGrowth_5 rfl 1 rfl ?_
    refine J_iconst cx (v := nI 1) dX6_proveGrowth_6 (by decide) ?_
    refine J_icmp_lt cx (tgt := 15) dX6_proveGrowth_7 (by decide) (fun c_1 => ?_) (fun c_1 => ?_)
    · have c_1d := decide_eq_true c_1
      have hC : grC κ xe (nI j) = 2 := grC_2 hsz (isInB_neg hneg (by omega))
      refine J_ws (ws' := (iW ad g κ X cs lf (dsG κ xe (nI j) pr))) (by rw [dsG_n (by rw [hC]; decide)]) ?_
      exact J_throw cx hex htr rfl th_197 (List.mem_of_getElem? (i := 19) rfl) ⟨by rw [hC]; decide, by rw [hC]; rfl⟩ dX6_proveGrowth_15 dX6_proveGrowth_18 (Or.inr ⟨dX6_proveGrowth_19, dX6_proveGrowth_22, dX6_proveGrowth_25⟩) ⟨by decide, by decide, by decide, by decide⟩ ⟨by decide, by decide⟩
    · have c_1d := decide_eq_false c_1
      exact absurd (Int32.lt_of_lt_of_le hneg (by decide)) c_1
