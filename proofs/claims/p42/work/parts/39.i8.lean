/-- what the class answers of candidates, by its own rows -/
def ocC (κ : CS) (X : XT) (xc : Int32) : Nat × Int32 := if inR (κ.2.2.1 0) xc then (0, nI (cnt (hP (X.2.2.2.2.1 (X.2.1 (xj xc))) (xj xc)) 3)) else (1, nI 0)
def ocA (κ : CS) (X : XT) (xc rk : Int32) : Nat × Int32 := if inR (κ.2.2.1 0) xc then (match cdC X (xj xc) rk with | some k => (0, nI k) | none => (2, nI 0)) else (1, nI 0)
set_option maxHeartbeats 4000000 in
set_option maxRecDepth 100000 in
theorem tX6_nameOf (l : Launch) (D : va_G) (g : Nat → ClassId) (A : Nat → Prop) (ad : Nat → Nat → Nat) (κ : CS) (X : XT) (cs : Nat → CT) (lf : Nat → Int64) (pr : PT)  (xc : Int32) (htr : l.stackTraces = false) (hS : ShX κ X) (hT : TIE κ X) : vx_Met l yX6_nameOf (wsA yX6_nameOf cX6_nameOf 2 (some .int)) ({ frames := 7, cells := 1, slots := 6, locals := 112 } : Room) (va_Pc [.ref (ad 0 0), .int xc] (PRE D g A (iW ad g κ X cs lf pr))) (va_Qi (fun (r : Int32) (_ : Unit) => (opGet κ 0 xc).1 = 0 ∧ r = (opGet κ 0 xc).2) (fun _ => PO D A (iW ad g κ X cs lf pr)) A) (XQ (fun E => thrE [nsE] (opGet κ 0 xc).1 E) D A (iW ad g κ X cs lf pr)) 1 6 A := by
  have hn := hS.1
  refine metX (by decide) (Nat.le_of_ble_eq_true rfl) ?_
  intro p e s m args below meth c _ hex cx
  refine J_aload_n cx dX6_nameOf_0 rfl 0 rfl ?_
  refine J_iload_n cx dX6_nameOf_1 rfl 1 rfl ?_
  refine J_xcallVq cx hex kX6_73 (As := [.int xc]) (tX6_find l D g A ad κ X cs lf pr  xc htr hS) (fun E h => by obtain ⟨h1, h2⟩ := h; subst h2; exact ⟨by simp [opGet, xj, h1, true_and], by simp [opGet, xj, h1, true_and]⟩) ⟨by decide, by decide⟩ ⟨rfl, rfl, by decide, by decide⟩ ⟨by decide, by decide⟩ rfl 0 rfl rfl rfl (Nat.le_of_ble_eq_true rfl) dX6_nameOf_2 ?_
  intro _ j hr; obtain ⟨hj, hxj, hr⟩ := hr; subst hr; subst hxj
  refine J_top (v' := .ref (ad 1 j)) rfl ?_
  have hjR : inR (κ.2.2.1 0) (nI j) = true := by rw [inR_nI (by omega)]; exact decide_eq_true hj
  have hjc : (nI j).toNatClampNeg = j := nI_clamp (by omega)
  have hTj := hT j hj
  refine J_get cx (v := .ref (ad 2 (X.1 j))) fX6_81 (17 + j) (iG_c (by first | assumption | omega)) rfl dX6_nameOf_5 ?_
  refine J_get cx (v := .int (X.2.2.1 (X.1 j))) fX6_150 (17 + κ.2.2.1 0 + (X.1 j)) (iG_h (hS.sb (by first | assumption | omega))) rfl dX6_nameOf_8 ?_
  refine J_x ?_
  exact J_iret cx rfl (u := ()) ⟨by simp [opGet, xj, hjR, hjc], by simp [opGet, xj, zb, hjR, hjc, hTj.2.1]⟩ (by simp [opGet, xj, hjR, hjc]; try rfl) (Nat.le_of_ble_eq_true rfl) (Nat.le_of_ble_eq_true rfl) dX6_nameOf_11
set_option maxHeartbeats 4000000 in
set_option maxRecDepth 100000 in
theorem tX6_keyOf (l : Launch) (D : va_G) (g : Nat → ClassId) (A : Nat → Prop) (ad : Nat → Nat → Nat) (κ : CS) (X : XT) (cs : Nat → CT) (lf : Nat → Int64) (pr : PT)  (xc : Int32) (htr : l.stackTraces = false) (hS : ShX κ X) (hT : TIE κ X) : vx_Met l yX6_keyOf (wsA yX6_keyOf cX6_keyOf 2 (some .int)) ({ frames := 7, cells := 1, slots := 6, locals := 112 } : Room) (va_Pc [.ref (ad 0 0), .int xc] (PRE D g A (iW ad g κ X cs lf pr))) (va_Qi (fun (r : Int32) (_ : Unit) => (opGet κ 1 xc).1 = 0 ∧ r = (opGet κ 1 xc).2) (fun _ => PO D A (iW ad g κ X cs lf pr)) A) (XQ (fun E => thrE [nsE] (opGet κ 1 xc).1 E) D A (iW ad g κ X cs lf pr)) 1 6 A := by
  have hn := hS.1
  refine metX (by decide) (Nat.le_of_ble_eq_true rfl) ?_
  intro p e s m args below meth c _ hex cx
  refine J_aload_n cx dX6_keyOf_0 rfl 0 rfl ?_
  refine J_iload_n cx dX6_keyOf_1 rfl 1 rfl ?_
  refine J_xcallVq cx hex kX6_73 (As := [.int xc]) (tX6_find l D g A ad κ X cs lf pr  xc htr hS) (fun E h => by obtain ⟨h1, h2⟩ := h; subst h2; exact ⟨by simp [opGet, xj, h1, true_and], by simp [opGet, xj, h1, true_and]⟩) ⟨by decide, by decide⟩ ⟨rfl, rfl, by decide, by decide⟩ ⟨by decide, by decide⟩ rfl 0 rfl rfl rfl (Nat.le_of_ble_eq_true rfl) dX6_keyOf_2 ?_
  intro _ j hr; obtain ⟨hj, hxj, hr⟩ := hr; subst hr; subst hxj
  refine J_top (v' := .ref (ad 1 j)) rfl ?_
  have hjR : inR (κ.2.2.1 0) (nI j) = true := by rw [inR_nI (by omega)]; exact decide_eq_true hj
  have hjc : (nI j).toNatClampNeg = j := nI_clamp (by omega)
  have hTj := hT j hj
  refine J_get cx (v := .ref (ad 2 (X.1 j))) fX6_81 (17 + j) (iG_c (by first | assumption | omega)) rfl dX6_keyOf_5 ?_
  refine J_get cx (v := .int (nI ((X.1 j) + 1))) fX6_153 (17 + κ.2.2.1 0 + (X.1 j)) (iG_h (hS.sb (by first | assumption | omega))) rfl dX6_keyOf_8 ?_
  refine J_x ?_
  exact J_iret cx rfl (u := ()) ⟨by simp [opGet, xj, hjR, hjc], by simp [opGet, xj, zb, hjR, hjc, hTj.2.2.1]⟩ (by simp [opGet, xj, hjR, hjc]; try rfl) (Nat.le_of_ble_eq_true rfl) (Nat.le_of_ble_eq_true rfl) dX6_keyOf_11
set_option maxHeartbeats 4000000 in
set_option maxRecDepth 100000 in
theorem tX6_issuerKeyOf (l : Launch) (D : va_G) (g : Nat → ClassId) (A : Nat → Prop) (ad : Nat → Nat → Nat) (κ : CS) (X : XT) (cs : Nat → CT) (lf : Nat → Int64) (pr : PT)  (xc : Int32) (htr : l.stackTraces = false) (hS : ShX κ X) (hT : TIE κ X) : vx_Met l yX6_issuerKeyOf (wsA yX6_issuerKeyOf cX6_issuerKeyOf 2 (some .int)) ({ frames := 7, cells := 1, slots := 6, locals := 112 } : Room) (va_Pc [.ref (ad 0 0), .int xc] (PRE D g A (iW ad g κ X cs lf pr))) (va_Qi (fun (r : Int32) (_ : Unit) => (opGet κ 5 xc).1 = 0 ∧ r = (opGet κ 5 xc).2) (fun _ => PO D A (iW ad g κ X cs lf pr)) A) (XQ (fun E => thrE [nsE] (opGet κ 5 xc).1 E) D A (iW ad g κ X cs lf pr)) 1 6 A := by
  have hn := hS.1
  refine metX (by decide) (Nat.le_of_ble_eq_true rfl) ?_
  intro p e s m args below meth c _ hex cx
  refine J_aload_n cx dX6_issuerKeyOf_0 rfl 0 rfl ?_
  refine J_iload_n cx dX6_issuerKeyOf_1 rfl 1 rfl ?_
  refine J_xcallVq cx hex kX6_73 (As := [.int xc]) (tX6_find l D g A ad κ X cs lf pr  xc htr hS) (fun E h => by obtain ⟨h1, h2⟩ := h; subst h2; exact ⟨by simp [opGet, xj, h1, true_and], by simp [opGet, xj, h1, true_and]⟩) ⟨by decide, by decide⟩ ⟨rfl, rfl, by decide, by decide⟩ ⟨by decide, by decide⟩ rfl 0 rfl rfl rfl (Nat.le_of_ble_eq_true rfl) dX6_issuerKeyOf_2 ?_
  intro _ j hr; obtain ⟨hj, hxj, hr⟩ := hr; subst hr; subst hxj
  refine J_top (v' := .ref (ad 1 j)) rfl ?_
  have hjR : inR (κ.2.2.1 0) (nI j) = true := by rw [inR_nI (by omega)]; exact decide_eq_true hj
  have hjc : (nI j).toNatClampNeg = j := nI_clamp (by omega)
  have hTj := hT j hj
  refine J_get cx (v := .ref (ad 2 (X.2.1 j))) fX6_135 (17 + j) (iG_c (by first | assumption | omega)) rfl dX6_issuerKeyOf_5 ?_
  refine J_get cx (v := .int (nI ((X.2.1 j) + 1))) fX6_153 (17 + κ.2.2.1 0 + (X.2.1 j)) (iG_h (hS.is (by first | assumption | omega))) rfl dX6_issuerKeyOf_8 ?_
  refine J_x ?_
  exact J_iret cx rfl (u := ()) ⟨by simp [opGet, xj, hjR, hjc], by simp [opGet, xj, zb, hjR, hjc, hTj.2.2.2.2]⟩ (by simp [opGet, xj, hjR, hjc]; try rfl) (Nat.le_of_ble_eq_true rfl) (Nat.le_of_ble_eq_true rfl) dX6_issuerKeyOf_11
set_option maxHeartbeats 4000000 in
set_option maxRecDepth 100000 in
theorem tX6_lastDayOf (l : Launch) (D : va_G) (g : Nat → ClassId) (A : Nat → Prop) (ad : Nat → Nat → Nat) (κ : CS) (X : XT) (cs : Nat → CT) (lf : Nat → Int64) (pr : PT)  (xc : Int32) (htr : l.stackTraces = false) (hS : ShX κ X) : vx_Met l yX6_lastDayOf (wsA yX6_lastDayOf cX6_lastDayOf 2 (some .int)) ({ frames := 7, cells := 1, slots := 6, locals := 112 } : Room) (va_Pc [.ref (ad 0 0), .int xc] (PRE D g A (iW ad g κ X cs lf pr))) (va_Qi (fun (r : Int32) (_ : Unit) => (opGet κ 3 xc).1 = 0 ∧ r = (opGet κ 3 xc).2) (fun _ => PO D A (iW ad g κ X cs lf pr)) A) (XQ (fun E => thrE [nsE] (opGet κ 3 xc).1 E) D A (iW ad g κ X cs lf pr)) 1 6 A := by
  have hn := hS.1
  refine metX (by decide) (Nat.le_of_ble_eq_true rfl) ?_
  intro p e s m args below meth c _ hex cx
  refine J_aload_n cx dX6_lastDayOf_0 rfl 0 rfl ?_
  refine J_iload_n cx dX6_lastDayOf_1 rfl 1 rfl ?_
  refine J_xcallVq cx hex kX6_73 (As := [.int xc]) (tX6_find l D g A ad κ X cs lf pr  xc htr hS) (fun E h => by obtain ⟨h1, h2⟩ := h; subst h2; exact ⟨by simp [opGet, xj, h1, true_and], by simp [opGet, xj, h1, true_and]⟩) ⟨by decide, by decide⟩ ⟨rfl, rfl, by decide, by decide⟩ ⟨by decide, by decide⟩ rfl 0 rfl rfl rfl (Nat.le_of_ble_eq_true rfl) dX6_lastDayOf_2 ?_
  intro _ j hr; obtain ⟨hj, hxj, hr⟩ := hr; subst hr; subst hxj
  refine J_top (v' := .ref (ad 1 j)) rfl ?_
  have hjR : inR (κ.2.2.1 0) (nI j) = true := by rw [inR_nI (by omega)]; exact decide_eq_true hj
  have hjc : (nI j).toNatClampNeg = j := nI_clamp (by omega)
  refine J_get cx (v := .int (κ.1 3 j)) fX6_156 (17 + j) (iG_c (by first | assumption | omega)) rfl dX6_lastDayOf_5 ?_
  refine J_x ?_
  exact J_iret cx rfl (u := ()) ⟨by simp [opGet, xj, hjR, hjc], by simp [opGet, xj, zb, hjR, hjc]⟩ (by simp [opGet, xj, hjR, hjc]; try rfl) (Nat.le_of_ble_eq_true rfl) (Nat.le_of_ble_eq_true rfl) dX6_lastDayOf_8
set_option maxHeartbeats 4000000 in
set_option maxRecDepth 100000 in
theorem tX6_kindOf (l : Launch) (D : va_G) (g : Nat → ClassId) (A : Nat → Prop) (ad : Nat → Nat → Nat) (κ : CS) (X : XT) (cs : Nat → CT) (lf : Nat → Int64) (pr : PT)  (xc : Int32) (htr : l.stackTraces = false) (hS : ShX κ X) (hT : TIE κ X) (hI : InvM κ) : vx_Met l yX6_kindOf (wsA yX6_kindOf cX6_kindOf 3 (some .char)) ({ frames := 7, cells := 1, slots := 6, locals := 112 } : Room) (va_Pc [.ref (ad 0 0), .int xc] (PRE D g A (iW ad g κ X cs lf pr))) (va_Qi (fun (r : Int32) (_ : Unit) => (opKind κ xc).1 = 0 ∧ r = (opKind κ xc).2) (fun _ => PO D A (iW ad g κ X cs lf pr)) A) (XQ (fun E => thrE [nsE] (opKind κ xc).1 E) D A (iW ad g κ X cs lf pr)) 1 6 A := by
  have hn := hS.1
  refine metX (by decide) (Nat.le_of_ble_eq_true rfl) ?_
  intro p e s m args below meth c _ hex cx
  refine J_aload_n cx dX6_kindOf_0 rfl 0 rfl ?_
  refine J_iload_n cx dX6_kindOf_1 rfl 1 rfl ?_
  refine J_xcallVq cx hex kX6_73 (As := [.int xc]) (tX6_find l D g A ad κ X cs lf pr  xc htr hS) (fun E h => by obtain ⟨h1, h2⟩ := h; subst h2; exact ⟨by simp [opKind, xj, h1, true_and], by simp [opKind, xj, h1, true_and]⟩) ⟨by decide, by decide⟩ ⟨rfl, rfl, by decide, by decide⟩ ⟨by decide, by decide⟩ rfl 0 rfl rfl rfl (Nat.le_of_ble_eq_true rfl) dX6_kindOf_2 ?_
  intro _ j hr; obtain ⟨hj, hxj, hr⟩ := hr; subst hr; subst hxj
  refine J_top (v' := .ref (ad 1 j)) rfl ?_
  have hjR : inR (κ.2.2.1 0) (nI j) = true := by rw [inR_nI (by omega)]; exact decide_eq_true hj
  have hjc : (nI j).toNatClampNeg = j := nI_clamp (by omega)
  refine J_astore_n cx (L' := [(2, .ref (ad 1 j)), (0, .ref (ad 0 0)), (1, .int (nI j))]) dX6_kindOf_5 rfl (by decide) rfl ?_
  refine J_aload_n cx dX6_kindOf_6 rfl 0 rfl ?_
  refine J_callVi cx kX6_115 (As := []) (tX0_isRoot l D g A ad κ X cs lf pr  j hS hj) ⟨rfl, rfl, by decide, by decide⟩ ⟨by decide, by decide⟩ rfl (17 + j) (iG_c (by first | assumption | omega)) rfl rfl (Nat.le_of_ble_eq_true rfl) dX6_kindOf_7 ?_
  intro _ _ hr; cases hr
  have hTj := hT j hj
  refine J_top (v' := .int (zb (κ.2.1 1 j))) (by rw [hTj.1]) ?_
  refine J_ifz_eq cx (tgt := 16) dX6_kindOf_10 (by decide) (fun c_1 => ?_) (fun c_1 => ?_)
  · refine J_aload_n cx dX6_kindOf_16 rfl 0 rfl ?_
    refine J_callVi cx kX6_159 (As := []) (tX0_isAuthority l D g A ad κ X cs lf pr  j hj) ⟨rfl, rfl, by decide, by decide⟩ ⟨by decide, by decide⟩ rfl (17 + j) (iG_c (by first | assumption | omega)) rfl rfl (Nat.le_of_ble_eq_true rfl) dX6_kindOf_17 ?_
    intro _ _ hr; cases hr
    refine J_top (v' := .int (zb (κ.2.1 0 j))) (by rw [len_au hI (by assumption)]) ?_
    refine J_ifz_eq cx (tgt := 28) dX6_kindOf_20 (by decide) (fun c_2 => ?_) (fun c_2 => ?_)
    · refine J_bipush cx (v := nI 101) dX6_kindOf_28 (by decide) ?_
      refine J_x ?_
      exact J_zret cx rfl (u := ()) (by decide) ⟨by simp [opKind, xj, hjR, hjc, c_1, c_2], by simp [opKind, xj, zb, hjR, hjc, c_1, c_2]⟩ (by simp [opKind, xj, hjR, hjc, c_1, c_2]; try rfl) (Nat.le_of_ble_eq_true rfl) (Nat.le_of_ble_eq_true rfl) dX6_kindOf_30
    · refine J_bipush cx (v := nI 97) dX6_kindOf_23 (by decide) ?_
      refine J_goto cx (tgt := 30) dX6_kindOf_25 (by decide) ?_
      refine J_x ?_
      exact J_zret cx rfl (u := ()) (by decide) ⟨by simp [opKind, xj, hjR, hjc, c_1, c_2], by simp [opKind, xj, zb, hjR, hjc, c_1, c_2]⟩ (by simp [opKind, xj, hjR, hjc, c_1, c_2]; try rfl) (Nat.le_of_ble_eq_true rfl) (Nat.le_of_ble_eq_true rfl) dX6_kindOf_30
  · refine J_bipush cx (v := nI 114) dX6_kindOf_13 (by decide) ?_
    refine J_x ?_
    exact J_zret cx rfl (u := ()) (by decide) ⟨by simp [opKind, xj, hjR, hjc, c_1], by simp [opKind, xj, zb, hjR, hjc, c_1]⟩ (by simp [opKind, xj, hjR, hjc, c_1]; try rfl) (Nat.le_of_ble_eq_true rfl) (Nat.le_of_ble_eq_true rfl) dX6_kindOf_15
set_option maxHeartbeats 4000000 in
set_option maxRecDepth 100000 in
theorem tX6_isRevoked (l : Launch) (D : va_G) (g : Nat → ClassId) (A : Nat → Prop) (ad : Nat → Nat → Nat) (κ : CS) (X : XT) (cs : Nat → CT) (lf : Nat → Int64) (pr : PT)  (xc : Int32) (dy : Int32) (htr : l.stackTraces = false) (hS : ShX κ X) : vx_Met l yX6_isRevoked (wsA yX6_isRevoked cX6_isRevoked 4 (some .boolean)) ({ frames := 7, cells := 2, slots := 12, locals := 112 } : Room) (va_Pc [.ref (ad 0 0), .int xc, .int dy] (PRE D g A (iW ad g κ X cs lf pr))) (va_Qi (fun (r : Int32) (_ : Unit) => (opRevoked κ xc dy).1 = 0 ∧ r = zb (opRevoked κ xc dy).2) (fun _ => PO D A (iW ad g κ X cs lf pr)) A) (XQ (fun E => thrE [nsE, "java/lang/IllegalArgumentException"] (opRevoked κ xc dy).1 E) D A (iW ad g κ X cs lf pr)) 2 12 A := by
  have hn := hS.1
  refine metX (by decide) (Nat.le_of_ble_eq_true rfl) ?_
  intro p e s m args below meth c _ hex cx
  refine J_aload_n cx dX6_isRevoked_0 rfl 0 rfl ?_
  refine J_iload_n cx dX6_isRevoked_1 rfl 1 rfl ?_
  refine J_xcallVq cx hex kX6_73 (As := [.int xc]) (tX6_find l D g A ad κ X cs lf pr  xc htr hS) (fun E h => by obtain ⟨h1, h2⟩ := h; subst h2; exact ⟨by simp [opRevoked, wrongC, xj, h1, true_and], by simp [opRevoked, wrongC, xj, h1, true_and]⟩) ⟨by decide, by decide⟩ ⟨rfl, rfl, by decide, by decide⟩ ⟨by decide, by decide⟩ rfl 0 rfl rfl rfl (Nat.le_of_ble_eq_true rfl) dX6_isRevoked_2 ?_
  intro _ j hr; obtain ⟨hj, hxj, hr⟩ := hr; subst hr; subst hxj
  refine J_top (v' := .ref (ad 1 j)) rfl ?_
  have hjR : inR (κ.2.2.1 0) (nI j) = true := by rw [inR_nI (by omega)]; exact decide_eq_true hj
  have hjc : (nI j).toNatClampNeg = j := nI_clamp (by omega)
  refine J_astore_n cx (L' := [(3, .ref (ad 1 j)), (0, .ref (ad 0 0)), (1, .int (nI j)), (2, .int dy)]) dX6_isRevoked_5 rfl (by decide) rfl ?_
  refine J_iload_n cx dX6_isRevoked_6 rfl 3 rfl ?_
  refine J_xcallSv cx hex kX6_166 (As := [.int dy]) (tX6_requireDay l D g A ad κ X cs lf pr  dy htr ) (fun E h => by obtain ⟨h1, h2⟩ := h; subst h2; exact ⟨by simp [opRevoked, wrongC, xj, h1, hjR, hjc], by simp [opRevoked, wrongC, xj, h1, hjR, hjc]⟩) ⟨by decide, by decide⟩ ⟨rfl, rfl, by decide, by decide⟩ ⟨by decide, by decide⟩ rfl rfl (Nat.le_of_ble_eq_true rfl) dX6_isRevoked_7 ?_
  intro _ hr
  have hdz := hr
  refine J_aload_n cx dX6_isRevoked_10 rfl 0 rfl ?_
  refine J_iload_n cx dX6_isRevoked_11 rfl 3 rfl ?_
  refine J_callVi cx kX6_169 (As := [.int dy]) (tX0_isOutOfForceOn l D g A ad κ X cs lf pr  j dy hj) ⟨rfl, rfl, by decide, by decide⟩ ⟨by decide, by decide⟩ rfl (17 + j) (iG_c (by first | assumption | omega)) rfl rfl (Nat.le_of_ble_eq_true rfl) dX6_isRevoked_12 ?_
  intro _ _ hr; cases hr
  have hoff := fits_out (d := dy) (hS.2.2.2.2.2 j hj)
  refine J_x ?_
  exact J_zret cx rfl (u := ()) (zb_nar _) ⟨by simp [opRevoked, wrongC, xj, hjR, hjc, hdz, hoff], by simp [opRevoked, wrongC, xj, zb, hjR, hjc, hdz, hoff]⟩ (by simp [opRevoked, wrongC, xj, hjR, hjc, hdz, hoff]; try rfl) (Nat.le_of_ble_eq_true rfl) (Nat.le_of_ble_eq_true rfl) dX6_isRevoked_15
set_option maxHeartbeats 4000000 in
set_option maxRecDepth 100000 in
theorem tX6_candidates (l : Launch) (D : va_G) (g : Nat → ClassId) (A : Nat → Prop) (ad : Nat → Nat → Nat) (κ : CS) (X : XT) (cs : Nat → CT) (lf : Nat → Int64) (pr : PT)  (xc : Int32) (htr : l.stackTraces = false) (hS : ShX κ X) : vx_Met l yX6_candidates (wsA yX6_candidates cX6_candidates 2 (some .int)) ({ frames := 7, cells := 1, slots := 6, locals := 112 } : Room) (va_Pc [.ref (ad 0 0), .int xc] (PRE D g A (iW ad g κ X cs lf pr))) (va_Qi (fun (r : Int32) (_ : Unit) => ((ocC κ X xc)).1 = 0 ∧ r = ((ocC κ X xc)).2) (fun _ => PO D A (iW ad g κ X cs lf pr)) A) (XQ (fun E => thrE [nsE] ((ocC κ X xc)).1 E) D A (iW ad g κ X cs lf pr)) 1 6 A := by
  have hn := hS.1
  refine metX (by decide) (Nat.le_of_ble_eq_true rfl) ?_
  intro p e s m args below meth c _ hex cx
  refine J_aload_n cx dX6_candidates_0 rfl 0 rfl ?_
  refine J_iload_n cx dX6_candidates_1 rfl 1 rfl ?_
  refine J_xcallVq cx hex kX6_73 (As := [.int xc]) (tX6_find l D g A ad κ X cs lf pr  xc htr hS) (fun E h => by obtain ⟨h1, h2⟩ := h; subst h2; exact ⟨by simp [ocC, xj, h1, true_and], by simp [ocC, xj, h1, true_and]⟩) ⟨by decide, by decide⟩ ⟨rfl, rfl, by decide, by decide⟩ ⟨by decide, by decide⟩ rfl 0 rfl rfl rfl (Nat.le_of_ble_eq_true rfl) dX6_candidates_2 ?_
  intro _ j hr; obtain ⟨hj, hxj, hr⟩ := hr; subst hr; subst hxj
  refine J_top (v' := .ref (ad 1 j)) rfl ?_
  have hjR : inR (κ.2.2.1 0) (nI j) = true := by rw [inR_nI (by omega)]; exact decide_eq_true hj
  have hjc : (nI j).toNatClampNeg = j := nI_clamp (by omega)
  refine J_callVi cx kX6_179 (As := []) (tX0_countCandidates l D g A ad κ X cs lf pr  j hS hj) ⟨rfl, rfl, by decide, by decide⟩ ⟨by decide, by decide⟩ rfl (17 + j) (iG_c (by first | assumption | omega)) rfl rfl (Nat.le_of_ble_eq_true rfl) dX6_candidates_5 ?_
  intro _ _ hr; cases hr
  refine J_x ?_
  exact J_iret cx rfl (u := ()) ⟨by simp [ocC, xj, hjR, hjc], by simp [ocC, xj, zb, hjR, hjc]⟩ (by simp [ocC, xj, hjR, hjc]; try rfl) (Nat.le_of_ble_eq_true rfl) (Nat.le_of_ble_eq_true rfl) dX6_candidates_8
set_option maxHeartbeats 4000000 in
set_option maxRecDepth 100000 in
theorem tX6_requireCandidate (l : Launch) (D : va_G) (g : Nat → ClassId) (A : Nat → Prop) (ad : Nat → Nat → Nat) (κ : CS) (X : XT) (cs : Nat → CT) (lf : Nat → Int64) (pr : PT)  (i : Nat) (rk : Int32) (htr : l.stackTraces = false) (hS : ShX κ X) (hi : i < κ.2.2.1 0) : vx_Met l yX6_requireCandidate (wsA yX6_requireCandidate cX6_requireCandidate 4 (some (.object "Certhold$Certificate"))) ({ frames := 6, cells := 1, slots := 6, locals := 90 } : Room) (va_Pc [.ref (ad 0 0), .ref (ad 1 i), .int rk] (PRE D g A (iW ad g κ X cs lf pr))) (va_Qq (fun (r : Option Nat) (u : Nat) => cdC X i rk = some u ∧ r = some (ad 1 u)) (fun _ => PO D A (iW ad g κ X cs lf pr)) A) (XQ (fun E => cdC X i rk = none ∧ E = "java/lang/IndexOutOfBoundsException") D A (iW ad g κ X cs lf pr)) 1 6 A := by
  refine metX (by decide) (Nat.le_of_ble_eq_true rfl) ?_
  intro p e s m args below meth c _ hex cx
  refine J_aload_n cx dX6_requireCandidate_0 rfl 1 rfl ?_
  refine J_iload_n cx dX6_requireCandidate_1 rfl 2 rfl ?_
  refine J_callVq cx kX6_281 (As := [.int rk]) (tX0_candidate l D g A ad κ X cs lf pr  i rk hS hi) ⟨rfl, rfl, by decide, by decide⟩ ⟨by decide, by decide⟩ rfl (17 + i) (iG_c (by first | assumption | omega)) rfl rfl (Nat.le_of_ble_eq_true rfl) dX6_requireCandidate_2 ?_
  intro _ _ hr; cases hr
  refine J_astore_nq cx (L' := [(3, va_rf ((cdC X i rk).map (ad 1))), (0, .ref (ad 0 0)), (1, .ref (ad 1 i)), (2, .int rk)]) dX6_requireCandidate_5 rfl (by decide) rfl ?_
  refine J_aload_nq cx dX6_requireCandidate_6 rfl 0 rfl ?_
  refine J_ifnonnull cx (tgt := 21) dX6_requireCandidate_7 (by decide) (fun y_2 c_1 => ?_) (fun c_1 => ?_)
  · have c_1v := c_1
    obtain ⟨k, hk, hky⟩ := Option.map_eq_some_iff.mp c_1; subst hky
    have hkb := (cdC_lt hS hi hk).1
    refine J_Le (L' := [(3, .ref (ad 1 k)), (0, .ref (ad 0 0)), (1, .ref (ad 1 i)), (2, .int rk)]) (by rw [c_1v]; rfl) ?_
    refine J_aload_n cx dX6_requireCandidate_21 rfl 0 rfl ?_
    refine J_x ?_
    exact J_qret cx rfl (u := k) (v := some (ad 1 k)) ⟨by assumption, rfl⟩ rfl (Nat.le_of_ble_eq_true rfl) (Nat.le_of_ble_eq_true rfl) dX6_requireCandidate_22
  · have c_1 : cdC X i rk = none := Option.map_eq_none_iff.mp c_1
    exact J_throw cx hex htr rfl th_197 (List.mem_of_getElem? (i := 15) rfl) ⟨by assumption, rfl⟩ dX6_requireCandidate_10 dX6_requireCandidate_13 (Or.inr ⟨dX6_requireCandidate_14, dX6_requireCandidate_17, dX6_requireCandidate_20⟩) ⟨by decide, by decide, by decide, by decide⟩ ⟨by decide, by decide⟩
set_option maxHeartbeats 4000000 in
set_option maxRecDepth 100000 in
theorem tX6_candidateAt (l : Launch) (D : va_G) (g : Nat → ClassId) (A : Nat → Prop) (ad : Nat → Nat → Nat) (κ : CS) (X : XT) (cs : Nat → CT) (lf : Nat → Int64) (pr : PT)  (xc : Int32) (rk : Int32) (htr : l.stackTraces = false) (hS : ShX κ X) : vx_Met l yX6_candidateAt (wsA yX6_candidateAt cX6_candidateAt 3 (some .int)) ({ frames := 7, cells := 2, slots := 12, locals := 113 } : Room) (va_Pc [.ref (ad 0 0), .int xc, .int rk] (PRE D g A (iW ad g κ X cs lf pr))) (va_Qi (fun (r : Int32) (_ : Unit) => ((ocA κ X xc rk)).1 = 0 ∧ r = ((ocA κ X xc rk)).2) (fun _ => PO D A (iW ad g κ X cs lf pr)) A) (XQ (fun E => thrE [nsE, "java/lang/IndexOutOfBoundsException"] ((ocA κ X xc rk)).1 E) D A (iW ad g κ X cs lf pr)) 2 12 A := by
  have hn := hS.1
  refine metX (by decide) (Nat.le_of_ble_eq_true rfl) ?_
  intro p e s m args below meth c _ hex cx
  refine J_aload_n cx dX6_candidateAt_0 rfl 0 rfl ?_
  refine J_aload_n cx dX6_candidateAt_1 rfl 0 rfl ?_
  refine J_iload_n cx dX6_candidateAt_2 rfl 1 rfl ?_
  refine J_xcallVq cx hex kX6_73 (As := [.int xc]) (tX6_find l D g A ad κ X cs lf pr  xc htr hS) (fun E h => by obtain ⟨h1, h2⟩ := h; subst h2; exact ⟨by simp [ocA, xj, h1, true_and], by simp [ocA, xj, h1, true_and]⟩) ⟨by decide, by decide⟩ ⟨rfl, rfl, by decide, by decide⟩ ⟨by decide, by decide⟩ rfl 0 rfl rfl rfl (Nat.le_of_ble_eq_true rfl) dX6_candidateAt_3 ?_
  intro _ j hr; obtain ⟨hj, hxj, hr⟩ := hr; subst hr; subst hxj
  refine J_top (v' := .ref (ad 1 j)) rfl ?_
  have hjR : inR (κ.2.2.1 0) (nI j) = true := by rw [inR_nI (by omega)]; exact decide_eq_true hj
  have hjc : (nI j).toNatClampNeg = j := nI_clamp (by omega)
  refine J_iload_n cx dX6_candidateAt_6 rfl 2 rfl ?_
  refine J_xcallVq cx hex kX6_182 (As := [.ref (ad 1 j), .int rk]) (tX6_requireCandidate l D g A ad κ X cs lf pr  j rk htr hS hj) (fun E h => by obtain ⟨h1, h2⟩ := h; subst h2; exact ⟨by simp [ocA, xj, h1, hjR, hjc], by simp [ocA, xj, h1, hjR, hjc]⟩) ⟨by decide, by decide⟩ ⟨rfl, rfl, by decide, by decide⟩ ⟨by decide, by decide⟩ rfl 0 rfl rfl rfl (Nat.le_of_ble_eq_true rfl) dX6_candidateAt_7 ?_
  intro _ k hr; obtain ⟨hkc, hr⟩ := hr; subst hr
  refine J_top (v' := .ref (ad 1 k)) rfl ?_
  have hkb := (cdC_lt hS (show j < κ.2.2.1 0 by assumption) hkc).1
  refine J_get cx (v := .int (nI k)) fX6_173 (17 + k) (iG_c (by first | assumption | omega)) rfl dX6_candidateAt_10 ?_
  refine J_x ?_
  exact J_iret cx rfl (u := ()) ⟨by simp [ocA, xj, hjR, hjc, hkc], by simp [ocA, xj, zb, hjR, hjc, hkc]⟩ (by simp [ocA, xj, hjR, hjc, hkc]; try rfl) (Nat.le_of_ble_eq_true rfl) (Nat.le_of_ble_eq_true rfl) dX6_candidateAt_13
