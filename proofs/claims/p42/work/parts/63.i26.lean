/-- what the class answers of chains, by its own rows -/
def ocS (κ : CS) (X : XT) (t b : CT) (xc dy : Int32) : Nat × Int32 := if decide (wrongC κ xc dy = 0) then (0, nI (sbK κ X (xj xc) dy t b).2.2.1) else (wrongC κ xc dy, nI 0)
def ocT (κ : CS) (X : XT) (t b : CT) (xc dy xi : Int32) : Nat × Int32 := if decide (wrongC κ xc dy = 0) then (if inR (sbK κ X (xj xc) dy t b).2.2.1 xi then (0, nI (wyO (sbK κ X (xj xc) dy t b).2 (xj xi))) else (3, nI 0)) else (wrongC κ xc dy, nI 0)
def csW (κ : CS) (X : XT) (t b : CT) (xc dy : Int32) : CT × CT := if decide (wrongC κ xc dy = 0) then sbK κ X (xj xc) dy t b else (t, b)
def ocG (κ : CS) (X : XT) (t : CT) (xc dy : Int32) : Nat × Int32 := if decide (wrongC κ xc dy = 0) then (0, nI (cjK κ X 7 (va_up t.1 0 (some (xj xc)), 1, dy)).1) else (wrongC κ xc dy, nI 0)
def gwK2 (κ : CS) (X : XT) (t : CT) (i : Nat) (dy : Int32) : Nat × CT := if decide (rfI κ i dy = 111) then clK κ X 7 (va_up t.1 0 (some i), 1, dy) else (0, t)
def ocH (κ : CS) (X : XT) (t : CT) (xc dy : Int32) : Nat × Int32 := if decide (wrongC κ xc dy = 0) then (0, nI (gwK2 κ X t (xj xc) dy).1) else (wrongC κ xc dy, nI 0)
theorem atC_no {κ : CS} {c : CT} {x : Int32} (h : ShC κ c) (ha : atC c x = none) : inR c.2.1 x = false := by
  cases hr : inR c.2.1 x with
  | false => rfl
  | true =>
    have h7 := h.1
    obtain ⟨j, hj, rfl⟩ := inR_spec hr (by omega)
    rw [atC_at h hj] at ha; cases ha
theorem atC_yes {κ : CS} {c : CT} {x : Int32} {k : Nat} (h : ShC κ c) (ha : atC c x = some k) : inR c.2.1 x = true ∧ wyO c (xj x) = k ∧ k < κ.2.2.1 0 := by
  cases hr : inR c.2.1 x with
  | false => unfold atC at ha; rw [hr] at ha; cases ha
  | true =>
    have h7 := h.1
    obtain ⟨j, hj, rfl⟩ := inR_spec hr (by omega)
    have hw := (wyO_at h hj).2
    rw [atC_at h hj] at ha
    rw [show xj (nI j) = j from nI_clamp (by omega)]
    cases ha; exact ⟨rfl, rfl, hw⟩
set_option maxHeartbeats 4000000 in
set_option maxRecDepth 100000 in
theorem tX6_chainSize (l : Launch) (D : va_G) (g : Nat → ClassId) (A : Nat → Prop) (ad : Nat → Nat → Nat) (κ : CS) (X : XT) (cs : Nat → CT) (lf : Nat → Int64) (pr : PT)  (c1 c2 : CT) (xc : Int32) (dy : Int32) (htr : l.stackTraces = false) (hS : ShX κ X) (hI : InvM κ) (hC1 : ShC κ c1) (hC2 : ShC κ c2) : vx_Met l yX6_chainSize (wsA yX6_chainSize cX6_chainSize 4 (some .int)) ({ frames := 13, cells := 2, slots := 12, locals := 346 } : Room) (va_Pc [.ref (ad 0 0), .int xc, .int dy] (PRE D g A (iW ad g κ X (upc (upc cs 1 c1) 2 c2) lf pr))) (va_Qi (fun (r : Int32) (_ : Unit) => ((ocS κ X c1 c2 xc dy)).1 = 0 ∧ r = ((ocS κ X c1 c2 xc dy)).2) (fun _ => PO D A (iW ad g κ X (upc (upc cs 1 ((sbK κ X (xj xc) dy c1 c2).1)) 2 ((sbK κ X (xj xc) dy c1 c2).2)) lf pr)) A) (XQ (fun E => thrE [nsE, "java/lang/IllegalArgumentException"] ((ocS κ X c1 c2 xc dy)).1 E) D A (iW ad g κ X (upc (upc cs 1 c1) 2 c2) lf pr)) 2 12 A := by
  have hn := hS.1
  refine metX (by decide) (Nat.le_of_ble_eq_true rfl) ?_
  intro p e s m args below meth c _ hex cx
  refine J_aload_n cx dX6_chainSize_0 rfl 0 rfl ?_
  refine J_iload_n cx dX6_chainSize_1 rfl 1 rfl ?_
  refine J_xcallVq cx hex kX6_73 (As := [.int xc]) (tX6_find l D g A ad κ X (upc (upc cs 1 c1) 2 c2) lf pr  xc htr hS) (fun E h => by obtain ⟨h1, h2⟩ := h; subst h2; exact ⟨by simp [ocS, wrongC, xj, h1, true_and], by simp [ocS, wrongC, xj, h1, true_and]⟩) ⟨by decide, by decide⟩ ⟨rfl, rfl, (by first | decide | (simp only [rmB]; omega)), (by first | decide | (simp only [rmB]; omega))⟩ ⟨(by first | decide | (simp only [rmB]; omega)), (by first | decide | (simp only [rmB]; omega))⟩ rfl 0 rfl rfl rfl (Nat.le_of_ble_eq_true rfl) dX6_chainSize_2 ?_
  intro _ j hr; obtain ⟨hj, hxj, hr⟩ := hr; subst hr; subst hxj
  refine J_top (v' := .ref (ad 1 j)) rfl ?_
  have hjR : inR (κ.2.2.1 0) (nI j) = true := by rw [inR_nI (by omega)]; exact decide_eq_true hj
  have hjc : (nI j).toNatClampNeg = j := nI_clamp (by omega)
  refine J_astore_n cx (L' := [(3, .ref (ad 1 j)), (0, .ref (ad 0 0)), (1, .int (nI j)), (2, .int dy)]) dX6_chainSize_5 rfl (by decide) rfl ?_
  refine J_iload_n cx dX6_chainSize_6 rfl 3 rfl ?_
  refine J_xcallSv cx hex kX6_166 (As := [.int dy]) (tX6_requireDay l D g A ad κ X (upc (upc cs 1 c1) 2 c2) lf pr  dy htr ) (fun E h => by obtain ⟨h1, h2⟩ := h; subst h2; exact ⟨by simp [ocS, wrongC, xj, h1, hjR, hjc], by simp [ocS, wrongC, xj, h1, hjR, hjc]⟩) ⟨by decide, by decide⟩ ⟨rfl, rfl, (by first | decide | (simp only [rmB]; omega)), (by first | decide | (simp only [rmB]; omega))⟩ ⟨(by first | decide | (simp only [rmB]; omega)), (by first | decide | (simp only [rmB]; omega))⟩ rfl rfl (Nat.le_of_ble_eq_true rfl) dX6_chainSize_7 ?_
  intro _ hr
  have hdz := hr
  refine J_aload_n cx dX6_chainSize_10 rfl 1 rfl ?_
  refine J_aload_n cx dX6_chainSize_11 rfl 0 rfl ?_
  refine J_iload_n cx dX6_chainSize_12 rfl 3 rfl ?_
  refine J_ws (ws' := (iW ad g κ X (upc (upc cs 2 c2) 1 c1) lf pr)) (by rw [upc_comm (by decide)]) ?_
  refine J_ws (ws' := (iW ad g κ X (upc (upc cs 1 c1) 2 c2) lf pr)) (by rw [upc_comm (by decide)]) ?_
  refine J_callVi cx kX6_186 (As := [.ref (ad 1 j), .int dy]) (tX6_sizeOfBest l D g A ad κ X cs lf pr  c1 c2 j dy hI hS hC1 hC2 hj) ⟨rfl, rfl, (by first | decide | (simp only [rmB]; omega)), (by first | decide | (simp only [rmB]; omega))⟩ ⟨(by first | decide | (simp only [rmB]; omega)), (by first | decide | (simp only [rmB]; omega))⟩ rfl 0 rfl rfl rfl (Nat.le_of_ble_eq_true rfl) dX6_chainSize_13 ?_
  intro _ _ hr; cases hr
  refine J_x ?_
  exact J_iret cx rfl (u := ()) ⟨by simp [ocS, wrongC, xj, hjR, hjc, hdz], by simp [ocS, wrongC, xj, hjR, hjc, hdz]⟩ (by simp [xj, hjR, hjc, hdz]; try rfl) (Nat.le_of_ble_eq_true rfl) (Nat.le_of_ble_eq_true rfl) dX6_chainSize_16
set_option maxHeartbeats 4000000 in
set_option maxRecDepth 100000 in
theorem tX6_chainAt (l : Launch) (D : va_G) (g : Nat → ClassId) (A : Nat → Prop) (ad : Nat → Nat → Nat) (κ : CS) (X : XT) (cs : Nat → CT) (lf : Nat → Int64) (pr : PT)  (c1 c2 : CT) (xc : Int32) (dy : Int32) (xi : Int32) (htr : l.stackTraces = false) (hS : ShX κ X) (hI : InvM κ) (hC1 : ShC κ c1) (hC2 : ShC κ c2) : vx_Met l yX6_chainAt (wsA yX6_chainAt cX6_chainAt 6 (some .int)) ({ frames := 13, cells := 3, slots := 18, locals := 346 } : Room) (va_Pc [.ref (ad 0 0), .int xc, .int dy, .int xi] (PRE D g A (iW ad g κ X (upc (upc cs 1 c1) 2 c2) lf pr))) (va_Qi (fun (r : Int32) (_ : Unit) => ((ocT κ X c1 c2 xc dy xi)).1 = 0 ∧ r = ((ocT κ X c1 c2 xc dy xi)).2) (fun _ => PO D A (iW ad g κ X (upc (upc cs 1 ((csW κ X c1 c2 xc dy).1)) 2 ((csW κ X c1 c2 xc dy).2)) lf pr)) A) (XQ (fun E => thrE [nsE, "java/lang/IllegalArgumentException", "java/lang/IndexOutOfBoundsException"] ((ocT κ X c1 c2 xc dy xi)).1 E) D A (iW ad g κ X (upc (upc cs 1 (csW κ X c1 c2 xc dy).1) 2 (csW κ X c1 c2 xc dy).2) lf pr)) 3 18 A := by
  have hn := hS.1
  refine metX (by decide) (Nat.le_of_ble_eq_true rfl) ?_
  intro p e s m args below meth c _ hex cx
  refine J_aload_n cx dX6_chainAt_0 rfl 0 rfl ?_
  refine J_iload_n cx dX6_chainAt_1 rfl 1 rfl ?_
  refine J_xcallVq cx hex kX6_73 (As := [.int xc]) (xmono (tX6_find l D g A ad κ X (upc (upc cs 1 c1) 2 c2) lf pr  xc htr hS) (fun E h => ⟨by obtain ⟨h1, h2⟩ := h; subst h2; exact ⟨by simp [ocT, wrongC, xj, h1, true_and], by simp [ocT, wrongC, xj, h1, true_and]⟩, by obtain ⟨h1, h2⟩ := h; simp [csW, wrongC, xj, h1, true_and]⟩)) (fun _ h => h) ⟨by decide, by decide⟩ ⟨rfl, rfl, (by first | decide | (simp only [rmB]; omega)), (by first | decide | (simp only [rmB]; omega))⟩ ⟨(by first | decide | (simp only [rmB]; omega)), (by first | decide | (simp only [rmB]; omega))⟩ rfl 0 rfl rfl rfl (Nat.le_of_ble_eq_true rfl) dX6_chainAt_2 ?_
  intro _ j hr; obtain ⟨hj, hxj, hr⟩ := hr; subst hr; subst hxj
  refine J_top (v' := .ref (ad 1 j)) rfl ?_
  have hjR : inR (κ.2.2.1 0) (nI j) = true := by rw [inR_nI (by omega)]; exact decide_eq_true hj
  have hjc : (nI j).toNatClampNeg = j := nI_clamp (by omega)
  refine J_astore cx (L' := [(4, .ref (ad 1 j)), (0, .ref (ad 0 0)), (1, .int (nI j)), (2, .int dy), (3, .int xi)]) dX6_chainAt_5 (by decide) rfl ?_
  refine J_iload_n cx dX6_chainAt_7 rfl 3 rfl ?_
  refine J_xcallSv cx hex kX6_166 (As := [.int dy]) (xmono (tX6_requireDay l D g A ad κ X (upc (upc cs 1 c1) 2 c2) lf pr  dy htr ) (fun E h => ⟨by obtain ⟨h1, h2⟩ := h; subst h2; exact ⟨by simp [ocT, wrongC, xj, h1, hjR, hjc], by simp [ocT, wrongC, xj, h1, hjR, hjc]⟩, by obtain ⟨h1, h2⟩ := h; simp [csW, wrongC, xj, h1, hjR, hjc]⟩)) (fun _ h => h) ⟨by decide, by decide⟩ ⟨rfl, rfl, (by first | decide | (simp only [rmB]; omega)), (by first | decide | (simp only [rmB]; omega))⟩ ⟨(by first | decide | (simp only [rmB]; omega)), (by first | decide | (simp only [rmB]; omega))⟩ rfl rfl (Nat.le_of_ble_eq_true rfl) dX6_chainAt_8 ?_
  intro _ hr
  have hdz := hr
  refine J_aload_n cx dX6_chainAt_11 rfl 1 rfl ?_
  refine J_aload cx dX6_chainAt_12 0 rfl ?_
  refine J_iload_n cx dX6_chainAt_14 rfl 3 rfl ?_
  refine J_ws (ws' := (iW ad g κ X (upc (upc cs 2 c2) 1 c1) lf pr)) (by rw [upc_comm (by decide)]) ?_
  refine J_ws (ws' := (iW ad g κ X (upc (upc cs 1 c1) 2 c2) lf pr)) (by rw [upc_comm (by decide)]) ?_
  refine J_callVi cx kX6_186 (As := [.ref (ad 1 j), .int dy]) (tX6_sizeOfBest l D g A ad κ X cs lf pr  c1 c2 j dy hI hS hC1 hC2 hj) ⟨rfl, rfl, (by first | decide | (simp only [rmB]; omega)), (by first | decide | (simp only [rmB]; omega))⟩ ⟨(by first | decide | (simp only [rmB]; omega)), (by first | decide | (simp only [rmB]; omega))⟩ rfl 0 rfl rfl rfl (Nat.le_of_ble_eq_true rfl) dX6_chainAt_15 ?_
  intro _ _ hr; cases hr
  have hsk := sbK_ok (d := dy) hI hS hj hC1 hC2
  have hcw : csW κ X c1 c2 (nI j) dy = sbK κ X j dy c1 c2 := by simp [csW, wrongC, xj, hjR, hjc, hdz]
  have hot : ocT κ X c1 c2 (nI j) dy xi = (if inR (sbK κ X j dy c1 c2).2.2.1 xi then (0, nI (wyO (sbK κ X j dy c1 c2).2 (xj xi))) else (3, nI 0)) := by simp [ocT, wrongC, xj, hjR, hjc, hdz]
  refine J_ws (ws' := (iW ad g κ X (upc (upc cs 1 ((csW κ X c1 c2 (nI j) dy).1)) 2 ((csW κ X c1 c2 (nI j) dy).2)) lf pr)) (by rw [hcw]) ?_
  rw [← hcw] at hsk hot
  refine J_pop cx dX6_chainAt_18 rfl ?_
  refine J_aload_n cx dX6_chainAt_19 rfl 1 rfl ?_
  refine J_get cx (v := .ref (ad 0 15)) fX6_39 0 rfl rfl dX6_chainAt_20 ?_
  refine J_iload_n cx dX6_chainAt_23 rfl 4 rfl ?_
  refine J_callVq cx kX6_190 (As := [.int xi]) (tX1_at l D g A ad κ X (upc cs 1 ((csW κ X c1 c2 (nI j) dy).1)) lf pr  2 ((csW κ X c1 c2 (nI j) dy).2) xi (by decide) hsk.2.1) ⟨rfl, rfl, (by first | decide | (simp only [rmB]; omega)), (by first | decide | (simp only [rmB]; omega))⟩ ⟨(by first | decide | (simp only [rmB]; omega)), (by first | decide | (simp only [rmB]; omega))⟩ rfl (11 + 2 * 2) (iG_ch (by decide)) rfl rfl (Nat.le_of_ble_eq_true rfl) dX6_chainAt_24 ?_
  intro _ _ hr; cases hr
  refine J_astoreq cx (L' := [(5, va_rf ((atC ((csW κ X c1 c2 (nI j) dy).2) xi).map (ad 1))), (4, .ref (ad 1 j)), (0, .ref (ad 0 0)), (1, .int (nI j)), (2, .int dy), (3, .int xi)]) dX6_chainAt_27 (by decide) rfl ?_
  refine J_aloadq cx dX6_chainAt_29 0 rfl ?_
  refine J_ifnonnull cx (tgt := 44) dX6_chainAt_31 (by decide) (fun y_2 c_1 => ?_) (fun c_1 => ?_)
  · have c_1v := c_1
    obtain ⟨k, hk, hky⟩ := Option.map_eq_some_iff.mp c_1; subst hky
    obtain ⟨hy1, hy2, hkb⟩ := atC_yes hsk.2 hk
    refine J_Le (L' := [(5, .ref (ad 1 k)), (4, .ref (ad 1 j)), (0, .ref (ad 0 0)), (1, .int (nI j)), (2, .int dy), (3, .int xi)]) (by rw [c_1v]; rfl) ?_
    refine J_aload cx dX6_chainAt_44 0 rfl ?_
    refine J_get cx (v := .int (nI k)) fX6_173 (17 + k) (iG_c (by first | assumption | omega)) rfl dX6_chainAt_46 ?_
    refine J_x ?_
    exact J_iret cx rfl (u := ()) ⟨by rw [hot, hy1]; rfl, by rw [hot, hy1, hy2]; rfl⟩ rfl (Nat.le_of_ble_eq_true rfl) (Nat.le_of_ble_eq_true rfl) dX6_chainAt_49
  · have hno := atC_no hsk.2 (show atC (csW κ X c1 c2 (nI j) dy).2 xi = none from Option.map_eq_none_iff.mp c_1)
    exact J_throw cx hex htr rfl th_197 (List.mem_of_getElem? (i := 16) rfl) ⟨by rw [hot, hno]; exact (show (3 : Nat) ≠ 0 by decide), by rw [hot, hno]; rfl⟩ dX6_chainAt_34 dX6_chainAt_37 (Or.inl ⟨dX6_chainAt_38, dX6_chainAt_40, dX6_chainAt_43⟩) ⟨by decide, by decide, by decide, by decide⟩ ⟨by decide, by decide⟩
set_option maxHeartbeats 4000000 in
set_option maxRecDepth 100000 in
theorem tX6_goodChains (l : Launch) (D : va_G) (g : Nat → ClassId) (A : Nat → Prop) (ad : Nat → Nat → Nat) (κ : CS) (X : XT) (cs : Nat → CT) (lf : Nat → Int64) (pr : PT)  (c1 : CT) (xc : Int32) (dy : Int32) (htr : l.stackTraces = false) (hS : ShX κ X) (hI : InvM κ) (hC1 : ShC κ c1) : vx_Met l yX6_goodChains (wsA yX6_goodChains cX6_goodChains 4 (some .int)) ({ frames := 13, cells := 2, slots := 12, locals := 346 } : Room) (va_Pc [.ref (ad 0 0), .int xc, .int dy] (PRE D g A (iW ad g κ X (upc cs 1 c1) lf pr))) (va_Qi (fun (r : Int32) (_ : Unit) => ((ocG κ X c1 xc dy)).1 = 0 ∧ r = ((ocG κ X c1 xc dy)).2) (fun _ => PO D A (iW ad g κ X (upc cs 1 ((cjK κ X 7 (va_up c1.1 0 (some (xj xc)), 1, dy)).2)) lf pr)) A) (XQ (fun E => thrE [nsE, "java/lang/IllegalArgumentException"] ((ocG κ X c1 xc dy)).1 E) D A (iW ad g κ X (upc cs 1 c1) lf pr)) 2 12 A := by
  have hn := hS.1
  refine metX (by decide) (Nat.le_of_ble_eq_true rfl) ?_
  intro p e s m args below meth c _ hex cx
  refine J_aload_n cx dX6_goodChains_0 rfl 0 rfl ?_
  refine J_iload_n cx dX6_goodChains_1 rfl 1 rfl ?_
  refine J_xcallVq cx hex kX6_73 (As := [.int xc]) (tX6_find l D g A ad κ X (upc cs 1 c1) lf pr  xc htr hS) (fun E h => by obtain ⟨h1, h2⟩ := h; subst h2; exact ⟨by simp [ocG, wrongC, xj, h1, true_and], by simp [ocG, wrongC, xj, h1, true_and]⟩) ⟨by decide, by decide⟩ ⟨rfl, rfl, (by first | decide | (simp only [rmJ, rmL]; omega)), (by first | decide | (simp only [rmJ, rmL]; omega))⟩ ⟨(by first | decide | (simp only [rmJ, rmL]; omega)), (by first | decide | (simp only [rmJ, rmL]; omega))⟩ rfl 0 rfl rfl rfl (Nat.le_of_ble_eq_true rfl) dX6_goodChains_2 ?_
  intro _ j hr; obtain ⟨hj, hxj, hr⟩ := hr; subst hr; subst hxj
  refine J_top (v' := .ref (ad 1 j)) rfl ?_
  have hjR : inR (κ.2.2.1 0) (nI j) = true := by rw [inR_nI (by omega)]; exact decide_eq_true hj
  have hjc : (nI j).toNatClampNeg = j := nI_clamp (by omega)
  refine J_astore_n cx (L' := [(3, .ref (ad 1 j)), (0, .ref (ad 0 0)), (1, .int (nI j)), (2, .int dy)]) dX6_goodChains_5 rfl (by decide) rfl ?_
  refine J_iload_n cx dX6_goodChains_6 rfl 3 rfl ?_
  refine J_xcallSv cx hex kX6_166 (As := [.int dy]) (tX6_requireDay l D g A ad κ X (upc cs 1 c1) lf pr  dy htr ) (fun E h => by obtain ⟨h1, h2⟩ := h; subst h2; exact ⟨by simp [ocG, wrongC, xj, h1, hjR, hjc], by simp [ocG, wrongC, xj, h1, hjR, hjc]⟩) ⟨by decide, by decide⟩ ⟨rfl, rfl, (by first | decide | (simp only [rmJ, rmL]; omega)), (by first | decide | (simp only [rmJ, rmL]; omega))⟩ ⟨(by first | decide | (simp only [rmJ, rmL]; omega)), (by first | decide | (simp only [rmJ, rmL]; omega))⟩ rfl rfl (Nat.le_of_ble_eq_true rfl) dX6_goodChains_7 ?_
  intro _ hr
  have hdz := hr
  refine J_aload_n cx dX6_goodChains_10 rfl 1 rfl ?_
  refine J_get cx (v := .ref (ad 0 13)) fX6_36 0 rfl rfl dX6_goodChains_11 ?_
  refine J_aload_n cx dX6_goodChains_14 rfl 0 rfl ?_
  refine J_iload_n cx dX6_goodChains_15 rfl 3 rfl ?_
  refine J_callVv cx kX6_198 (As := [.ref (ad 1 j), .int dy]) (tX1_restart l D g A ad κ X cs lf pr  1 c1 j dy (by decide) hj) ⟨rfl, rfl, (by first | decide | (simp only [rmJ, rmL]; omega)), (by first | decide | (simp only [rmJ, rmL]; omega))⟩ ⟨(by first | decide | (simp only [rmJ, rmL]; omega)), (by first | decide | (simp only [rmJ, rmL]; omega))⟩ rfl (11 + 2 * 1) (iG_ch (by decide)) rfl rfl (Nat.le_of_ble_eq_true rfl) dX6_goodChains_16 ?_
  intro _ _
  refine J_aload_n cx dX6_goodChains_19 rfl 1 rfl ?_
  refine J_get cx (v := .ref (ad 0 13)) fX6_36 0 rfl rfl dX6_goodChains_20 ?_
  refine J_callSi cx kX6_202 (As := [.ref (ad 0 13)]) (tX6_countJudged l D g A ad κ X cs lf pr hI hS 7 (va_up c1.1 0 (some j), 1, dy) (restart_ok hC1 hj) (Nat.le_refl 1) (show 1 + 7 = 8 by decide)) ⟨rfl, rfl, (by first | decide | (simp only [rmJ, rmL]; omega)), (by first | decide | (simp only [rmJ, rmL]; omega))⟩ ⟨(by first | decide | (simp only [rmJ, rmL]; omega)), (by first | decide | (simp only [rmJ, rmL]; omega))⟩ rfl rfl (Nat.le_of_ble_eq_true rfl) dX6_goodChains_23 ?_
  intro _ _ hr; cases hr
  refine J_x ?_
  exact J_iret cx rfl (u := ()) ⟨by simp [ocG, wrongC, xj, hjR, hjc, hdz], by simp [ocG, wrongC, xj, hjR, hjc, hdz]⟩ (by rw [show xj (nI j) = j from hjc]) (Nat.le_of_ble_eq_true rfl) (Nat.le_of_ble_eq_true rfl) dX6_goodChains_26
set_option maxHeartbeats 4000000 in
set_option maxRecDepth 100000 in
theorem tX6_goodChainsByWalks (l : Launch) (D : va_G) (g : Nat → ClassId) (A : Nat → Prop) (ad : Nat → Nat → Nat) (κ : CS) (X : XT) (cs : Nat → CT) (lf : Nat → Int64) (pr : PT)  (c1 : CT) (xc : Int32) (dy : Int32) (htr : l.stackTraces = false) (hS : ShX κ X) (hI : InvM κ) (hC1 : ShC κ c1) : vx_Met l yX6_goodChainsByWalks (wsA yX6_goodChainsByWalks cX6_goodChainsByWalks 4 (some .int)) ({ frames := 12, cells := 2, slots := 12, locals := 324 } : Room) (va_Pc [.ref (ad 0 0), .int xc, .int dy] (PRE D g A (iW ad g κ X (upc cs 1 c1) lf pr))) (va_Qi (fun (r : Int32) (_ : Unit) => ((ocH κ X c1 xc dy)).1 = 0 ∧ r = ((ocH κ X c1 xc dy)).2) (fun _ => PO D A (iW ad g κ X (upc cs 1 ((gwK2 κ X c1 (xj xc) dy).2)) lf pr)) A) (XQ (fun E => thrE [nsE, "java/lang/IllegalArgumentException"] ((ocH κ X c1 xc dy)).1 E) D A (iW ad g κ X (upc cs 1 c1) lf pr)) 2 12 A := by
  have hn := hS.1
  refine metX (by decide) (Nat.le_of_ble_eq_true rfl) ?_
  intro p e s m args below meth c _ hex cx
  refine J_aload_n cx dX6_goodChainsByWalks_0 rfl 0 rfl ?_
  refine J_iload_n cx dX6_goodChainsByWalks_1 rfl 1 rfl ?_
  refine J_xcallVq cx hex kX6_73 (As := [.int xc]) (tX6_find l D g A ad κ X (upc cs 1 c1) lf pr  xc htr hS) (fun E h => by obtain ⟨h1, h2⟩ := h; subst h2; exact ⟨by simp [ocH, wrongC, xj, h1, true_and], by simp [ocH, wrongC, xj, h1, true_and]⟩) ⟨by decide, by decide⟩ ⟨rfl, rfl, (by first | decide | (simp only [rmJ, rmL]; omega)), (by first | decide | (simp only [rmJ, rmL]; omega))⟩ ⟨(by first | decide | (simp only [rmJ, rmL]; omega)), (by first | decide | (simp only [rmJ, rmL]; omega))⟩ rfl 0 rfl rfl rfl (Nat.le_of_ble_eq_true rfl) dX6_goodChainsByWalks_2 ?_
  intro _ j hr; obtain ⟨hj, hxj, hr⟩ := hr; subst hr; subst hxj
  refine J_top (v' := .ref (ad 1 j)) rfl ?_
  have hjR : inR (κ.2.2.1 0) (nI j) = true := by rw [inR_nI (by omega)]; exact decide_eq_true hj
  have hjc : (nI j).toNatClampNeg = j := nI_clamp (by omega)
  refine J_astore_n cx (L' := [(3, .ref (ad 1 j)), (0, .ref (ad 0 0)), (1, .int (nI j)), (2, .int dy)]) dX6_goodChainsByWalks_5 rfl (by decide) rfl ?_
  refine J_iload_n cx dX6_goodChainsByWalks_6 rfl 3 rfl ?_
  refine J_xcallSv cx hex kX6_166 (As := [.int dy]) (tX6_requireDay l D g A ad κ X (upc cs 1 c1) lf pr  dy htr ) (fun E h => by obtain ⟨h1, h2⟩ := h; subst h2; exact ⟨by simp [ocH, wrongC, xj, h1, hjR, hjc], by simp [ocH, wrongC, xj, h1, hjR, hjc]⟩) ⟨by decide, by decide⟩ ⟨rfl, rfl, (by first | decide | (simp only [rmJ, rmL]; omega)), (by first | decide | (simp only [rmJ, rmL]; omega))⟩ ⟨(by first | decide | (simp only [rmJ, rmL]; omega)), (by first | decide | (simp only [rmJ, rmL]; omega))⟩ rfl rfl (Nat.le_of_ble_eq_true rfl) dX6_goodChainsByWalks_7 ?_
  intro _ hr
  have hdz := hr
  refine J_aload_n cx dX6_goodChainsByWalks_10 rfl 0 rfl ?_
  refine J_iload_n cx dX6_goodChainsByWalks_11 rfl 3 rfl ?_
  refine J_callVi cx kX6_206 (As := [.int dy]) (tX0_refusalOn l D g A ad κ X (upc cs 1 c1) lf pr  j dy hj) ⟨rfl, rfl, (by first | decide | (simp only [rmJ, rmL]; omega)), (by first | decide | (simp only [rmJ, rmL]; omega))⟩ ⟨(by first | decide | (simp only [rmJ, rmL]; omega)), (by first | decide | (simp only [rmJ, rmL]; omega))⟩ rfl (17 + j) (iG_c (by first | assumption | omega)) rfl rfl (Nat.le_of_ble_eq_true rfl) dX6_goodChainsByWalks_12 ?_
  intro _ _ hr; cases hr
  have hrl := rfI_le κ j dy
  refine J_bipush cx (v := nI 111) dX6_goodChainsByWalks_15 (by decide) ?_
  refine J_icmp_eq cx (tgt := 22) dX6_goodChainsByWalks_17 (by decide) (fun c_1 => ?_) (fun c_1 => ?_)
  · have c_1 := (nat_ic_eq (by omega) (by omega)).mp c_1
    have c_1d := decide_eq_true c_1
    refine J_aload_n cx dX6_goodChainsByWalks_22 rfl 1 rfl ?_
    refine J_get cx (v := .ref (ad 0 13)) fX6_36 0 rfl rfl dX6_goodChainsByWalks_23 ?_
    refine J_aload_n cx dX6_goodChainsByWalks_26 rfl 0 rfl ?_
    refine J_iload_n cx dX6_goodChainsByWalks_27 rfl 3 rfl ?_
    refine J_callVv cx kX6_198 (As := [.ref (ad 1 j), .int dy]) (tX1_restart l D g A ad κ X cs lf pr  1 c1 j dy (by decide) hj) ⟨rfl, rfl, (by first | decide | (simp only [rmJ, rmL]; omega)), (by first | decide | (simp only [rmJ, rmL]; omega))⟩ ⟨(by first | decide | (simp only [rmJ, rmL]; omega)), (by first | decide | (simp only [rmJ, rmL]; omega))⟩ rfl (11 + 2 * 1) (iG_ch (by decide)) rfl rfl (Nat.le_of_ble_eq_true rfl) dX6_goodChainsByWalks_28 ?_
    intro _ _
    refine J_aload_n cx dX6_goodChainsByWalks_31 rfl 1 rfl ?_
    refine J_get cx (v := .ref (ad 0 13)) fX6_36 0 rfl rfl dX6_goodChainsByWalks_32 ?_
    refine J_callSi cx kX6_210 (As := [.ref (ad 0 13)]) (tX6_countLengthened l D g A ad κ X cs lf pr hI hS 7 (va_up c1.1 0 (some j), 1, dy) (restart_ok hC1 hj) (Nat.le_refl 1) (show 1 + 7 = 8 by decide)) ⟨rfl, rfl, (by first | decide | (simp only [rmJ, rmL]; omega)), (by first | decide | (simp only [rmJ, rmL]; omega))⟩ ⟨(by first | decide | (simp only [rmJ, rmL]; omega)), (by first | decide | (simp only [rmJ, rmL]; omega))⟩ rfl rfl (Nat.le_of_ble_eq_true rfl) dX6_goodChainsByWalks_35 ?_
    intro _ _ hr; cases hr
    refine J_x ?_
    exact J_iret cx rfl (u := ()) ⟨by simp [ocH, wrongC, xj, hjR, hjc, hdz, c_1d], by have q := show gwK2 κ X c1 j dy = clK κ X 7 (va_up c1.1 0 (some j), 1, dy) from (by unfold gwK2; rw [decide_eq_true c_1]; rfl); simp [ocH, wrongC, xj, hjR, hjc, hdz, q]⟩ (by rw [show xj (nI j) = j from hjc, show gwK2 κ X c1 j dy = clK κ X 7 (va_up c1.1 0 (some j), 1, dy) from (by unfold gwK2; rw [decide_eq_true c_1]; rfl)]) (Nat.le_of_ble_eq_true rfl) (Nat.le_of_ble_eq_true rfl) dX6_goodChainsByWalks_38
  · have c_1 := (nat_ic_eq_f (by omega) (by omega)).mp c_1
    have c_1d := decide_eq_false c_1
    refine J_iconst cx (v := nI 0) dX6_goodChainsByWalks_20 (by decide) ?_
    refine J_x ?_
    exact J_iret cx rfl (u := ()) ⟨by simp [ocH, wrongC, xj, hjR, hjc, hdz, c_1, c_1d], by have q := show gwK2 κ X c1 j dy = (0, c1) from (by unfold gwK2; rw [decide_eq_false c_1]; rfl); simp [ocH, wrongC, xj, hjR, hjc, hdz, q]⟩ (by rw [show xj (nI j) = j from hjc, show gwK2 κ X c1 j dy = (0, c1) from (by unfold gwK2; rw [decide_eq_false c_1]; rfl)]) (Nat.le_of_ble_eq_true rfl) (Nat.le_of_ble_eq_true rfl) dX6_goodChainsByWalks_21
set_option maxHeartbeats 4000000 in
set_option maxRecDepth 100000 in
theorem tX6_meanChain (l : Launch) (D : va_G) (g : Nat → ClassId) (A : Nat → Prop) (ad : Nat → Nat → Nat) (κ : CS) (X : XT) (cs : Nat → CT) (lf : Nat → Int64) (pr : PT)  (c1 c2 : CT)  (htr : l.stackTraces = false) (hS : ShX κ X) (hI : InvM κ) (hC1 : ShC κ c1) (hC2 : ShC κ c2) : vx_Met l yX6_meanChain (wsA yX6_meanChain cX6_meanChain 8 (some .double)) ({ frames := 13, cells := 1, slots := 6, locals := 346 } : Room) (va_Pc [.ref (ad 0 0)] (PRE D g A (iW ad g κ X (upc (upc cs 1 c1) 2 c2) lf pr))) (va_Qd (fun (r : UInt64) (_ : Unit) => ¬ (mcC κ X c1 c2 (κ.2.2.1 0)).2.1 = 0 ∧ r = FP.ddiv (FP.i2d (nI (mcC κ X c1 c2 (κ.2.2.1 0)).1)) (FP.i2d (nI (mcC κ X c1 c2 (κ.2.2.1 0)).2.1))) (fun _ => PO D A (iW ad g κ X (upc (upc cs 1 ((mcC κ X c1 c2 (κ.2.2.1 0)).2.2.1)) 2 ((mcC κ X c1 c2 (κ.2.2.1 0)).2.2.2)) lf pr)) A) (XQ (fun E => (mcC κ X c1 c2 (κ.2.2.1 0)).2.1 = 0 ∧ E = "java/lang/ArithmeticException") D A (iW ad g κ X (upc (upc cs 1 (mcC κ X c1 c2 (κ.2.2.1 0)).2.2.1) 2 (mcC κ X c1 c2 (κ.2.2.1 0)).2.2.2) lf pr)) 1 6 A := by
  have hn := hS.1
  refine metX (by decide) (Nat.le_of_ble_eq_true rfl) ?_
  intro p e s m args below meth c _ hex cx
  refine J_iconst cx (v := nI 0) dX6_meanChain_0 (by decide) ?_
  refine J_istore_n cx (L' := [(1, .int (nI 0)), (0, .ref (ad 0 0))]) dX6_meanChain_1 rfl (by decide) rfl ?_
  refine J_iconst cx (v := nI 0) dX6_meanChain_2 (by decide) ?_
  refine J_istore_n cx (L' := [(2, .int (nI 0)), (1, .int (nI 0)), (0, .ref (ad 0 0))]) dX6_meanChain_3 rfl (by decide) rfl ?_
  refine J_ws (ws' := (iW ad g κ X (upc (upc cs 1 ((mcC κ X c1 c2 (min 0 (κ.2.2.1 0))).2.2.1)) 2 ((mcC κ X c1 c2 (min 0 (κ.2.2.1 0))).2.2.2)) lf pr)) (by rw [Nat.zero_min]; rfl) ?_
  refine J_Le (L' := [(2, .int (nI (mcC κ X c1 c2 (min 0 (κ.2.2.1 0))).2.1)), (1, .int (nI (mcC κ X c1 c2 (min 0 (κ.2.2.1 0))).1)), (0, .ref (ad 0 0))]) (by rw [Nat.zero_min]; rfl) ?_
  refine J_aload_n cx dX6_meanChain_4 rfl 2 rfl ?_
  refine J_get cx (v := .ref (ad 0 1)) fX6_11 0 rfl rfl dX6_meanChain_5 ?_
  refine J_astore_n cx (L' := [(3, .ref (ad 0 1)), (2, .int (nI (mcC κ X c1 c2 (min 0 (κ.2.2.1 0))).2.1)), (1, .int (nI (mcC κ X c1 c2 (min 0 (κ.2.2.1 0))).1)), (0, .ref (ad 0 0))]) dX6_meanChain_8 rfl (by decide) rfl ?_
  refine J_aload_n cx dX6_meanChain_9 rfl 0 rfl ?_
  refine J_alen cx (v := nI 40) 1 rfl (t0 := 3) rfl rfl dX6_meanChain_10 ?_
  refine J_istore cx (L' := [(4, .int (nI 40)), (3, .ref (ad 0 1)), (2, .int (nI (mcC κ X c1 c2 (min 0 (κ.2.2.1 0))).2.1)), (1, .int (nI (mcC κ X c1 c2 (min 0 (κ.2.2.1 0))).1)), (0, .ref (ad 0 0))]) dX6_meanChain_11 (by decide) rfl ?_
  refine J_iconst cx (v := nI 0) dX6_meanChain_13 (by decide) ?_
  refine J_istore cx (L' := [(5, .int (nI 0)), (4, .int (nI 40)), (3, .ref (ad 0 1)), (2, .int (nI (mcC κ X c1 c2 (min 0 (κ.2.2.1 0))).2.1)), (1, .int (nI (mcC κ X c1 c2 (min 0 (κ.2.2.1 0))).1)), (0, .ref (ad 0 0))]) dX6_meanChain_14 (by decide) rfl ?_
  have LP : ∀ (fu : Nat) (k : Nat), (k ≤ 40) → 40 - k < fu → J p l e ({ frames := 13, cells := 1, slots := 6, locals := 346 } : Room) s m args below meth c D A 8 (vx_MQ below (va_Qd (fun (r : UInt64) (_ : Unit) => ¬ (mcC κ X c1 c2 (κ.2.2.1 0)).2.1 = 0 ∧ r = FP.ddiv (FP.i2d (nI (mcC κ X c1 c2 (κ.2.2.1 0)).1)) (FP.i2d (nI (mcC κ X c1 c2 (κ.2.2.1 0)).2.1))) (fun _ => PO D A (iW ad g κ X (upc (upc cs 1 ((mcC κ X c1 c2 (κ.2.2.1 0)).2.2.1)) 2 ((mcC κ X c1 c2 (κ.2.2.1 0)).2.2.2)) lf pr)) A) (XQ (fun E => (mcC κ X c1 c2 (κ.2.2.1 0)).2.1 = 0 ∧ E = "java/lang/ArithmeticException") D A (iW ad g κ X (upc (upc cs 1 (mcC κ X c1 c2 (κ.2.2.1 0)).2.2.1) 2 (mcC κ X c1 c2 (κ.2.2.1 0)).2.2.2) lf pr)) args s 1 6 A) 0 0 (iW ad g κ X (upc (upc cs 1 ((mcC κ X c1 c2 (min k (κ.2.2.1 0))).2.2.1)) 2 ((mcC κ X c1 c2 (min k (κ.2.2.1 0))).2.2.2)) lf pr) [(1, .int (nI (mcC κ X c1 c2 (min k (κ.2.2.1 0))).1)), (2, .int (nI (mcC κ X c1 c2 (min k (κ.2.2.1 0))).2.1)), (3, .ref (ad 0 1)), (4, .int (nI 40)), (5, .int (nI k)), (0, .ref (ad 0 0))] 16 [] := by
    intro fu; induction fu with
    | zero => intro k hk hfu; exact absurd hfu (Nat.not_lt_zero _)
    | succ fu ih =>
      intro k hk hfu
      have hmk := mcC_ok hI hS hC1 hC2 (min k (κ.2.2.1 0)) (by omega)
      refine J_iload cx dX6_meanChain_16 4 rfl ?_
      refine J_iload cx dX6_meanChain_18 3 rfl ?_
      refine J_icmp_ge cx (tgt := 69) dX6_meanChain_20 (by decide) (fun c_1 => ?_) (fun c_1 => ?_)
      · have c_1 := (nat_ic_ge (by omega) (by omega)).mp c_1
        have c_1d := decide_eq_true c_1
        have hk40 : min k (κ.2.2.1 0) = κ.2.2.1 0 := by omega
        have hmo := mcC_ok hI hS hC1 hC2 (κ.2.2.1 0) (Nat.le_refl _)
        refine J_Le (L' := [(1, .int (nI (mcC κ X c1 c2 (κ.2.2.1 0)).1)), (2, .int (nI (mcC κ X c1 c2 (κ.2.2.1 0)).2.1)), (3, .ref (ad 0 1)), (4, .int (nI 40)), (5, .int (nI k)), (0, .ref (ad 0 0))]) (by rw [hk40]) ?_
        refine J_ws (ws' := (iW ad g κ X (upc (upc cs 1 ((mcC κ X c1 c2 (κ.2.2.1 0)).2.2.1)) 2 ((mcC κ X c1 c2 (κ.2.2.1 0)).2.2.2)) lf pr)) (by rw [hk40]) ?_
        refine J_iload_n cx dX6_meanChain_69 rfl 1 rfl ?_
        refine J_if_ne cx (tgt := 84) dX6_meanChain_70 (by decide) (fun c_2 => ?_) (fun c_2 => ?_)
        · have c_2 := (nat_if_ne (by omega)).mp c_2
          have c_2d := decide_eq_false c_2
          refine J_iload_n cx dX6_meanChain_84 rfl 0 rfl ?_
          refine J_i2d cx dX6_meanChain_85 ?_
          refine J_iload_n cx dX6_meanChain_86 rfl 1 rfl ?_
          refine J_i2d cx dX6_meanChain_87 ?_
          refine J_ddiv cx dX6_meanChain_88 (by exact ddiv_ok _ (by omega) _ (by omega) (by omega)) ?_
          refine J_x ?_
          exact J_dret cx rfl (u := ()) ⟨by omega, rfl⟩ rfl (Nat.le_of_ble_eq_true rfl) (Nat.le_of_ble_eq_true rfl) dX6_meanChain_89
        · have c_2 := (nat_if_ne_f (by omega)).mp c_2
          have c_2d := decide_eq_true c_2
          exact J_throw cx hex htr rfl th_267 (List.mem_of_getElem? (i := 17) rfl) ⟨by omega, rfl⟩ dX6_meanChain_73 dX6_meanChain_76 (Or.inr ⟨dX6_meanChain_77, dX6_meanChain_80, dX6_meanChain_83⟩) ⟨by decide, by decide, by decide, by decide⟩ ⟨by decide, by decide⟩
      · have c_1 := (nat_ic_ge_f (by omega) (by omega)).mp c_1
        have c_1d := decide_eq_false (Nat.not_le.mpr c_1)
        refine J_aload_n cx dX6_meanChain_23 rfl 2 rfl ?_
        refine J_iload cx dX6_meanChain_24 4 rfl ?_
        refine J_aald cx (j := k) (f := rfa ad (made (κ.2.2.1 0))) 1 rfl rfl (by omega) (by decide) dX6_meanChain_26 ?_
        refine J_astoreq cx (L' := [(6, va_rf (rfa ad (made (κ.2.2.1 0)) k)), (1, .int (nI (mcC κ X c1 c2 (min k (κ.2.2.1 0))).1)), (2, .int (nI (mcC κ X c1 c2 (min k (κ.2.2.1 0))).2.1)), (3, .ref (ad 0 1)), (4, .int (nI 40)), (5, .int (nI k)), (0, .ref (ad 0 0))]) dX6_meanChain_27 (by decide) rfl ?_
        refine J_aloadq cx dX6_meanChain_29 0 rfl ?_
        refine J_ifnonnull cx (tgt := 38) dX6_meanChain_31 (by decide) (fun y_4 c_3 => ?_) (fun c_3 => ?_)
        · have c_3v := c_3
          obtain ⟨i, him, hiy⟩ := rfa_some c_3; obtain ⟨hi, hie⟩ := made_some him; have hie := hie.symm; subst hie; subst hiy
          refine J_Le (L' := [(6, .ref (ad 1 k)), (1, .int (nI (mcC κ X c1 c2 (min k (κ.2.2.1 0))).1)), (2, .int (nI (mcC κ X c1 c2 (min k (κ.2.2.1 0))).2.1)), (3, .ref (ad 0 1)), (4, .int (nI 40)), (5, .int (nI k)), (0, .ref (ad 0 0))]) (by rw [c_3v]; rfl) ?_
          refine J_aload_n cx dX6_meanChain_38 rfl 6 rfl ?_
          refine J_aload cx dX6_meanChain_39 0 rfl ?_
          refine J_aload_n cx dX6_meanChain_41 rfl 6 rfl ?_
          refine J_get cx (v := .int (nI (κ.2.2.1 2))) fX6_49 0 rfl rfl dX6_meanChain_42 ?_
          refine J_ws (ws' := (iW ad g κ X (upc (upc cs 2 ((mcC κ X c1 c2 (min k (κ.2.2.1 0))).2.2.2)) 1 ((mcC κ X c1 c2 (min k (κ.2.2.1 0))).2.2.1)) lf pr)) (by rw [upc_comm (by decide)]) ?_
          refine J_ws (ws' := (iW ad g κ X (upc (upc cs 1 ((mcC κ X c1 c2 (min k (κ.2.2.1 0))).2.2.1)) 2 ((mcC κ X c1 c2 (min k (κ.2.2.1 0))).2.2.2)) lf pr)) (by rw [upc_comm (by decide)]) ?_
          refine J_callVi cx kX6_186 (As := [.ref (ad 1 k), .int (nI (κ.2.2.1 2))]) (tX6_sizeOfBest l D g A ad κ X cs lf pr  ((mcC κ X c1 c2 (min k (κ.2.2.1 0))).2.2.1) ((mcC κ X c1 c2 (min k (κ.2.2.1 0))).2.2.2) k (nI (κ.2.2.1 2)) hI hS hmk.1 hmk.2.1 hi) ⟨rfl, rfl, (by first | decide | (simp only [rmB]; omega)), (by first | decide | (simp only [rmB]; omega))⟩ ⟨(by first | decide | (simp only [rmB]; omega)), (by first | decide | (simp only [rmB]; omega))⟩ rfl 0 rfl rfl rfl (Nat.le_of_ble_eq_true rfl) dX6_meanChain_45 ?_
          intro _ _ hr; cases hr
          refine J_istore cx (L' := [(7, .int (nI (sbK κ X k (nI (κ.2.2.1 2)) ((mcC κ X c1 c2 (min k (κ.2.2.1 0))).2.2.1) ((mcC κ X c1 c2 (min k (κ.2.2.1 0))).2.2.2)).2.2.1)), (6, .ref (ad 1 k)), (1, .int (nI (mcC κ X c1 c2 (min k (κ.2.2.1 0))).1)), (2, .int (nI (mcC κ X c1 c2 (min k (κ.2.2.1 0))).2.1)), (3, .ref (ad 0 1)), (4, .int (nI 40)), (5, .int (nI k)), (0, .ref (ad 0 0))]) dX6_meanChain_48 (by decide) rfl ?_
          have hsk := sbK_ok (X := X) (d := nI (κ.2.2.1 2)) hI hS hi hmk.1 hmk.2.1
          have hsz := hsk.2.1
          refine J_iload cx dX6_meanChain_50 0 rfl ?_
          refine J_if_le cx (tgt := 63) dX6_meanChain_52 (by decide) (fun c_5 => ?_) (fun c_5 => ?_)
          · have c_5 := (nat_if_le (by omega)).mp c_5
            have hms := mcC_t (κ := κ) (X := X) (t := c1) (b := c2) hi
            rw [decide_eq_false (show ¬ 0 < (sbK κ X k (nI (κ.2.2.1 2)) (mcC κ X c1 c2 (min k (κ.2.2.1 0))).2.2.1 (mcC κ X c1 c2 (min k (κ.2.2.1 0))).2.2.2).2.2.1 by omega), show (sbK κ X k (nI (κ.2.2.1 2)) (mcC κ X c1 c2 (min k (κ.2.2.1 0))).2.2.1 (mcC κ X c1 c2 (min k (κ.2.2.1 0))).2.2.2).2.2.1 = 0 by omega] at hms
            refine J_Le (L' := [(7, .int (nI (sbK κ X k (nI (κ.2.2.1 2)) ((mcC κ X c1 c2 (min k (κ.2.2.1 0))).2.2.1) ((mcC κ X c1 c2 (min k (κ.2.2.1 0))).2.2.2)).2.2.1)), (6, .ref (ad 1 k)), (1, .int (nI (mcC κ X c1 c2 (min (k + 1) (κ.2.2.1 0))).1)), (2, .int (nI (mcC κ X c1 c2 (min (k + 1) (κ.2.2.1 0))).2.1)), (3, .ref (ad 0 1)), (4, .int (nI 40)), (5, .int (nI k)), (0, .ref (ad 0 0))]) (by rw [hms]; try rfl) ?_
            refine J_ws (ws' := (iW ad g κ X (upc (upc cs 1 ((mcC κ X c1 c2 (min (k + 1) (κ.2.2.1 0))).2.2.1)) 2 ((mcC κ X c1 c2 (min (k + 1) (κ.2.2.1 0))).2.2.2)) lf pr)) (by rw [hms]; try rfl) ?_
            refine J_iinc cx (v := (nI (k + 1))) (L' := [(5, .int (nI (k + 1))), (7, .int (nI (sbK κ X k (nI (κ.2.2.1 2)) ((mcC κ X c1 c2 (min k (κ.2.2.1 0))).2.2.1) ((mcC κ X c1 c2 (min k (κ.2.2.1 0))).2.2.2)).2.2.1)), (6, .ref (ad 1 k)), (1, .int (nI (mcC κ X c1 c2 (min (k + 1) (κ.2.2.1 0))).1)), (2, .int (nI (mcC κ X c1 c2 (min (k + 1) (κ.2.2.1 0))).2.1)), (3, .ref (ad 0 1)), (4, .int (nI 40)), (0, .ref (ad 0 0))]) dX6_meanChain_63 6 rfl (by exact nI_add k 1) (by decide) rfl ?_
            refine J_goto cx (tgt := 16) dX6_meanChain_66 (by decide) ?_
            refine J_L [3, 4, 5, 6, 0, 7] rfl ?_
            exact ih (k + 1) (by omega) (by omega)
          · have c_5 := (nat_if_le_f (by omega)).mp c_5
            refine J_iload_n cx dX6_meanChain_55 rfl 2 rfl ?_
            refine J_iload cx dX6_meanChain_56 0 rfl ?_
            refine J_iadd cx dX6_meanChain_58 ?_
            refine J_top (v' := .int (nI ((mcC κ X c1 c2 (min k (κ.2.2.1 0))).1 + (sbK κ X k (nI (κ.2.2.1 2)) ((mcC κ X c1 c2 (min k (κ.2.2.1 0))).2.2.1) ((mcC κ X c1 c2 (min k (κ.2.2.1 0))).2.2.2)).2.2.1))) (congrArg Value.int (nI_add ((mcC κ X c1 c2 (min k (κ.2.2.1 0))).1) ((sbK κ X k (nI (κ.2.2.1 2)) ((mcC κ X c1 c2 (min k (κ.2.2.1 0))).2.2.1) ((mcC κ X c1 c2 (min k (κ.2.2.1 0))).2.2.2)).2.2.1))) ?_
            refine J_istore_n cx (L' := [(1, .int (nI ((mcC κ X c1 c2 (min k (κ.2.2.1 0))).1 + (sbK κ X k (nI (κ.2.2.1 2)) ((mcC κ X c1 c2 (min k (κ.2.2.1 0))).2.2.1) ((mcC κ X c1 c2 (min k (κ.2.2.1 0))).2.2.2)).2.2.1))), (7, .int (nI (sbK κ X k (nI (κ.2.2.1 2)) ((mcC κ X c1 c2 (min k (κ.2.2.1 0))).2.2.1) ((mcC κ X c1 c2 (min k (κ.2.2.1 0))).2.2.2)).2.2.1)), (6, .ref (ad 1 k)), (2, .int (nI (mcC κ X c1 c2 (min k (κ.2.2.1 0))).2.1)), (3, .ref (ad 0 1)), (4, .int (nI 40)), (5, .int (nI k)), (0, .ref (ad 0 0))]) dX6_meanChain_59 rfl (by decide) rfl ?_
            refine J_iinc cx (v := (nI ((mcC κ X c1 c2 (min k (κ.2.2.1 0))).2.1 + 1))) (L' := [(2, .int (nI ((mcC κ X c1 c2 (min k (κ.2.2.1 0))).2.1 + 1))), (1, .int (nI ((mcC κ X c1 c2 (min k (κ.2.2.1 0))).1 + (sbK κ X k (nI (κ.2.2.1 2)) ((mcC κ X c1 c2 (min k (κ.2.2.1 0))).2.2.1) ((mcC κ X c1 c2 (min k (κ.2.2.1 0))).2.2.2)).2.2.1))), (7, .int (nI (sbK κ X k (nI (κ.2.2.1 2)) ((mcC κ X c1 c2 (min k (κ.2.2.1 0))).2.2.1) ((mcC κ X c1 c2 (min k (κ.2.2.1 0))).2.2.2)).2.2.1)), (6, .ref (ad 1 k)), (3, .ref (ad 0 1)), (4, .int (nI 40)), (5, .int (nI k)), (0, .ref (ad 0 0))]) dX6_meanChain_60 3 rfl (by exact nI_add ((mcC κ X c1 c2 (min k (κ.2.2.1 0))).2.1) 1) (by decide) rfl ?_
            have hms := mcC_t (κ := κ) (X := X) (t := c1) (b := c2) hi
            rw [decide_eq_true (show 0 < (sbK κ X k (nI (κ.2.2.1 2)) (mcC κ X c1 c2 (min k (κ.2.2.1 0))).2.2.1 (mcC κ X c1 c2 (min k (κ.2.2.1 0))).2.2.2).2.2.1 by omega)] at hms
            refine J_Le (L' := [(2, .int (nI (mcC κ X c1 c2 (min (k + 1) (κ.2.2.1 0))).2.1)), (1, .int (nI (mcC κ X c1 c2 (min (k + 1) (κ.2.2.1 0))).1)), (7, .int (nI (sbK κ X k (nI (κ.2.2.1 2)) ((mcC κ X c1 c2 (min k (κ.2.2.1 0))).2.2.1) ((mcC κ X c1 c2 (min k (κ.2.2.1 0))).2.2.2)).2.2.1)), (6, .ref (ad 1 k)), (3, .ref (ad 0 1)), (4, .int (nI 40)), (5, .int (nI k)), (0, .ref (ad 0 0))]) (by rw [hms]; try rfl) ?_
            refine J_ws (ws' := (iW ad g κ X (upc (upc cs 1 ((mcC κ X c1 c2 (min (k + 1) (κ.2.2.1 0))).2.2.1)) 2 ((mcC κ X c1 c2 (min (k + 1) (κ.2.2.1 0))).2.2.2)) lf pr)) (by rw [hms]; try rfl) ?_
            refine J_iinc cx (v := (nI (k + 1))) (L' := [(5, .int (nI (k + 1))), (2, .int (nI (mcC κ X c1 c2 (min (k + 1) (κ.2.2.1 0))).2.1)), (1, .int (nI (mcC κ X c1 c2 (min (k + 1) (κ.2.2.1 0))).1)), (7, .int (nI (sbK κ X k (nI (κ.2.2.1 2)) ((mcC κ X c1 c2 (min k (κ.2.2.1 0))).2.2.1) ((mcC κ X c1 c2 (min k (κ.2.2.1 0))).2.2.2)).2.2.1)), (6, .ref (ad 1 k)), (3, .ref (ad 0 1)), (4, .int (nI 40)), (0, .ref (ad 0 0))]) dX6_meanChain_63 6 rfl (by exact nI_add k 1) (by decide) rfl ?_
            refine J_goto cx (tgt := 16) dX6_meanChain_66 (by decide) ?_
            refine J_L [2, 1, 5, 6, 0, 7] rfl ?_
            exact ih (k + 1) (by omega) (by omega)
        · refine J_Le (L' := [(6, va_rf none), (1, .int (nI (mcC κ X c1 c2 (min k (κ.2.2.1 0))).1)), (2, .int (nI (mcC κ X c1 c2 (min k (κ.2.2.1 0))).2.1)), (3, .ref (ad 0 1)), (4, .int (nI 40)), (5, .int (nI k)), (0, .ref (ad 0 0))]) (by rw [c_3]) ?_
          have hno := made_none (rfa_none c_3)
          refine J_iconst cx (v := nI 0) dX6_meanChain_34 (by decide) ?_
          refine J_goto cx (tgt := 48) dX6_meanChain_35 (by decide) ?_
          refine J_istore cx (L' := [(7, .int (nI 0)), (6, va_rf none), (1, .int (nI (mcC κ X c1 c2 (min k (κ.2.2.1 0))).1)), (2, .int (nI (mcC κ X c1 c2 (min k (κ.2.2.1 0))).2.1)), (3, .ref (ad 0 1)), (4, .int (nI 40)), (5, .int (nI k)), (0, .ref (ad 0 0))]) dX6_meanChain_48 (by decide) rfl ?_
          refine J_iload cx dX6_meanChain_50 0 rfl ?_
          refine J_if_le cx (tgt := 63) dX6_meanChain_52 (by decide) (fun _ => ?_) (fun h => absurd h (by decide))
          have hms : mcC κ X c1 c2 (min (k + 1) (κ.2.2.1 0)) = mcC κ X c1 c2 (min k (κ.2.2.1 0)) := (mcC_f hno).symm
          refine J_Le (L' := [(7, .int (nI 0)), (6, va_rf none), (1, .int (nI (mcC κ X c1 c2 (min (k + 1) (κ.2.2.1 0))).1)), (2, .int (nI (mcC κ X c1 c2 (min (k + 1) (κ.2.2.1 0))).2.1)), (3, .ref (ad 0 1)), (4, .int (nI 40)), (5, .int (nI k)), (0, .ref (ad 0 0))]) (by rw [hms]; try rfl) ?_
          refine J_ws (ws' := (iW ad g κ X (upc (upc cs 1 ((mcC κ X c1 c2 (min (k + 1) (κ.2.2.1 0))).2.2.1)) 2 ((mcC κ X c1 c2 (min (k + 1) (κ.2.2.1 0))).2.2.2)) lf pr)) (by rw [hms]; try rfl) ?_
          refine J_iinc cx (v := (nI (k + 1))) (L' := [(5, .int (nI (k + 1))), (7, .int (nI 0)), (6, va_rf none), (1, .int (nI (mcC κ X c1 c2 (min (k + 1) (κ.2.2.1 0))).1)), (2, .int (nI (mcC κ X c1 c2 (min (k + 1) (κ.2.2.1 0))).2.1)), (3, .ref (ad 0 1)), (4, .int (nI 40)), (0, .ref (ad 0 0))]) dX6_meanChain_63 6 rfl (by exact nI_add k 1) (by decide) rfl ?_
          refine J_goto cx (tgt := 16) dX6_meanChain_66 (by decide) ?_
          refine J_L [3, 4, 5, 6, 0, 7] rfl ?_
          exact ih (k + 1) (by omega) (by omega)
  refine J_L [4, 3, 2, 1, 0, 5] rfl ?_
  exact LP _ 0 (by omega) (Nat.lt_succ_self _)
