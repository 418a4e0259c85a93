/-- the walk of the class is the walk of the state -/
def WLK (κ : CS) (ct : CT) : Prop := ShC κ ct ∧ ct.2.1 = κ.2.2.1 3 ∧ ct.2.2 = κ.2.2.2.2 ∧ ∀ r, r < κ.2.2.1 3 → ct.1 r = some (κ.2.2.2.1 r)
theorem lastC_w0 {κ : CS} {ct : CT} (h : WLK κ ct) (h0 : κ.2.2.1 3 = 0) : lastC ct = none := by unfold lastC; rw [h.2.1, if_pos h0]
theorem lastC_w1 {κ : CS} {ct : CT} (h : WLK κ ct) (h0 : ¬ κ.2.2.1 3 = 0) : lastC ct = some (κ.2.2.2.1 (κ.2.2.1 3 - 1)) := by unfold lastC; rw [h.2.1, if_neg h0, h.2.2.2 _ (by omega)]
theorem lastC_n {κ : CS} {ct : CT} (h : WLK κ ct) (hl : lastC ct = none) : κ.2.2.1 3 = 0 := by
  by_cases h0 : κ.2.2.1 3 = 0
  · exact h0
  · rw [lastC_w1 h h0] at hl; cases hl
theorem lastC_s {κ : CS} {ct : CT} {k : Nat} (h : WLK κ ct) (hl : lastC ct = some k) : ¬ κ.2.2.1 3 = 0 ∧ k = κ.2.2.2.1 (κ.2.2.1 3 - 1) := by
  by_cases h0 : κ.2.2.1 3 = 0
  · rw [lastC_w0 h h0] at hl; cases hl
  · rw [lastC_w1 h h0] at hl; cases hl; exact ⟨h0, rfl⟩
theorem thC_w {κ : CS} {X : XT} {ct : CT} (hT : TIE κ X) (h : WLK κ ct) : thC κ X ct = thrB κ := by
  by_cases h0 : κ.2.2.1 3 = 0
  · rw [thC_none (lastC_w0 h h0)]; unfold thrB; rw [decide_eq_true h0]; rfl
  · have hk := lastC_w1 h h0
    rw [thC_some hk, ← (hT _ (lastC_lt h.1 hk)).1]; unfold thrB; rw [decide_eq_false h0]; rfl
theorem refC_congr {κ : CS} {wy wy' : Nat → Nat} {sz nx : Nat} {on : Int32} (h : ∀ r, r < sz → wy r = wy' r) : refC κ wy sz nx on = refC κ wy' sz nx on := by
  unfold refC fitsB
  rw [anyN_congr (q := inW wy' nx) (fun k hk => by unfold inW; rw [h k hk]), allN_congr (q := fun k => okN κ nx (wy' k)) (fun k hk => by rw [h k hk])]
theorem wyO_w {κ : CS} {ct : CT} (h : WLK κ ct) : ∀ r, r < κ.2.2.1 3 → wyO ct r = κ.2.2.2.1 r := fun r hr => by unfold wyO; rw [h.2.2.2 r hr]; rfl
theorem refC_w {κ : CS} {ct : CT} (h : WLK κ ct) (nx : Nat) : refC κ (wyO ct) ct.2.1 nx ct.2.2 = refC κ κ.2.2.2.1 (κ.2.2.1 3) nx κ.2.2.2.2 := by
  rw [h.2.1, h.2.2.1]; exact refC_congr (wyO_w h)
set_option maxHeartbeats 4000000 in
set_option maxRecDepth 100000 in
theorem tX6_requireReached (l : Launch) (D : va_G) (g : Nat → ClassId) (A : Nat → Prop) (ad : Nat → Nat → Nat) (κ : CS) (X : XT) (cs : Nat → CT) (lf : Nat → Int64) (pr : PT)  (c0 : CT)  (htr : l.stackTraces = false) (hW : WLK κ c0) : vx_Met l yX6_requireReached (wsA yX6_requireReached cX6_requireReached 2 (some (.object "Certhold$Certificate"))) ({ frames := 6, cells := 1, slots := 6, locals := 90 } : Room) (va_Pc [.ref (ad 0 0)] (PRE D g A (iW ad g κ X (upc cs 0 c0) lf pr))) (va_Qq (fun (r : Option Nat) (u : Nat) => lastC c0 = some u ∧ r = some (ad 1 u)) (fun _ => PO D A (iW ad g κ X (upc cs 0 c0) lf pr)) A) (XQ (fun E => κ.2.2.1 3 = 0 ∧ E = "java/lang/IllegalStateException") D A (iW ad g κ X (upc cs 0 c0) lf pr)) 1 6 A := by
  have hz := hW.1.1
  refine metX (by decide) (Nat.le_of_ble_eq_true rfl) ?_
  intro p e s m args below meth c _ hex cx
  refine J_aload_n cx dX6_requireReached_0 rfl 0 rfl ?_
  refine J_get cx (v := .ref (ad 0 11)) fX6_32 0 rfl rfl dX6_requireReached_1 ?_
  refine J_callVq cx kX6_286 (As := []) (tX1_last l D g A ad κ X cs lf pr  0 c0 (by decide) hz) ⟨rfl, rfl, by decide, by decide⟩ ⟨by decide, by decide⟩ rfl (11 + 2 * 0) (iG_ch (by decide)) rfl rfl (Nat.le_of_ble_eq_true rfl) dX6_requireReached_4 ?_
  intro _ _ hr; cases hr
  refine J_astore_nq cx (L' := [(1, va_rf ((lastC c0).map (ad 1))), (0, .ref (ad 0 0))]) dX6_requireReached_7 rfl (by decide) rfl ?_
  refine J_aload_nq cx dX6_requireReached_8 rfl 0 rfl ?_
  refine J_ifnonnull cx (tgt := 23) dX6_requireReached_9 (by decide) (fun y_2 c_1 => ?_) (fun c_1 => ?_)
  · have c_1v := c_1
    obtain ⟨k, hk, hky⟩ := Option.map_eq_some_iff.mp c_1; subst hky
    have hkb := lastC_lt hW.1 hk
    refine J_Le (L' := [(1, .ref (ad 1 k)), (0, .ref (ad 0 0))]) (by rw [c_1v]; rfl) ?_
    refine J_aload_n cx dX6_requireReached_23 rfl 0 rfl ?_
    refine J_x ?_
    exact J_qret cx rfl (u := k) (v := some (ad 1 k)) ⟨by assumption, rfl⟩ rfl (Nat.le_of_ble_eq_true rfl) (Nat.le_of_ble_eq_true rfl) dX6_requireReached_24
  · have c_1 : lastC c0 = none := Option.map_eq_none_iff.mp c_1
    exact J_throw cx hex htr rfl th_89 (List.mem_of_getElem? (i := 14) rfl) ⟨lastC_n hW (by assumption), rfl⟩ dX6_requireReached_12 dX6_requireReached_15 (Or.inr ⟨dX6_requireReached_16, dX6_requireReached_19, dX6_requireReached_22⟩) ⟨by decide, by decide, by decide, by decide⟩ ⟨by decide, by decide⟩
set_option maxHeartbeats 4000000 in
set_option maxRecDepth 100000 in
theorem tX6_reached (l : Launch) (D : va_G) (g : Nat → ClassId) (A : Nat → Prop) (ad : Nat → Nat → Nat) (κ : CS) (X : XT) (cs : Nat → CT) (lf : Nat → Int64) (pr : PT)  (c0 : CT)  (htr : l.stackTraces = false) (hS : ShX κ X) (hW : WLK κ c0) : vx_Met l yX6_reached (wsA yX6_reached cX6_reached 1 (some .int)) ({ frames := 7, cells := 1, slots := 6, locals := 111 } : Room) (va_Pc [.ref (ad 0 0)] (PRE D g A (iW ad g κ X (upc cs 0 c0) lf pr))) (va_Qi (fun (r : Int32) (_ : Unit) => ((opReached κ)).1 = 0 ∧ r = ((opReached κ)).2) (fun _ => PO D A (iW ad g κ X (upc cs 0 c0) lf pr)) A) (XQ (fun E => thrE ["java/lang/IllegalStateException"] ((opReached κ)).1 E) D A (iW ad g κ X (upc cs 0 c0) lf pr)) 1 6 A := by
  have hn := hS.1
  refine metX (by decide) (Nat.le_of_ble_eq_true rfl) ?_
  intro p e s m args below meth c _ hex cx
  refine J_aload_n cx dX6_reached_0 rfl 0 rfl ?_
  refine J_xcallVq cx hex kX6_213 (As := []) (tX6_requireReached l D g A ad κ X cs lf pr  c0 htr hW) (fun E h => by obtain ⟨h1, h2⟩ := h; subst h2; exact ⟨by simp [opReached, xj, h1, true_and], by simp [opReached, xj, h1, true_and]⟩) ⟨by decide, by decide⟩ ⟨rfl, rfl, by decide, by decide⟩ ⟨by decide, by decide⟩ rfl 0 rfl rfl rfl (Nat.le_of_ble_eq_true rfl) dX6_reached_1 ?_
  intro _ k hr; obtain ⟨hlc, hr⟩ := hr; subst hr
  refine J_top (v' := .ref (ad 1 k)) rfl ?_
  obtain ⟨hw0, hwk⟩ := lastC_s hW hlc
  have hkb := lastC_lt hW.1 hlc
  have hw0d := decide_eq_false hw0
  refine J_get cx (v := .int (nI k)) fX6_173 (17 + k) (iG_c (by first | assumption | omega)) rfl dX6_reached_4 ?_
  refine J_x ?_
  exact J_iret cx rfl (u := ()) ⟨by simp [opReached, hw0], by simp [opReached, hwk, hw0]⟩ rfl (Nat.le_of_ble_eq_true rfl) (Nat.le_of_ble_eq_true rfl) dX6_reached_7
set_option maxHeartbeats 4000000 in
set_option maxRecDepth 100000 in
theorem tX6_walked (l : Launch) (D : va_G) (g : Nat → ClassId) (A : Nat → Prop) (ad : Nat → Nat → Nat) (κ : CS) (X : XT) (cs : Nat → CT) (lf : Nat → Int64) (pr : PT)  (c0 : CT)  (hW : WLK κ c0) : CtI l D g A yX6_walked cX6_walked 1 .int ({ frames := 0, cells := 0, slots := 0, locals := 0 } : Room) [.ref (ad 0 0)] (iW ad g κ X (upc cs 0 c0) lf pr) (nI (κ.2.2.1 3)) (iW ad g κ X (upc cs 0 c0) lf pr) := by
  refine metJ (by decide) (Nat.le_of_ble_eq_true rfl) ?_
  intro p e s m args below meth c _ _ cx
  refine J_aload_n cx dX6_walked_0 rfl 0 rfl ?_
  refine J_get cx (v := .ref (ad 0 11)) fX6_32 0 rfl rfl dX6_walked_1 ?_
  refine J_get cx (v := .int (nI c0.2.1)) fX6_225 (11 + 2 * 0) (iG_chU (by decide)) rfl dX6_walked_4 ?_
  exact J_iret cx rfl (u := ()) (by rw [hW.2.1]) rfl (Nat.le_of_ble_eq_true rfl) (Nat.le_of_ble_eq_true rfl) dX6_walked_7
set_option maxHeartbeats 4000000 in
set_option maxRecDepth 100000 in
theorem tX6_day (l : Launch) (D : va_G) (g : Nat → ClassId) (A : Nat → Prop) (ad : Nat → Nat → Nat) (κ : CS) (X : XT) (cs : Nat → CT) (lf : Nat → Int64) (pr : PT)    : CtI l D g A yX6_day cX6_day 1 .int ({ frames := 0, cells := 0, slots := 0, locals := 0 } : Room) [.ref (ad 0 0)] (iW ad g κ X cs lf pr) (nI (κ.2.2.1 2)) (iW ad g κ X cs lf pr) := by
  refine metJ (by decide) (Nat.le_of_ble_eq_true rfl) ?_
  intro p e s m args below meth c _ _ cx
  refine J_aload_n cx dX6_day_0 rfl 0 rfl ?_
  refine J_get cx (v := .int (nI (κ.2.2.1 2))) fX6_49 0 rfl rfl dX6_day_1 ?_
  exact J_iret cx rfl (u := ()) rfl rfl (Nat.le_of_ble_eq_true rfl) (Nat.le_of_ble_eq_true rfl) dX6_day_4
set_option maxHeartbeats 4000000 in
set_option maxRecDepth 100000 in
theorem tX6_certificates (l : Launch) (D : va_G) (g : Nat → ClassId) (A : Nat → Prop) (ad : Nat → Nat → Nat) (κ : CS) (X : XT) (cs : Nat → CT) (lf : Nat → Int64) (pr : PT)    : CtI l D g A yX6_certificates cX6_certificates 1 .int ({ frames := 0, cells := 0, slots := 0, locals := 0 } : Room) [.ref (ad 0 0)] (iW ad g κ X cs lf pr) (nI (κ.2.2.1 0)) (iW ad g κ X cs lf pr) := by
  refine metJ (by decide) (Nat.le_of_ble_eq_true rfl) ?_
  intro p e s m args below meth c _ _ cx
  refine J_aload_n cx dX6_certificates_0 rfl 0 rfl ?_
  refine J_get cx (v := .int (nI (κ.2.2.1 0))) fX6_42 0 rfl rfl dX6_certificates_1 ?_
  exact J_iret cx rfl (u := ()) rfl rfl (Nat.le_of_ble_eq_true rfl) (Nat.le_of_ble_eq_true rfl) dX6_certificates_4
set_option maxHeartbeats 4000000 in
set_option maxRecDepth 100000 in
theorem tX6_isThrough (l : Launch) (D : va_G) (g : Nat → ClassId) (A : Nat → Prop) (ad : Nat → Nat → Nat) (κ : CS) (X : XT) (cs : Nat → CT) (lf : Nat → Int64) (pr : PT)  (c0 : CT)  (hS : ShX κ X) (hT : TIE κ X) (hW : WLK κ c0) : CtI l D g A yX6_isThrough cX6_isThrough 1 .boolean ({ frames := 3, cells := 0, slots := 0, locals := 62 } : Room) [.ref (ad 0 0)] (iW ad g κ X (upc cs 0 c0) lf pr) (zb (thrB κ)) (iW ad g κ X (upc cs 0 c0) lf pr) := by
  refine metJ (by decide) (Nat.le_of_ble_eq_true rfl) ?_
  intro p e s m args below meth c _ _ cx
  refine J_aload_n cx dX6_isThrough_0 rfl 0 rfl ?_
  refine J_get cx (v := .ref (ad 0 11)) fX6_32 0 rfl rfl dX6_isThrough_1 ?_
  refine J_callVi cx kX6_228 (As := []) (tX1_endsInTrust l D g A ad κ X cs lf pr  0 c0 (by decide) hS hW.1) ⟨rfl, rfl, by decide, by decide⟩ ⟨by decide, by decide⟩ rfl (11 + 2 * 0) (iG_ch (by decide)) rfl rfl (Nat.le_of_ble_eq_true rfl) dX6_isThrough_4 ?_
  intro _ _ hr; cases hr
  exact J_zret cx rfl (u := ()) (zb_nar _) (by rw [thC_w hT hW]) rfl (Nat.le_of_ble_eq_true rfl) (Nat.le_of_ble_eq_true rfl) dX6_isThrough_7
set_option maxHeartbeats 4000000 in
set_option maxRecDepth 100000 in
theorem tX6_pass (l : Launch) (D : va_G) (g : Nat → ClassId) (A : Nat → Prop) (ad : Nat → Nat → Nat) (κ : CS) (X : XT) (cs : Nat → CT) (lf : Nat → Int64) (pr : PT)  (dy : Int32) (htr : l.stackTraces = false)  : vx_Met l yX6_pass (wsA yX6_pass cX6_pass 2 (some .int)) ({ frames := 7, cells := 1, slots := 6, locals := 110 } : Room) (va_Pc [.ref (ad 0 0), .int dy] (PRE D g A (iW ad g κ X cs lf pr))) (va_Qi (fun (r : Int32) (_ : Unit) => ((opPass κ dy)).1 = 0 ∧ r = ((opPass κ dy)).2.1) (fun _ => PO D A (iW ad g (((opPass κ dy)).2.2) X cs lf pr)) A) (XQ (fun E => thrE ["java/lang/IllegalArgumentException"] ((opPass κ dy)).1 E) D A (iW ad g κ X cs lf pr)) 1 6 A := by
  refine metX (by decide) (Nat.le_of_ble_eq_true rfl) ?_
  intro p e s m args below meth c _ hex cx
  refine J_iload_n cx dX6_pass_0 rfl 1 rfl ?_
  refine J_xcallSv cx hex kX6_56 (As := [.int dy]) (tX6_requireDays l D g A ad κ X cs lf pr  dy htr ) (fun E h => by obtain ⟨h1, h2⟩ := h; subst h2; exact ⟨by simp [opPass, xj, h1, true_and], by simp [opPass, xj, h1, true_and]⟩) ⟨by decide, by decide⟩ ⟨rfl, rfl, by decide, by decide⟩ ⟨by decide, by decide⟩ rfl rfl (Nat.le_of_ble_eq_true rfl) dX6_pass_1 ?_
  intro _ hr
  have hdy := hr
  obtain ⟨j, hj, hjb, hxj⟩ := isInB_ex hdy; subst hxj
  have hjc : (nI j).toNatClampNeg = j := nI_clamp (by omega)
  refine J_aload_n cx dX6_pass_4 rfl 0 rfl ?_
  refine J_dup cx dX6_pass_5 rfl ?_
  refine J_get cx (v := .int (nI (κ.2.2.1 2))) fX6_49 0 rfl rfl dX6_pass_6 ?_
  refine J_iload_n cx dX6_pass_9 rfl 1 rfl ?_
  refine J_iadd cx dX6_pass_10 ?_
  refine J_top (v' := .int (nI ((κ.2.2.1 2) + j))) (congrArg Value.int (nI_add (κ.2.2.1 2) j)) ?_
  refine J_put cx (ws' := (iW ad g (κ.1, κ.2.1, upn κ.2.2.1 2 ((κ.2.2.1 2) + j), κ.2.2.2.1, κ.2.2.2.2) X cs lf pr)) fX6_49 ⟨tyX6_ok, nmX6, tyX6_ok 8 (by decide)⟩ rfl 0 rfl rfl rfl (Nat.le_of_ble_eq_true rfl) rfl dX6_pass_11 ?_
  refine J_aload_n cx dX6_pass_14 rfl 0 rfl ?_
  refine J_get cx (v := .int (nI ((κ.2.2.1 2) + j))) fX6_49 0 rfl rfl dX6_pass_15 ?_
  refine J_x ?_
  exact J_iret cx rfl (u := ()) ⟨by simp [opPass, xj, hdy, hjc], by simp [opPass, xj, zb, hdy, hjc]⟩ (by simp [opPass, xj, hdy, hjc]; try rfl) (Nat.le_of_ble_eq_true rfl) (Nat.le_of_ble_eq_true rfl) dX6_pass_18
