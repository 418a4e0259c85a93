theorem inv_p {κ : CS} (h : InvM κ) {i : Nat} (hi : i < κ.2.2.1 0) (h0 : ¬ κ.1 7 i = 0) : ∃ a : Nat, a ≤ 9999 ∧ κ.1 7 i = nI a := by
  rcases h.2.2.1 i hi with q | ⟨a, _, hb, he⟩
  · exact absurd q h0
  · exact ⟨a, hb, he⟩
theorem inv_e {κ : CS} (h : InvM κ) {i : Nat} (hi : i < κ.2.2.1 0) (h0 : ¬ κ.1 8 i = 0) : ∃ a : Nat, a ≤ 9999 ∧ κ.1 8 i = nI a := by
  rcases h.2.2.2.1 i hi with q | ⟨a, _, hb, he⟩
  · exact absurd q h0
  · exact ⟨a, hb, he⟩
theorem below4 {κ : CS} {f i v a : Nat} (he : κ.1 f i = nI a) (hv : v < 10000) (ha : a ≤ 9999) : belowB (nI v) (κ.1 f i) = und 4 v a := by
  rw [he, belowB_nI (by omega) (by omega), und_4 hv]
theorem nm_holder {κ : CS} {X : XT} (hS : ShX κ X) {k : Nat} (hk : k < κ.2.2.1 0) : ∃ v, v < 10000 ∧ X.2.2.1 (X.1 k) = nI v ∧ κ.1 0 k = nI v := by
  obtain ⟨⟨a, _, h2, h3⟩, h4⟩ := hS.2.2.2.2.1 k hk
  exact ⟨a, by omega, h4.symm.trans h3, h3⟩
theorem ok_al {κ : CS} {nx k v : Nat} (h : κ.1 0 k = nI v) : alB κ nx v = okN κ nx k := by unfold alB okN; rw [h]
theorem len_au {κ : CS} (hI : InvM κ) {i : Nat} (hi : i < κ.2.2.1 0) : (!decide (lenI κ i = -1)) = κ.2.1 0 i := by
  unfold lenI
  split
  · next h =>
    obtain ⟨a, ha, he⟩ := hI.2.2.2.2.1 i hi
    rw [h, he]
    have : ¬ nI a = -1 := fun q => absurd (nI_pos (show a < 2147483648 by omega)) (by rw [q]; decide)
    simp [this]
  · next h => simp at h; rw [h]; decide
theorem len_au' {κ : CS} {i : Nat} (h : κ.2.1 0 i = true) : lenI κ i = κ.1 6 i := if_pos h
theorem fits_out {κ : CS} {i : Nat} {d : Int32} (h : κ.1 9 i = -1 ∨ ¬ κ.1 9 i < 0) : outB κ i d = offB κ i d := by
  unfold outB offB
  rcases h with h | h
  · rw [h]; simp
  · have : ¬ κ.1 9 i = -1 := fun q => h (by rw [q]; decide)
    simp [h, this]
theorem fits_no {κ : CS} {wy : Nat → Nat} {n nx r : Nat} (hr : r < n) (h : okN κ nx (wy r) = false) : fitsB κ wy n nx = false := by
  induction n with
  | zero => omega
  | succ n ih =>
    show (fitsB κ wy n nx && okN κ nx (wy n)) = false
    by_cases e : r = n
    · rw [← e, h]; simp
    · rw [ih (by omega)]; rfl
set_option maxHeartbeats 4000000 in
set_option maxRecDepth 100000 in
theorem tX0_allows (l : Launch) (D : va_G) (g : Nat → ClassId) (A : Nat → Prop) (ad : Nat → Nat → Nat) (κ : CS) (X : XT) (cs : Nat → CT) (lf : Nat → Int64) (pr : PT)  (i : Nat) (v : Nat) (hI : InvM κ) (hi : i < κ.2.2.1 0) (hv : v < 10000) : CtI l D g A yX0_allows cX0_allows 2 .boolean ({ frames := 1, cells := 0, slots := 0, locals := 23 } : Room) [.ref (ad 1 i), .int (nI v)] (iW ad g κ X cs lf pr) (zb (alB κ i v)) (iW ad g κ X cs lf pr) := by
  refine metJ (by decide) (Nat.le_of_ble_eq_true rfl) ?_
  intro p e s m args below meth c _ _ cx
  refine J_aload_n cx dX0_allows_0 rfl 0 rfl ?_
  refine J_get cx (v := .int (κ.1 7 i)) fX0_31 (17 + i) (iG_c (by first | assumption | omega)) rfl dX0_allows_1 ?_
  refine J_if_eq cx (tgt := 20) dX0_allows_4 (by decide) (fun c_1 => ?_) (fun c_1 => ?_)
  · have c_1d := decide_eq_true c_1
    refine J_aload_n cx dX0_allows_20 rfl 0 rfl ?_
    refine J_get cx (v := .int (κ.1 8 i)) fX0_34 (17 + i) (iG_c (by first | assumption | omega)) rfl dX0_allows_21 ?_
    refine J_if_eq cx (tgt := 38) dX0_allows_24 (by decide) (fun c_2 => ?_) (fun c_2 => ?_)
    · have c_2d := decide_eq_true c_2
      refine J_iconst cx (v := nI 1) dX0_allows_38 (by decide) ?_
      refine J_goto cx (tgt := 43) dX0_allows_39 (by decide) ?_
      exact J_zret cx rfl (u := ()) (rfl) (by simp [alB, zb, c_1d, c_2d]) rfl (Nat.le_of_ble_eq_true rfl) (Nat.le_of_ble_eq_true rfl) dX0_allows_43
    · have c_2d := decide_eq_false c_2
      obtain ⟨b, hbb, hb⟩ := inv_e hI hi c_2
      have hbw := below4 hb (show v < 10000 by omega) hbb
      refine J_iload_n cx dX0_allows_27 rfl 1 rfl ?_
      refine J_aload_n cx dX0_allows_28 rfl 0 rfl ?_
      refine J_get cx (v := .int (κ.1 8 i)) fX0_34 (17 + i) (iG_c (by first | assumption | omega)) rfl dX0_allows_29 ?_
      refine J_top (v' := .int (nI b)) (congrArg Value.int hb) ?_
      refine J_callNi cx kX0_54 (As := [.int (nI v), .int (nI b)]) (tX6_beginsWith l D g A ad κ X cs lf pr  v b (by omega) (by omega)) ⟨rfl, rfl, by decide, by decide⟩ ⟨by decide, by decide⟩ rfl rfl (Nat.le_of_ble_eq_true rfl) dX0_allows_32 ?_
      intro _ _ hr; cases hr
      refine J_ifz_ne cx (tgt := 42) dX0_allows_35 (by decide) (fun c_3 => ?_) (fun c_3 => ?_)
      · refine J_iconst cx (v := nI 0) dX0_allows_42 (by decide) ?_
        exact J_zret cx rfl (u := ()) (rfl) (by simp [alB, zb, c_1d, c_2, c_2d, hbw, c_3]) rfl (Nat.le_of_ble_eq_true rfl) (Nat.le_of_ble_eq_true rfl) dX0_allows_43
      · refine J_iconst cx (v := nI 1) dX0_allows_38 (by decide) ?_
        refine J_goto cx (tgt := 43) dX0_allows_39 (by decide) ?_
        exact J_zret cx rfl (u := ()) (rfl) (by simp [alB, zb, c_1d, c_2, c_2d, hbw, c_3]) rfl (Nat.le_of_ble_eq_true rfl) (Nat.le_of_ble_eq_true rfl) dX0_allows_43
  · have c_1d := decide_eq_false c_1
    obtain ⟨a, hab, ha⟩ := inv_p hI hi c_1
    have haw := below4 ha (show v < 10000 by omega) hab
    refine J_iload_n cx dX0_allows_7 rfl 1 rfl ?_
    refine J_aload_n cx dX0_allows_8 rfl 0 rfl ?_
    refine J_get cx (v := .int (κ.1 7 i)) fX0_31 (17 + i) (iG_c (by first | assumption | omega)) rfl dX0_allows_9 ?_
    refine J_top (v' := .int (nI a)) (congrArg Value.int ha) ?_
    refine J_callNi cx kX0_54 (As := [.int (nI v), .int (nI a)]) (tX6_beginsWith l D g A ad κ X cs lf pr  v a (by omega) (by omega)) ⟨rfl, rfl, by decide, by decide⟩ ⟨by decide, by decide⟩ rfl rfl (Nat.le_of_ble_eq_true rfl) dX0_allows_12 ?_
    intro _ _ hr; cases hr
    refine J_ifz_ne cx (tgt := 20) dX0_allows_15 (by decide) (fun c_4 => ?_) (fun c_4 => ?_)
    · refine J_aload_n cx dX0_allows_20 rfl 0 rfl ?_
      refine J_get cx (v := .int (κ.1 8 i)) fX0_34 (17 + i) (iG_c (by first | assumption | omega)) rfl dX0_allows_21 ?_
      refine J_if_eq cx (tgt := 38) dX0_allows_24 (by decide) (fun c_5 => ?_) (fun c_5 => ?_)
      · have c_5d := decide_eq_true c_5
        refine J_iconst cx (v := nI 1) dX0_allows_38 (by decide) ?_
        refine J_goto cx (tgt := 43) dX0_allows_39 (by decide) ?_
        exact J_zret cx rfl (u := ()) (rfl) (by simp [alB, zb, c_1, c_1d, haw, c_4, c_5d]) rfl (Nat.le_of_ble_eq_true rfl) (Nat.le_of_ble_eq_true rfl) dX0_allows_43
      · have c_5d := decide_eq_false c_5
        obtain ⟨b, hbb, hb⟩ := inv_e hI hi c_5
        have hbw := below4 hb (show v < 10000 by omega) hbb
        refine J_iload_n cx dX0_allows_27 rfl 1 rfl ?_
        refine J_aload_n cx dX0_allows_28 rfl 0 rfl ?_
        refine J_get cx (v := .int (κ.1 8 i)) fX0_34 (17 + i) (iG_c (by first | assumption | omega)) rfl dX0_allows_29 ?_
        refine J_top (v' := .int (nI b)) (congrArg Value.int hb) ?_
        refine J_callNi cx kX0_54 (As := [.int (nI v), .int (nI b)]) (tX6_beginsWith l D g A ad κ X cs lf pr  v b (by omega) (by omega)) ⟨rfl, rfl, by decide, by decide⟩ ⟨by decide, by decide⟩ rfl rfl (Nat.le_of_ble_eq_true rfl) dX0_allows_32 ?_
        intro _ _ hr; cases hr
        refine J_ifz_ne cx (tgt := 42) dX0_allows_35 (by decide) (fun c_6 => ?_) (fun c_6 => ?_)
        · refine J_iconst cx (v := nI 0) dX0_allows_42 (by decide) ?_
          exact J_zret cx rfl (u := ()) (rfl) (by simp [alB, zb, c_1, c_1d, haw, c_4, c_5, c_5d, hbw, c_6]) rfl (Nat.le_of_ble_eq_true rfl) (Nat.le_of_ble_eq_true rfl) dX0_allows_43
        · refine J_iconst cx (v := nI 1) dX0_allows_38 (by decide) ?_
          refine J_goto cx (tgt := 43) dX0_allows_39 (by decide) ?_
          exact J_zret cx rfl (u := ()) (rfl) (by simp [alB, zb, c_1, c_1d, haw, c_4, c_5, c_5d, hbw, c_6]) rfl (Nat.le_of_ble_eq_true rfl) (Nat.le_of_ble_eq_true rfl) dX0_allows_43
    · refine J_iconst cx (v := nI 0) dX0_allows_18 (by decide) ?_
      exact J_zret cx rfl (u := ()) (rfl) (by simp [alB, zb, c_1, c_1d, haw, c_4]) rfl (Nat.le_of_ble_eq_true rfl) (Nat.le_of_ble_eq_true rfl) dX0_allows_19
set_option maxHeartbeats 4000000 in
set_option maxRecDepth 100000 in
theorem tX1_allowsNamesBefore (l : Launch) (D : va_G) (g : Nat → ClassId) (A : Nat → Prop) (ad : Nat → Nat → Nat) (κ : CS) (X : XT) (cs : Nat → CT) (lf : Nat → Int64) (pr : PT)  (q : Nat) (ct : CT) (nx : Nat) (pl : Nat) (hq : q < 3) (hS : ShX κ X) (hI : InvM κ) (hC : ShC κ ct) (hx : nx < κ.2.2.1 0) (hp : pl ≤ ct.2.1) : CtI l D g A yX1_allowsNamesBefore cX1_allowsNamesBefore 5 .boolean ({ frames := 2, cells := 0, slots := 0, locals := 44 } : Room) [.ref (ad 0 (11 + 2 * q)), .ref (ad 1 nx), .int (nI pl)] (iW ad g κ X (upc cs q ct) lf pr) (zb (fitsB κ (wyO ct) pl nx)) (iW ad g κ X (upc cs q ct) lf pr) := by
  have hz := hC.1
  refine metJ (by decide) (Nat.le_of_ble_eq_true rfl) ?_
  intro p e s m args below meth c _ _ cx
  refine J_iconst cx (v := nI 0) dX1_allowsNamesBefore_0 (by decide) ?_
  refine J_istore_n cx (L' := [(3, .int (nI 0)), (0, .ref (ad 0 (11 + 2 * q))), (1, .ref (ad 1 nx)), (2, .int (nI pl))]) dX1_allowsNamesBefore_1 rfl (by decide) rfl ?_
  have LP : ∀ (fu : Nat) (r : Nat), (r ≤ pl) → (fitsB κ (wyO ct) r nx = true) → pl - r < fu → J p l e ({ frames := 2, cells := 0, slots := 0, locals := 44 } : Room) s m args below meth c D A 5 (MQ below (va_Qi (fun (r : Int32) (_ : Unit) => r = (zb (fitsB κ (wyO ct) pl nx))) (fun _ => PO D A (iW ad g κ X (upc cs q ct) lf pr)) A) args s 0 0 A) 0 0 (iW ad g κ X (upc cs q ct) lf pr) [(3, .int (nI r)), (0, .ref (ad 0 (11 + 2 * q))), (1, .ref (ad 1 nx)), (2, .int (nI pl))] 2 [] := by
    intro fu; induction fu with
    | zero => intro r hr hno hfu; exact absurd hfu (Nat.not_lt_zero _)
    | succ fu ih =>
      intro r hr hno hfu
      refine J_iload_n cx dX1_allowsNamesBefore_2 rfl 0 rfl ?_
      refine J_iload_n cx dX1_allowsNamesBefore_3 rfl 3 rfl ?_
      refine J_icmp_ge cx (tgt := 42) dX1_allowsNamesBefore_4 (by decide) (fun c_1 => ?_) (fun c_1 => ?_)
      · have c_1 := (nat_ic_ge (by omega) (by omega)).mp c_1
        have c_1d := decide_eq_true c_1
        refine J_iconst cx (v := nI 1) dX1_allowsNamesBefore_42 (by decide) ?_
        exact J_zret cx rfl (u := ()) (rfl) (by rw [show pl = r from by omega, hno]; rfl) rfl (Nat.le_of_ble_eq_true rfl) (Nat.le_of_ble_eq_true rfl) dX1_allowsNamesBefore_43
      · have c_1 := (nat_ic_ge_f (by omega) (by omega)).mp c_1
        have c_1d := decide_eq_false (Nat.not_le.mpr c_1)
        refine J_aload_n cx dX1_allowsNamesBefore_7 rfl 1 rfl ?_
        refine J_iload_n cx dX1_allowsNamesBefore_8 rfl 0 rfl ?_
        refine J_callVq cx kX1_28 (As := [.int (nI r)]) (tX1_at l D g A ad κ X cs lf pr  q ct (nI r) hq hz) ⟨rfl, rfl, by decide, by decide⟩ ⟨by decide, by decide⟩ rfl (11 + 2 * q) (iG_ch hq) rfl rfl (Nat.le_of_ble_eq_true rfl) dX1_allowsNamesBefore_9 ?_
        intro _ _ hr; cases hr
        refine J_astoreq cx (L' := [(4, va_rf ((atC ct (nI r)).map (ad 1))), (3, .int (nI r)), (0, .ref (ad 0 (11 + 2 * q))), (1, .ref (ad 1 nx)), (2, .int (nI pl))]) dX1_allowsNamesBefore_12 (by decide) rfl ?_
        refine J_aloadq cx dX1_allowsNamesBefore_14 0 rfl ?_
        refine J_ifnull cx (tgt := 36) dX1_allowsNamesBefore_16 (by decide) (fun c_2 => ?_) (fun y_3 c_2 => ?_)
        · have hat := atC_at hC (show r < ct.2.1 by omega)
          have c_2 : atC ct (nI r) = none := Option.map_eq_none_iff.mp c_2
          exact absurd (hat.symm.trans c_2) (by simp)
        · have hat := atC_at hC (show r < ct.2.1 by omega)
          have c_2v := c_2
          obtain ⟨k, hk, hky⟩ := Option.map_eq_some_iff.mp c_2; subst hky
          have hkw : wyO ct r = k := Option.some.inj (hat.symm.trans hk)
          have hkb : k < κ.2.2.1 0 := hkw ▸ (wyO_at hC (show r < ct.2.1 by omega)).2
          refine J_Le (L' := [(4, .ref (ad 1 k)), (3, .int (nI r)), (0, .ref (ad 0 (11 + 2 * q))), (1, .ref (ad 1 nx)), (2, .int (nI pl))]) (by rw [c_2v]; rfl) ?_
          refine J_aload_n cx dX1_allowsNamesBefore_19 rfl 3 rfl ?_
          refine J_aload cx dX1_allowsNamesBefore_20 0 rfl ?_
          refine J_get cx (v := .ref (ad 2 (X.1 k))) fX1_67 (17 + k) (iG_c (by first | assumption | omega)) rfl dX1_allowsNamesBefore_22 ?_
          refine J_get cx (v := .int (X.2.2.1 (X.1 k))) fX1_71 (17 + κ.2.2.1 0 + (X.1 k)) (iG_h (hS.sb (by first | assumption | omega))) rfl dX1_allowsNamesBefore_25 ?_
          obtain ⟨v, hv, hv1, hv2⟩ := nm_holder hS hkb
          refine J_top (v' := .int (nI v)) (congrArg Value.int hv1) ?_
          refine J_callVi cx kX1_76 (As := [.int (nI v)]) (tX0_allows l D g A ad κ X (upc cs q ct) lf pr  nx v hI hx hv) ⟨rfl, rfl, by decide, by decide⟩ ⟨by decide, by decide⟩ rfl (17 + nx) (iG_c (by first | assumption | omega)) rfl rfl (Nat.le_of_ble_eq_true rfl) dX1_allowsNamesBefore_28 ?_
          intro _ _ hr; cases hr
          refine J_top (v' := .int (zb (okN κ nx k))) (by rw [ok_al hv2]) ?_
          refine J_ifz_ne cx (tgt := 36) dX1_allowsNamesBefore_31 (by decide) (fun c_4 => ?_) (fun c_4 => ?_)
          · refine J_iinc cx (v := (nI (r + 1))) (L' := [(3, .int (nI (r + 1))), (4, .ref (ad 1 k)), (0, .ref (ad 0 (11 + 2 * q))), (1, .ref (ad 1 nx)), (2, .int (nI pl))]) dX1_allowsNamesBefore_36 1 rfl (by exact nI_add r 1) (by decide) rfl ?_
            refine J_goto cx (tgt := 2) dX1_allowsNamesBefore_39 (by decide) ?_
            refine J_L [0, 2, 3, 4] rfl ?_
            exact ih (r + 1) (by omega) (by show (allN _ r && _) = true; rw [show allN (fun k => okN κ nx (wyO ct k)) r = true from hno]; show okN κ nx (wyO ct r) = true; rw [hkw]; exact c_4) (by omega)
          · refine J_iconst cx (v := nI 0) dX1_allowsNamesBefore_34 (by decide) ?_
            exact J_zret cx rfl (u := ()) (rfl) (by rw [fits_no (r := r) (by omega) (by rw [hkw]; exact c_4)]; rfl) rfl (Nat.le_of_ble_eq_true rfl) (Nat.le_of_ble_eq_true rfl) dX1_allowsNamesBefore_35
  refine J_L [0, 1, 2, 3] rfl ?_
  exact LP _ 0 (by omega) rfl (Nat.lt_succ_self _)
theorem rfI_eq {κ : CS} {X : XT} (hS : ShX κ X) {i : Nat} (hi : i < κ.2.2.1 0) (d : Int32) : rfI κ i d = (if validB κ i d then (if offB κ i d then 114 else 111) else 116) := by
  unfold rfI; rw [fits_out (hS.2.2.2.2.2 i hi)]
theorem rfI_le (κ : CS) (i : Nat) (d : Int32) : rfI κ i d ≤ 116 := by unfold rfI; repeat (first | omega | split)
theorem refC_pre {κ : CS} {X : XT} (hS : ShX κ X) {i sz : Nat} {wy : Nat → Nat} (hi : i < κ.2.2.1 0) {d : Int32} (hno : anyN (inW wy i) sz = false) (h : ¬ rfI κ i d = 111) : refC κ wy sz i d = rfI κ i d := by
  rw [rfI_eq hS hi] at h ⊢; unfold refC; rw [hno]
  by_cases h1 : validB κ i d = true
  · by_cases h2 : offB κ i d = true
    · simp [h1, h2]
    · simp [h1, h2] at h
  · simp [h1]
theorem refC_post {κ : CS} {X : XT} (hS : ShX κ X) {i sz : Nat} {wy : Nat → Nat} (hi : i < κ.2.2.1 0) {d : Int32} (hno : anyN (inW wy i) sz = false) (h : rfI κ i d = 111) : refC κ wy sz i d = (if κ.2.1 0 i then (if decide (κ.1 6 i < nI (sz - 1)) then 108 else if fitsB κ wy sz i then 111 else 110) else 97) := by
  rw [rfI_eq hS hi] at h; unfold refC; rw [hno]
  by_cases h1 : validB κ i d = true
  · by_cases h2 : offB κ i d = true
    · simp [h1, h2] at h
    · simp [h1, h2]
  · simp [h1] at h
set_option maxHeartbeats 4000000 in
set_option maxRecDepth 100000 in
theorem tX1_refusalOf (l : Launch) (D : va_G) (g : Nat → ClassId) (A : Nat → Prop) (ad : Nat → Nat → Nat) (κ : CS) (X : XT) (cs : Nat → CT) (lf : Nat → Int64) (pr : PT)  (q : Nat) (ct : CT) (nx : Nat) (hq : q < 3) (hS : ShX κ X) (hI : InvM κ) (hC : ShC κ ct) (hx : nx < κ.2.2.1 0) (h1 : 1 ≤ ct.2.1) : CtI l D g A yX1_refusalOf cX1_refusalOf 3 .char ({ frames := 3, cells := 0, slots := 0, locals := 68 } : Room) [.ref (ad 0 (11 + 2 * q)), .ref (ad 1 nx)] (iW ad g κ X (upc cs q ct) lf pr) (nI (refC κ (wyO ct) ct.2.1 nx ct.2.2)) (iW ad g κ X (upc cs q ct) lf pr) := by
  have hz := hC.1
  have hrl := rfI_le κ nx ct.2.2
  refine metJ (by decide) (Nat.le_of_ble_eq_true rfl) ?_
  intro p e s m args below meth c _ _ cx
  refine J_aload_n cx dX1_refusalOf_0 rfl 0 rfl ?_
  refine J_aload_n cx dX1_refusalOf_1 rfl 1 rfl ?_
  refine J_callVi cx kX1_44 (As := [.ref (ad 1 nx)]) (tX1_has l D g A ad κ X cs lf pr  q ct nx hq hC hx) ⟨rfl, rfl, by decide, by decide⟩ ⟨by decide, by decide⟩ rfl (11 + 2 * q) (iG_ch hq) rfl rfl (Nat.le_of_ble_eq_true rfl) dX1_refusalOf_2 ?_
  intro _ _ hr; cases hr
  refine J_ifz_eq cx (tgt := 11) dX1_refusalOf_5 (by decide) (fun c_1 => ?_) (fun c_1 => ?_)
  · refine J_aload_n cx dX1_refusalOf_11 rfl 1 rfl ?_
    refine J_aload_n cx dX1_refusalOf_12 rfl 0 rfl ?_
    refine J_get cx (v := .int ct.2.2) fX1_21 (11 + 2 * q) (iG_chU hq) rfl dX1_refusalOf_13 ?_
    refine J_callVi cx kX1_47 (As := [.int ct.2.2]) (tX0_refusalOn l D g A ad κ X (upc cs q ct) lf pr  nx ct.2.2 hx) ⟨rfl, rfl, by decide, by decide⟩ ⟨by decide, by decide⟩ rfl (17 + nx) (iG_c (by first | assumption | omega)) rfl rfl (Nat.le_of_ble_eq_true rfl) dX1_refusalOf_16 ?_
    intro _ _ hr; cases hr
    refine J_istore_n cx (L' := [(2, .int (nI (rfI κ nx ct.2.2))), (0, .ref (ad 0 (11 + 2 * q))), (1, .ref (ad 1 nx))]) dX1_refusalOf_19 rfl (by decide) rfl ?_
    refine J_iload_n cx dX1_refusalOf_20 rfl 0 rfl ?_
    refine J_bipush cx (v := nI 111) dX1_refusalOf_21 (by decide) ?_
    refine J_icmp_eq cx (tgt := 28) dX1_refusalOf_23 (by decide) (fun c_2 => ?_) (fun c_2 => ?_)
    · have c_2 := (nat_ic_eq (by omega) (by omega)).mp c_2
      have c_2d := decide_eq_true c_2
      refine J_aload_n cx dX1_refusalOf_28 rfl 2 rfl ?_
      refine J_callVi cx kX1_51 (As := []) (tX0_isAuthority l D g A ad κ X (upc cs q ct) lf pr  nx hx) ⟨rfl, rfl, by decide, by decide⟩ ⟨by decide, by decide⟩ rfl (17 + nx) (iG_c (by first | assumption | omega)) rfl rfl (Nat.le_of_ble_eq_true rfl) dX1_refusalOf_29 ?_
      intro _ _ hr; cases hr
      refine J_top (v' := .int (zb (κ.2.1 0 nx))) (by rw [len_au hI hx]) ?_
      refine J_ifz_ne cx (tgt := 38) dX1_refusalOf_32 (by decide) (fun c_3 => ?_) (fun c_3 => ?_)
      · refine J_aload_n cx dX1_refusalOf_38 rfl 2 rfl ?_
        refine J_get cx (v := .int (lenI κ nx)) fX1_54 (17 + nx) (iG_c (by first | assumption | omega)) rfl dX1_refusalOf_39 ?_
        refine J_top (v' := .int (κ.1 6 nx)) (congrArg Value.int (len_au' c_3)) ?_
        refine J_aload_n cx dX1_refusalOf_42 rfl 1 rfl ?_
        refine J_get cx (v := .int (nI ct.2.1)) fX1_17 (11 + 2 * q) (iG_chU hq) rfl dX1_refusalOf_43 ?_
        refine J_iconst cx (v := nI 1) dX1_refusalOf_46 (by decide) ?_
        refine J_isub cx dX1_refusalOf_47 ?_
        refine J_top (v' := .int (nI (ct.2.1 - 1))) (congrArg Value.int (pk_sub (by omega))) ?_
        refine J_icmp_ge cx (tgt := 54) dX1_refusalOf_48 (by decide) (fun c_4 => ?_) (fun c_4 => ?_)
        · have c_4d := decide_eq_true c_4
          have c_4c := decide_eq_false (Int32.not_lt.mpr c_4)
          refine J_aload_n cx dX1_refusalOf_54 rfl 1 rfl ?_
          refine J_aload_n cx dX1_refusalOf_55 rfl 2 rfl ?_
          refine J_aload_n cx dX1_refusalOf_56 rfl 1 rfl ?_
          refine J_get cx (v := .int (nI ct.2.1)) fX1_17 (11 + 2 * q) (iG_chU hq) rfl dX1_refusalOf_57 ?_
          refine J_callVi cx kX1_57 (As := [.ref (ad 1 nx), .int (nI ct.2.1)]) (tX1_allowsNamesBefore l D g A ad κ X cs lf pr  q ct nx ct.2.1 hq hS hI hC hx (Nat.le_refl _)) ⟨rfl, rfl, by decide, by decide⟩ ⟨by decide, by decide⟩ rfl (11 + 2 * q) (iG_ch hq) rfl rfl (Nat.le_of_ble_eq_true rfl) dX1_refusalOf_60 ?_
          intro _ _ hr; cases hr
          refine J_ifz_eq cx (tgt := 71) dX1_refusalOf_63 (by decide) (fun c_5 => ?_) (fun c_5 => ?_)
          · refine J_bipush cx (v := nI 110) dX1_refusalOf_71 (by decide) ?_
            exact J_zret cx rfl (u := ()) (by first | decide | exact (pk_charN (by omega)).1) (by rw [refC_post hS hx (show anyN (inW (wyO ct) nx) ct.2.1 = false from c_1) (by omega)]; simp [c_2d, c_3, c_4, c_4d, c_4c, c_5]) rfl (Nat.le_of_ble_eq_true rfl) (Nat.le_of_ble_eq_true rfl) dX1_refusalOf_73
          · refine J_bipush cx (v := nI 111) dX1_refusalOf_66 (by decide) ?_
            refine J_goto cx (tgt := 73) dX1_refusalOf_68 (by decide) ?_
            exact J_zret cx rfl (u := ()) (by first | decide | exact (pk_charN (by omega)).1) (by rw [refC_post hS hx (show anyN (inW (wyO ct) nx) ct.2.1 = false from c_1) (by omega)]; simp [c_2d, c_3, c_4, c_4d, c_4c, c_5]) rfl (Nat.le_of_ble_eq_true rfl) (Nat.le_of_ble_eq_true rfl) dX1_refusalOf_73
        · have c_4d := decide_eq_false c_4
          have c_4c := decide_eq_true (Int32.not_le.mp c_4)
          refine J_bipush cx (v := nI 108) dX1_refusalOf_51 (by decide) ?_
          exact J_zret cx rfl (u := ()) (by first | decide | exact (pk_charN (by omega)).1) (by rw [refC_post hS hx (show anyN (inW (wyO ct) nx) ct.2.1 = false from c_1) (by omega)]; simp [c_2d, c_3, c_4, c_4d, c_4c]) rfl (Nat.le_of_ble_eq_true rfl) (Nat.le_of_ble_eq_true rfl) dX1_refusalOf_53
      · refine J_bipush cx (v := nI 97) dX1_refusalOf_35 (by decide) ?_
        exact J_zret cx rfl (u := ()) (by first | decide | exact (pk_charN (by omega)).1) (by rw [refC_post hS hx (show anyN (inW (wyO ct) nx) ct.2.1 = false from c_1) (by omega)]; simp [c_2d, c_3]) rfl (Nat.le_of_ble_eq_true rfl) (Nat.le_of_ble_eq_true rfl) dX1_refusalOf_37
    · have c_2 := (nat_ic_eq_f (by omega) (by omega)).mp c_2
      have c_2d := decide_eq_false c_2
      refine J_iload_n cx dX1_refusalOf_26 rfl 0 rfl ?_
      exact J_zret cx rfl (u := ()) (by first | decide | exact (pk_charN (by omega)).1) (by rw [refC_pre hS hx (show anyN (inW (wyO ct) nx) ct.2.1 = false from c_1) (by omega)]) rfl (Nat.le_of_ble_eq_true rfl) (Nat.le_of_ble_eq_true rfl) dX1_refusalOf_27
  · refine J_bipush cx (v := nI 120) dX1_refusalOf_8 (by decide) ?_
    exact J_zret cx rfl (u := ()) (by first | decide | exact (pk_charN (by omega)).1) (by unfold refC; rw [show anyN (inW (wyO ct) nx) ct.2.1 = true from c_1]; rfl) rfl (Nat.le_of_ble_eq_true rfl) (Nat.le_of_ble_eq_true rfl) dX1_refusalOf_10
