def fitC (κ : CS) (ct : CT) (nx pl : Nat) : Bool := decide (rfI κ nx ct.2.2 = 111) && (decide (pl = 0) || (κ.2.1 0 nx && (!decide (κ.1 6 nx < nI (pl - 1)) && fitsB κ (wyO ct) pl nx)))
def goodC (κ : CS) (X : XT) (ct : CT) : Bool := thC κ X ct && allN (fun r => fitC κ ct (wyO ct r) r) ct.2.1
theorem goodC_no {κ : CS} {ct : CT} {n r : Nat} (hr : r < n) (h : fitC κ ct (wyO ct r) r = false) : allN (fun r => fitC κ ct (wyO ct r) r) n = false := by
  induction n with
  | zero => omega
  | succ n ih =>
    show (allN _ n && fitC κ ct (wyO ct n) n) = false
    by_cases e : r = n
    · rw [← e, h]; simp
    · rw [ih (by omega)]; rfl
set_option maxHeartbeats 4000000 in
set_option maxRecDepth 100000 in
theorem tX1_clear (l : Launch) (D : va_G) (g : Nat → ClassId) (A : Nat → Prop) (ad : Nat → Nat → Nat) (κ : CS) (X : XT) (cs : Nat → CT) (lf : Nat → Int64) (pr : PT)  (q : Nat) (ct : CT)  (hq : q < 3) : CtV l D g A yX1_clear cX1_clear 1 ({ frames := 0, cells := 0, slots := 0, locals := 0 } : Room) [.ref (ad 0 (11 + 2 * q))] (iW ad g κ X (upc cs q ct) lf pr) (iW ad g κ X (upc cs q (ct.1, 0, ct.2.2)) lf pr) := by
  refine metJ (by decide) (Nat.le_of_ble_eq_true rfl) ?_
  intro p e s m args below meth c _ _ cx
  refine J_aload_n cx dX1_clear_0 rfl 0 rfl ?_
  refine J_iconst cx (v := nI 0) dX1_clear_1 (by decide) ?_
  refine J_put cx (ws' := (iW ad g κ X (upc cs q (ct.1, 0, ct.2.2)) lf pr)) fX1_17 ⟨tyX1_ok, nmX1, tyX1_ok 1 (by decide)⟩ rfl (11 + 2 * q) (iG_chU hq) rfl rfl (Nat.le_of_ble_eq_true rfl) (iG_setchU (s := 0) (d := ct.2.2) hq) dX1_clear_2 ?_
  exact J_vret cx rfl (u := ()) trivial rfl (Nat.le_of_ble_eq_true rfl) (Nat.le_of_ble_eq_true rfl) dX1_clear_5
set_option maxHeartbeats 4000000 in
set_option maxRecDepth 100000 in
theorem tX1_add (l : Launch) (D : va_G) (g : Nat → ClassId) (A : Nat → Prop) (ad : Nat → Nat → Nat) (κ : CS) (X : XT) (cs : Nat → CT) (lf : Nat → Int64) (pr : PT)  (q : Nat) (ct : CT) (k : Nat) (hq : q < 3) (hlt : ct.2.1 < 7) (hk : k < κ.2.2.1 0) : CtI l D g A yX1_add cX1_add 2 .boolean ({ frames := 0, cells := 0, slots := 0, locals := 0 } : Room) [.ref (ad 0 (11 + 2 * q)), .ref (ad 1 k)] (iW ad g κ X (upc cs q ct) lf pr) (nI 1) (iW ad g κ X (upc cs q (va_up ct.1 ct.2.1 (some k), ct.2.1 + 1, ct.2.2)) lf pr) := by
  refine metJ (by decide) (Nat.le_of_ble_eq_true rfl) ?_
  intro p e s m args below meth c _ _ cx
  refine J_aload_n cx dX1_add_0 rfl 0 rfl ?_
  refine J_get cx (v := .int (nI ct.2.1)) fX1_17 (11 + 2 * q) (iG_chU hq) rfl dX1_add_1 ?_
  refine J_if_lt cx (tgt := 19) dX1_add_4 (by decide) (fun h => absurd h (nI_pos (by omega))) (fun _ => ?_)
  refine J_aload_n cx dX1_add_7 rfl 0 rfl ?_
  refine J_get cx (v := .int (nI ct.2.1)) fX1_17 (11 + 2 * q) (iG_chU hq) rfl dX1_add_8 ?_
  refine J_aload_n cx dX1_add_11 rfl 0 rfl ?_
  refine J_get cx (v := .ref (ad 0 (12 + 2 * q))) fX1_11 (11 + 2 * q) (iG_chU hq) rfl dX1_add_12 ?_
  refine J_alen cx (v := nI 7) (12 + 2 * q) (iG_roU hq) (t0 := 3) rfl rfl dX1_add_15 ?_
  refine J_icmp_lt cx (tgt := 21) dX1_add_16 (by decide) (fun c_2 => ?_) (fun c_2 => ?_)
  · have c_2 := (nat_ic_lt (by omega) (by omega)).mp c_2
    have c_2d := decide_eq_true c_2
    refine J_aload_n cx dX1_add_21 rfl 0 rfl ?_
    refine J_get cx (v := .ref (ad 0 (12 + 2 * q))) fX1_11 (11 + 2 * q) (iG_chU hq) rfl dX1_add_22 ?_
    refine J_aload_n cx dX1_add_25 rfl 0 rfl ?_
    refine J_get cx (v := .int (nI ct.2.1)) fX1_17 (11 + 2 * q) (iG_chU hq) rfl dX1_add_26 ?_
    refine J_aload_n cx dX1_add_29 rfl 1 rfl ?_
    refine J_aast cx (ws' := (iW ad g κ X (upc cs q (va_up ct.1 ct.2.1 (some k), ct.2.1, ct.2.2)) lf pr)) (j := ct.2.1) (12 + 2 * q) (iG_roU hq) (iG_c (by first | assumption | omega)) rfl (by omega) (by decide) (by rw [rfa_up]; exact iG_setroU (r := va_up ct.1 ct.2.1 (some k)) hq) dX1_add_30 ?_
    refine J_aload_n cx dX1_add_31 rfl 0 rfl ?_
    refine J_dup cx dX1_add_32 rfl ?_
    refine J_get cx (v := .int (nI ct.2.1)) fX1_17 (11 + 2 * q) (iG_chU hq) rfl dX1_add_33 ?_
    refine J_iconst cx (v := nI 1) dX1_add_36 (by decide) ?_
    refine J_iadd cx dX1_add_37 ?_
    refine J_top (v' := .int (nI (ct.2.1 + 1))) (congrArg Value.int (nI_add ct.2.1 1)) ?_
    refine J_put cx (ws' := (iW ad g κ X (upc cs q (va_up ct.1 ct.2.1 (some k), (ct.2.1 + 1), ct.2.2)) lf pr)) fX1_17 ⟨tyX1_ok, nmX1, tyX1_ok 1 (by decide)⟩ rfl (11 + 2 * q) (iG_chU hq) rfl rfl (Nat.le_of_ble_eq_true rfl) (iG_setchU (s := (ct.2.1 + 1)) (d := ct.2.2) hq) dX1_add_38 ?_
    refine J_iconst cx (v := nI 1) dX1_add_41 (by decide) ?_
    exact J_zret cx rfl (u := ()) (rfl) rfl rfl (Nat.le_of_ble_eq_true rfl) (Nat.le_of_ble_eq_true rfl) dX1_add_42
  · have c_2 := (nat_ic_lt_f (by omega) (by omega)).mp c_2
    have c_2d := decide_eq_false (Nat.not_lt.mpr c_2)
    exact absurd hlt (by omega)
set_option maxHeartbeats 4000000 in
set_option maxRecDepth 100000 in
theorem tX1_addF (l : Launch) (D : va_G) (g : Nat → ClassId) (A : Nat → Prop) (ad : Nat → Nat → Nat) (κ : CS) (X : XT) (cs : Nat → CT) (lf : Nat → Int64) (pr : PT)  (q : Nat) (ct : CT) (k : Nat) (hq : q < 3) (hlt : ct.2.1 = 7) (hk : k < κ.2.2.1 0) : CtI l D g A yX1_add cX1_add 2 .boolean ({ frames := 0, cells := 0, slots := 0, locals := 0 } : Room) [.ref (ad 0 (11 + 2 * q)), .ref (ad 1 k)] (iW ad g κ X (upc cs q ct) lf pr) (nI 0) (iW ad g κ X (upc cs q ct) lf pr) := by
  refine metJ (by decide) (Nat.le_of_ble_eq_true rfl) ?_
  intro p e s m args below meth c _ _ cx
  refine J_aload_n cx dX1_add_0 rfl 0 rfl ?_
  refine J_get cx (v := .int (nI ct.2.1)) fX1_17 (11 + 2 * q) (iG_chU hq) rfl dX1_add_1 ?_
  refine J_if_lt cx (tgt := 19) dX1_add_4 (by decide) (fun h => absurd h (nI_pos (by omega))) (fun _ => ?_)
  refine J_aload_n cx dX1_add_7 rfl 0 rfl ?_
  refine J_get cx (v := .int (nI ct.2.1)) fX1_17 (11 + 2 * q) (iG_chU hq) rfl dX1_add_8 ?_
  refine J_aload_n cx dX1_add_11 rfl 0 rfl ?_
  refine J_get cx (v := .ref (ad 0 (12 + 2 * q))) fX1_11 (11 + 2 * q) (iG_chU hq) rfl dX1_add_12 ?_
  refine J_alen cx (v := nI 7) (12 + 2 * q) (iG_roU hq) (t0 := 3) rfl rfl dX1_add_15 ?_
  refine J_icmp_lt cx (tgt := 21) dX1_add_16 (by decide) (fun c_2 => ?_) (fun c_2 => ?_)
  · have c_2 := (nat_ic_lt (by omega) (by omega)).mp c_2
    have c_2d := decide_eq_true c_2
    exact absurd hlt (by omega)
  · have c_2 := (nat_ic_lt_f (by omega) (by omega)).mp c_2
    have c_2d := decide_eq_false (Nat.not_lt.mpr c_2)
    refine J_iconst cx (v := nI 0) dX1_add_19 (by decide) ?_
    exact J_zret cx rfl (u := ()) (rfl) rfl rfl (Nat.le_of_ble_eq_true rfl) (Nat.le_of_ble_eq_true rfl) dX1_add_20
set_option maxHeartbeats 4000000 in
set_option maxRecDepth 100000 in
theorem tX1_removeLast (l : Launch) (D : va_G) (g : Nat → ClassId) (A : Nat → Prop) (ad : Nat → Nat → Nat) (κ : CS) (X : XT) (cs : Nat → CT) (lf : Nat → Int64) (pr : PT)  (q : Nat) (ct : CT)  (hq : q < 3) (h1 : 1 ≤ ct.2.1) (hz : ct.2.1 ≤ 7) : CtV l D g A yX1_removeLast cX1_removeLast 1 ({ frames := 0, cells := 0, slots := 0, locals := 0 } : Room) [.ref (ad 0 (11 + 2 * q))] (iW ad g κ X (upc cs q ct) lf pr) (iW ad g κ X (upc cs q (ct.1, ct.2.1 - 1, ct.2.2)) lf pr) := by
  refine metJ (by decide) (Nat.le_of_ble_eq_true rfl) ?_
  intro p e s m args below meth c _ _ cx
  refine J_aload_n cx dX1_removeLast_0 rfl 0 rfl ?_
  refine J_get cx (v := .int (nI ct.2.1)) fX1_17 (11 + 2 * q) (iG_chU hq) rfl dX1_removeLast_1 ?_
  refine J_if_le cx (tgt := 17) dX1_removeLast_4 (by decide) (fun c_1 => ?_) (fun c_1 => ?_)
  · have c_1 := (nat_if_le (by omega)).mp c_1
    exact absurd h1 (by omega)
  · have c_1 := (nat_if_le_f (by omega)).mp c_1
    refine J_aload_n cx dX1_removeLast_7 rfl 0 rfl ?_
    refine J_dup cx dX1_removeLast_8 rfl ?_
    refine J_get cx (v := .int (nI ct.2.1)) fX1_17 (11 + 2 * q) (iG_chU hq) rfl dX1_removeLast_9 ?_
    refine J_iconst cx (v := nI 1) dX1_removeLast_12 (by decide) ?_
    refine J_isub cx dX1_removeLast_13 ?_
    refine J_top (v' := .int (nI (ct.2.1 - 1))) (congrArg Value.int (pk_sub (by omega))) ?_
    refine J_put cx (ws' := (iW ad g κ X (upc cs q (ct.1, (ct.2.1 - 1), ct.2.2)) lf pr)) fX1_17 ⟨tyX1_ok, nmX1, tyX1_ok 1 (by decide)⟩ rfl (11 + 2 * q) (iG_chU hq) rfl rfl (Nat.le_of_ble_eq_true rfl) (iG_setchU (s := (ct.2.1 - 1)) (d := ct.2.2) hq) dX1_removeLast_14 ?_
    exact J_vret cx rfl (u := ()) trivial rfl (Nat.le_of_ble_eq_true rfl) (Nat.le_of_ble_eq_true rfl) dX1_removeLast_17
set_option maxHeartbeats 4000000 in
set_option maxRecDepth 100000 in
theorem tX1_restart (l : Launch) (D : va_G) (g : Nat → ClassId) (A : Nat → Prop) (ad : Nat → Nat → Nat) (κ : CS) (X : XT) (cs : Nat → CT) (lf : Nat → Int64) (pr : PT)  (q : Nat) (ct : CT) (k : Nat) (dy : Int32) (hq : q < 3) (hk : k < κ.2.2.1 0) : CtV l D g A yX1_restart cX1_restart 3 ({ frames := 1, cells := 0, slots := 0, locals := 21 } : Room) [.ref (ad 0 (11 + 2 * q)), .ref (ad 1 k), .int dy] (iW ad g κ X (upc cs q ct) lf pr) (iW ad g κ X (upc cs q (va_up ct.1 0 (some k), 1, dy)) lf pr) := by
  refine metJ (by decide) (Nat.le_of_ble_eq_true rfl) ?_
  intro p e s m args below meth c _ _ cx
  refine J_aload_n cx dX1_restart_0 rfl 0 rfl ?_
  refine J_iconst cx (v := nI 0) dX1_restart_1 (by decide) ?_
  refine J_put cx (ws' := (iW ad g κ X (upc cs q (ct.1, 0, ct.2.2)) lf pr)) fX1_17 ⟨tyX1_ok, nmX1, tyX1_ok 1 (by decide)⟩ rfl (11 + 2 * q) (iG_chU hq) rfl rfl (Nat.le_of_ble_eq_true rfl) (iG_setchU (s := 0) (d := ct.2.2) hq) dX1_restart_2 ?_
  refine J_aload_n cx dX1_restart_5 rfl 0 rfl ?_
  refine J_iload_n cx dX1_restart_6 rfl 2 rfl ?_
  refine J_put cx (ws' := (iW ad g κ X (upc cs q (ct.1, 0, dy)) lf pr)) fX1_21 ⟨tyX1_ok, nmX1, tyX1_ok 2 (by decide)⟩ rfl (11 + 2 * q) (iG_chU hq) rfl rfl (Nat.le_of_ble_eq_true rfl) (iG_setchU (s := 0) (d := dy) hq) dX1_restart_7 ?_
  refine J_aload_n cx dX1_restart_10 rfl 0 rfl ?_
  refine J_aload_n cx dX1_restart_11 rfl 1 rfl ?_
  refine J_callVi cx kX1_24 (As := [.ref (ad 1 k)]) (tX1_add l D g A ad κ X cs lf pr  q (ct.1, 0, dy) k hq (show 0 < 7 by decide) hk) ⟨rfl, rfl, by decide, by decide⟩ ⟨by decide, by decide⟩ rfl (11 + 2 * q) (iG_ch hq) rfl rfl (Nat.le_of_ble_eq_true rfl) dX1_restart_12 ?_
  intro _ _ hr; cases hr
  refine J_pop cx dX1_restart_15 rfl ?_
  exact J_vret cx rfl (u := ()) trivial rfl (Nat.le_of_ble_eq_true rfl) (Nat.le_of_ble_eq_true rfl) dX1_restart_16
set_option maxHeartbeats 4000000 in
set_option maxRecDepth 100000 in
theorem tX1_isFitAt (l : Launch) (D : va_G) (g : Nat → ClassId) (A : Nat → Prop) (ad : Nat → Nat → Nat) (κ : CS) (X : XT) (cs : Nat → CT) (lf : Nat → Int64) (pr : PT)  (q : Nat) (ct : CT) (nx : Nat) (pl : Nat) (hq : q < 3) (hS : ShX κ X) (hI : InvM κ) (hC : ShC κ ct) (hx : nx < κ.2.2.1 0) (hp : pl ≤ ct.2.1) : CtI l D g A yX1_isFitAt cX1_isFitAt 3 .boolean ({ frames := 3, cells := 0, slots := 0, locals := 68 } : Room) [.ref (ad 0 (11 + 2 * q)), .ref (ad 1 nx), .int (nI pl)] (iW ad g κ X (upc cs q ct) lf pr) (zb (fitC κ ct nx pl)) (iW ad g κ X (upc cs q ct) lf pr) := by
  have hz := hC.1
  have hrl := rfI_le κ nx ct.2.2
  refine metJ (by decide) (Nat.le_of_ble_eq_true rfl) ?_
  intro p e s m args below meth c _ _ cx
  refine J_aload_n cx dX1_isFitAt_0 rfl 1 rfl ?_
  refine J_aload_n cx dX1_isFitAt_1 rfl 0 rfl ?_
  refine J_get cx (v := .int ct.2.2) fX1_21 (11 + 2 * q) (iG_chU hq) rfl dX1_isFitAt_2 ?_
  refine J_callVi cx kX1_47 (As := [.int ct.2.2]) (tX0_refusalOn l D g A ad κ X (upc cs q ct) lf pr  nx ct.2.2 hx) ⟨rfl, rfl, by decide, by decide⟩ ⟨by decide, by decide⟩ rfl (17 + nx) (iG_c (by first | assumption | omega)) rfl rfl (Nat.le_of_ble_eq_true rfl) dX1_isFitAt_5 ?_
  intro _ _ hr; cases hr
  refine J_bipush cx (v := nI 111) dX1_isFitAt_8 (by decide) ?_
  refine J_icmp_eq cx (tgt := 15) dX1_isFitAt_10 (by decide) (fun c_1 => ?_) (fun c_1 => ?_)
  · have c_1 := (nat_ic_eq (by omega) (by omega)).mp c_1
    have c_1d := decide_eq_true c_1
    refine J_iload_n cx dX1_isFitAt_15 rfl 2 rfl ?_
    refine J_if_eq cx (tgt := 45) dX1_isFitAt_16 (by decide) (fun c_2 => ?_) (fun c_2 => ?_)
    · have c_2 := (nat_if_eq (by omega)).mp c_2
      have c_2d := decide_eq_true c_2
      refine J_iconst cx (v := nI 1) dX1_isFitAt_45 (by decide) ?_
      refine J_goto cx (tgt := 50) dX1_isFitAt_46 (by decide) ?_
      exact J_zret cx rfl (u := ()) (rfl) (by simp only [fitC, zb, Bool.and_true, Bool.true_and, Bool.and_false, Bool.false_and, Bool.or_true, Bool.true_or, Bool.or_false, Bool.false_or, Bool.not_true, Bool.not_false, if_true, if_false, Bool.false_eq_true, decide_true, decide_false, ite_true, ite_false, ne_eq, not_true_eq_false, not_false_eq_true, xj, c_1d, c_2d]; try rfl) rfl (Nat.le_of_ble_eq_true rfl) (Nat.le_of_ble_eq_true rfl) dX1_isFitAt_50
    · have c_2 := (nat_if_eq_f (by omega)).mp c_2
      have c_2d := decide_eq_false c_2
      refine J_aload_n cx dX1_isFitAt_19 rfl 1 rfl ?_
      refine J_callVi cx kX1_51 (As := []) (tX0_isAuthority l D g A ad κ X (upc cs q ct) lf pr  nx hx) ⟨rfl, rfl, by decide, by decide⟩ ⟨by decide, by decide⟩ rfl (17 + nx) (iG_c (by first | assumption | omega)) rfl rfl (Nat.le_of_ble_eq_true rfl) dX1_isFitAt_20 ?_
      intro _ _ hr; cases hr
      refine J_top (v' := .int (zb (κ.2.1 0 nx))) (by rw [len_au hI hx]) ?_
      refine J_ifz_eq cx (tgt := 49) dX1_isFitAt_23 (by decide) (fun c_3 => ?_) (fun c_3 => ?_)
      · refine J_iconst cx (v := nI 0) dX1_isFitAt_49 (by decide) ?_
        exact J_zret cx rfl (u := ()) (rfl) (by simp only [fitC, zb, Bool.and_true, Bool.true_and, Bool.and_false, Bool.false_and, Bool.or_true, Bool.true_or, Bool.or_false, Bool.false_or, Bool.not_true, Bool.not_false, if_true, if_false, Bool.false_eq_true, decide_true, decide_false, ite_true, ite_false, ne_eq, not_true_eq_false, not_false_eq_true, xj, c_1d, c_2, c_2d, c_3]; try rfl) rfl (Nat.le_of_ble_eq_true rfl) (Nat.le_of_ble_eq_true rfl) dX1_isFitAt_50
      · refine J_aload_n cx dX1_isFitAt_26 rfl 1 rfl ?_
        refine J_get cx (v := .int (lenI κ nx)) fX1_54 (17 + nx) (iG_c (by first | assumption | omega)) rfl dX1_isFitAt_27 ?_
        refine J_top (v' := .int (κ.1 6 nx)) (congrArg Value.int (len_au' c_3)) ?_
        refine J_iload_n cx dX1_isFitAt_30 rfl 2 rfl ?_
        refine J_iconst cx (v := nI 1) dX1_isFitAt_31 (by decide) ?_
        refine J_isub cx dX1_isFitAt_32 ?_
        refine J_top (v' := .int (nI (pl - 1))) (congrArg Value.int (pk_sub (by omega))) ?_
        refine J_icmp_lt cx (tgt := 49) dX1_isFitAt_33 (by decide) (fun c_4 => ?_) (fun c_4 => ?_)
        · have c_4d := decide_eq_true c_4
          refine J_iconst cx (v := nI 0) dX1_isFitAt_49 (by decide) ?_
          exact J_zret cx rfl (u := ()) (rfl) (by simp only [fitC, zb, Bool.and_true, Bool.true_and, Bool.and_false, Bool.false_and, Bool.or_true, Bool.true_or, Bool.or_false, Bool.false_or, Bool.not_true, Bool.not_false, if_true, if_false, Bool.false_eq_true, decide_true, decide_false, ite_true, ite_false, ne_eq, not_true_eq_false, not_false_eq_true, xj, c_1d, c_2, c_2d, c_3, c_4, c_4d]; try rfl) rfl (Nat.le_of_ble_eq_true rfl) (Nat.le_of_ble_eq_true rfl) dX1_isFitAt_50
        · have c_4d := decide_eq_false c_4
          refine J_aload_n cx dX1_isFitAt_36 rfl 0 rfl ?_
          refine J_aload_n cx dX1_isFitAt_37 rfl 1 rfl ?_
          refine J_iload_n cx dX1_isFitAt_38 rfl 2 rfl ?_
          refine J_callVi cx kX1_57 (As := [.ref (ad 1 nx), .int (nI pl)]) (tX1_allowsNamesBefore l D g A ad κ X cs lf pr  q ct nx pl hq hS hI hC hx hp) ⟨rfl, rfl, by decide, by decide⟩ ⟨by decide, by decide⟩ rfl (11 + 2 * q) (iG_ch hq) rfl rfl (Nat.le_of_ble_eq_true rfl) dX1_isFitAt_39 ?_
          intro _ _ hr; cases hr
          refine J_ifz_eq cx (tgt := 49) dX1_isFitAt_42 (by decide) (fun c_5 => ?_) (fun c_5 => ?_)
          · refine J_iconst cx (v := nI 0) dX1_isFitAt_49 (by decide) ?_
            exact J_zret cx rfl (u := ()) (rfl) (by simp only [fitC, zb, Bool.and_true, Bool.true_and, Bool.and_false, Bool.false_and, Bool.or_true, Bool.true_or, Bool.or_false, Bool.false_or, Bool.not_true, Bool.not_false, if_true, if_false, Bool.false_eq_true, decide_true, decide_false, ite_true, ite_false, ne_eq, not_true_eq_false, not_false_eq_true, xj, c_1d, c_2, c_2d, c_3, c_4, c_4d, c_5]; try rfl) rfl (Nat.le_of_ble_eq_true rfl) (Nat.le_of_ble_eq_true rfl) dX1_isFitAt_50
          · refine J_iconst cx (v := nI 1) dX1_isFitAt_45 (by decide) ?_
            refine J_goto cx (tgt := 50) dX1_isFitAt_46 (by decide) ?_
            exact J_zret cx rfl (u := ()) (rfl) (by simp only [fitC, zb, Bool.and_true, Bool.true_and, Bool.and_false, Bool.false_and, Bool.or_true, Bool.true_or, Bool.or_false, Bool.false_or, Bool.not_true, Bool.not_false, if_true, if_false, Bool.false_eq_true, decide_true, decide_false, ite_true, ite_false, ne_eq, not_true_eq_false, not_false_eq_true, xj, c_1d, c_2, c_2d, c_3, c_4, c_4d, c_5]; try rfl) rfl (Nat.le_of_ble_eq_true rfl) (Nat.le_of_ble_eq_true rfl) dX1_isFitAt_50
  · have c_1 := (nat_ic_eq_f (by omega) (by omega)).mp c_1
    have c_1d := decide_eq_false c_1
    refine J_iconst cx (v := nI 0) dX1_isFitAt_13 (by decide) ?_
    exact J_zret cx rfl (u := ()) (rfl) (by simp only [fitC, zb, Bool.and_true, Bool.true_and, Bool.and_false, Bool.false_and, Bool.or_true, Bool.true_or, Bool.or_false, Bool.false_or, Bool.not_true, Bool.not_false, if_true, if_false, Bool.false_eq_true, decide_true, decide_false, ite_true, ite_false, ne_eq, not_true_eq_false, not_false_eq_true, xj, c_1, c_1d]; try rfl) rfl (Nat.le_of_ble_eq_true rfl) (Nat.le_of_ble_eq_true rfl) dX1_isFitAt_14
set_option maxHeartbeats 4000000 in
set_option maxRecDepth 100000 in
theorem tX1_isGood (l : Launch) (D : va_G) (g : Nat → ClassId) (A : Nat → Prop) (ad : Nat → Nat → Nat) (κ : CS) (X : XT) (cs : Nat → CT) (lf : Nat → Int64) (pr : PT)  (q : Nat) (ct : CT)  (hq : q < 3) (hS : ShX κ X) (hI : InvM κ) (hC : ShC κ ct) : CtI l D g A yX1_isGood cX1_isGood 3 .boolean ({ frames := 4, cells := 0, slots := 0, locals := 90 } : Room) [.ref (ad 0 (11 + 2 * q))] (iW ad g κ X (upc cs q ct) lf pr) (zb (goodC κ X ct)) (iW ad g κ X (upc cs q ct) lf pr) := by
  have hz := hC.1
  refine metJ (by decide) (Nat.le_of_ble_eq_true rfl) ?_
  intro p e s m args below meth c _ _ cx
  refine J_aload_n cx dX1_isGood_0 rfl 0 rfl ?_
  refine J_callVi cx kX1_61 (As := []) (tX1_endsInTrust l D g A ad κ X cs lf pr  q ct hq hS hC) ⟨rfl, rfl, by decide, by decide⟩ ⟨by decide, by decide⟩ rfl (11 + 2 * q) (iG_ch hq) rfl rfl (Nat.le_of_ble_eq_true rfl) dX1_isGood_1 ?_
  intro _ _ hr; cases hr
  refine J_ifz_ne cx (tgt := 9) dX1_isGood_4 (by decide) (fun c_1 => ?_) (fun c_1 => ?_)
  · refine J_iconst cx (v := nI 0) dX1_isGood_9 (by decide) ?_
    refine J_istore_n cx (L' := [(1, .int (nI 0)), (0, .ref (ad 0 (11 + 2 * q)))]) dX1_isGood_10 rfl (by decide) rfl ?_
    have LP : ∀ (fu : Nat) (r : Nat), (r ≤ ct.2.1) → (allN (fun r => fitC κ ct (wyO ct r) r) r = true) → ct.2.1 - r < fu → J p l e ({ frames := 4, cells := 0, slots := 0, locals := 90 } : Room) s m args below meth c D A 3 (MQ below (va_Qi (fun (r : Int32) (_ : Unit) => r = (zb (goodC κ X ct))) (fun _ => PO D A (iW ad g κ X (upc cs q ct) lf pr)) A) args s 0 0 A) 0 0 (iW ad g κ X (upc cs q ct) lf pr) [(1, .int (nI r)), (0, .ref (ad 0 (11 + 2 * q)))] 11 [] := by
      intro fu; induction fu with
      | zero => intro r hr hno hfu; exact absurd hfu (Nat.not_lt_zero _)
      | succ fu ih =>
        intro r hr hno hfu
        refine J_iload_n cx dX1_isGood_11 rfl 0 rfl ?_
        refine J_aload_n cx dX1_isGood_12 rfl 1 rfl ?_
        refine J_get cx (v := .int (nI ct.2.1)) fX1_17 (11 + 2 * q) (iG_chU hq) rfl dX1_isGood_13 ?_
        refine J_icmp_ge cx (tgt := 46) dX1_isGood_16 (by decide) (fun c_2 => ?_) (fun c_2 => ?_)
        · have c_2 := (nat_ic_ge (by omega) (by omega)).mp c_2
          have c_2d := decide_eq_true c_2
          refine J_iconst cx (v := nI 1) dX1_isGood_46 (by decide) ?_
          exact J_zret cx rfl (u := ()) (rfl) (by unfold goodC; rw [show ct.2.1 = r from by omega, hno, show thC κ X ct = true from c_1]; rfl) rfl (Nat.le_of_ble_eq_true rfl) (Nat.le_of_ble_eq_true rfl) dX1_isGood_47
        · have c_2 := (nat_ic_ge_f (by omega) (by omega)).mp c_2
          have c_2d := decide_eq_false (Nat.not_le.mpr c_2)
          refine J_aload_n cx dX1_isGood_19 rfl 1 rfl ?_
          refine J_iload_n cx dX1_isGood_20 rfl 0 rfl ?_
          refine J_callVq cx kX1_28 (As := [.int (nI r)]) (tX1_at l D g A ad κ X cs lf pr  q ct (nI r) hq hz) ⟨rfl, rfl, by decide, by decide⟩ ⟨by decide, by decide⟩ rfl (11 + 2 * q) (iG_ch hq) rfl rfl (Nat.le_of_ble_eq_true rfl) dX1_isGood_21 ?_
          intro _ _ hr; cases hr
          refine J_astore_nq cx (L' := [(2, va_rf ((atC ct (nI r)).map (ad 1))), (1, .int (nI r)), (0, .ref (ad 0 (11 + 2 * q)))]) dX1_isGood_24 rfl (by decide) rfl ?_
          refine J_aload_nq cx dX1_isGood_25 rfl 0 rfl ?_
          refine J_ifnull cx (tgt := 38) dX1_isGood_26 (by decide) (fun c_3 => ?_) (fun y_4 c_3 => ?_)
          · have hat := atC_at hC (show r < ct.2.1 by omega)
            have c_3 : atC ct (nI r) = none := Option.map_eq_none_iff.mp c_3
            exact absurd (hat.symm.trans c_3) (by simp)
          · have hat := atC_at hC (show r < ct.2.1 by omega)
            have c_3v := c_3
            obtain ⟨k, hk, hky⟩ := Option.map_eq_some_iff.mp c_3; subst hky
            have hkw : wyO ct r = k := Option.some.inj (hat.symm.trans hk)
            have hkb : k < κ.2.2.1 0 := hkw ▸ (wyO_at hC (show r < ct.2.1 by omega)).2
            refine J_Le (L' := [(2, .ref (ad 1 k)), (1, .int (nI r)), (0, .ref (ad 0 (11 + 2 * q)))]) (by rw [c_3v]; rfl) ?_
            refine J_aload_n cx dX1_isGood_29 rfl 2 rfl ?_
            refine J_aload_n cx dX1_isGood_30 rfl 0 rfl ?_
            refine J_iload_n cx dX1_isGood_31 rfl 1 rfl ?_
            refine J_callVi cx kX1_64 (As := [.ref (ad 1 k), .int (nI r)]) (tX1_isFitAt l D g A ad κ X cs lf pr  q ct k r hq hS hI hC hkb (by omega)) ⟨rfl, rfl, by decide, by decide⟩ ⟨by decide, by decide⟩ rfl (11 + 2 * q) (iG_ch hq) rfl rfl (Nat.le_of_ble_eq_true rfl) dX1_isGood_32 ?_
            intro _ _ hr; cases hr
            refine J_ifz_ne cx (tgt := 40) dX1_isGood_35 (by decide) (fun c_5 => ?_) (fun c_5 => ?_)
            · refine J_iinc cx (v := (nI (r + 1))) (L' := [(1, .int (nI (r + 1))), (2, .ref (ad 1 k)), (0, .ref (ad 0 (11 + 2 * q)))]) dX1_isGood_40 1 rfl (by exact nI_add r 1) (by decide) rfl ?_
              refine J_goto cx (tgt := 11) dX1_isGood_43 (by decide) ?_
              refine J_L [0, 2] rfl ?_
              exact ih (r + 1) (by omega) (by show (allN _ r && _) = true; rw [hno]; show fitC κ ct (wyO ct r) r = true; rw [hkw]; exact c_5) (by omega)
            · refine J_iconst cx (v := nI 0) dX1_isGood_38 (by decide) ?_
              exact J_zret cx rfl (u := ()) (rfl) (by simp [goodC, goodC_no (r := r) (by omega) (by rw [hkw]; exact c_5), zb]) rfl (Nat.le_of_ble_eq_true rfl) (Nat.le_of_ble_eq_true rfl) dX1_isGood_39
    refine J_L [0, 1] rfl ?_
    exact LP _ 0 (by omega) rfl (Nat.lt_succ_self _)
  · refine J_iconst cx (v := nI 0) dX1_isGood_7 (by decide) ?_
    exact J_zret cx rfl (u := ()) (rfl) (by simp [goodC, zb, c_1]) rfl (Nat.le_of_ble_eq_true rfl) (Nat.le_of_ble_eq_true rfl) dX1_isGood_8
