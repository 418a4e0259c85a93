def alB (κ : CS) (i v : Nat) : Bool := (decide (κ.1 7 i = 0) || belowB (nI v) (κ.1 7 i)) && (decide (κ.1 8 i = 0) || !belowB (nI v) (κ.1 8 i))
def thC (κ : CS) (X : XT) (ct : CT) : Bool := match lastC ct with | none => false | some k => decide (X.1 k = X.2.1 k) && κ.2.1 2 k
theorem thC_none {κ : CS} {X : XT} {ct : CT} (h : lastC ct = none) : thC κ X ct = false := by unfold thC; rw [h]
theorem thC_some {κ : CS} {X : XT} {ct : CT} {k : Nat} (h : lastC ct = some k) : thC κ X ct = (decide (X.1 k = X.2.1 k) && κ.2.1 2 k) := by unfold thC; rw [h]
theorem lastC_lt {κ : CS} {ct : CT} {k : Nat} (h : ShC κ ct) (hk : lastC ct = some k) : k < κ.2.2.1 0 := by
  unfold lastC at hk; split at hk
  · cases hk
  · exact h.2.1 _ (by have := h.1; omega) k hk
def hP (f : Nat → Option Nat) (i r : Nat) : Bool := match f r with | none => false | some k => !decide (k = i)
theorem hP_none {f : Nat → Option Nat} {i r : Nat} (h : f r = none) : hP f i r = false := by unfold hP; rw [h]
theorem hP_some {f : Nat → Option Nat} {i r k : Nat} (h : f r = some k) : hP f i r = !decide (k = i) := by unfold hP; rw [h]
def cdF (f : Nat → Option Nat) (i : Nat) (rk : Int32) : Nat → Nat → Nat → Option Nat
  | 0, _, _ => none
  | m + 1, j, fd => match f j with
    | none => cdF f i rk m (j + 1) fd
    | some k => if k = i then cdF f i rk m (j + 1) fd else if nI fd = rk then some k else cdF f i rk m (j + 1) (fd + 1)
theorem cdF_none {f : Nat → Option Nat} {i : Nat} {rk : Int32} {m j fd : Nat} (h : f j = none) : cdF f i rk (m + 1) j fd = cdF f i rk m (j + 1) fd := by show (match f j with | none => _ | some k => _) = _; rw [h]
theorem cdF_some {f : Nat → Option Nat} {i : Nat} {rk : Int32} {m j fd k : Nat} (h : f j = some k) : cdF f i rk (m + 1) j fd = (if k = i then cdF f i rk m (j + 1) fd else if nI fd = rk then some k else cdF f i rk m (j + 1) (fd + 1)) := by show (match f j with | none => _ | some k => _) = _; rw [h]
/-- the candidate of a rank, by the issuer's held certificates -/
def cdC (X : XT) (i : Nat) (rk : Int32) : Option Nat := cdF (X.2.2.2.2.1 (X.2.1 i)) i rk 3 0 0
theorem cdF_mem {f : Nat → Option Nat} {i : Nat} {rk : Int32} : ∀ m j fd k, cdF f i rk m j fd = some k → ∃ r, r < j + m ∧ j ≤ r ∧ f r = some k ∧ k ≠ i
  | 0, _, _, _, h => by cases h
  | m + 1, j, fd, k, h => by
    cases q : f j with
    | none => rw [cdF_none q] at h; obtain ⟨r, a, b, c⟩ := cdF_mem m _ _ _ h; exact ⟨r, by omega, by omega, c⟩
    | some z =>
      rw [cdF_some q] at h
      split at h
      · obtain ⟨r, a, b, c⟩ := cdF_mem m _ _ _ h; exact ⟨r, by omega, by omega, c⟩
      · rename_i hz
        split at h
        · cases h; exact ⟨j, by omega, by omega, q, hz⟩
        · obtain ⟨r, a, b, c⟩ := cdF_mem m _ _ _ h; exact ⟨r, by omega, by omega, c⟩
theorem cdC_lt {κ : CS} {X : XT} {i k : Nat} {rk : Int32} (hS : ShX κ X) (hi : i < κ.2.2.1 0) (h : cdC X i rk = some k) : k < κ.2.2.1 0 ∧ k ≠ i := by
  obtain ⟨r, a, _, b, c⟩ := cdF_mem _ _ _ _ h
  exact ⟨hS.2.2.2.1 _ (hS.is hi) r (by omega) k b, c⟩
set_option maxHeartbeats 4000000 in
set_option maxRecDepth 100000 in
theorem tX1_endsInTrust (l : Launch) (D : va_G) (g : Nat → ClassId) (A : Nat → Prop) (ad : Nat → Nat → Nat) (κ : CS) (X : XT) (cs : Nat → CT) (lf : Nat → Int64) (pr : PT)  (q : Nat) (ct : CT)  (hq : q < 3) (hS : ShX κ X) (hC : ShC κ ct) : CtI l D g A yX1_endsInTrust cX1_endsInTrust 2 .boolean ({ frames := 2, cells := 0, slots := 0, locals := 41 } : Room) [.ref (ad 0 (11 + 2 * q))] (iW ad g κ X (upc cs q ct) lf pr) (zb (thC κ X ct)) (iW ad g κ X (upc cs q ct) lf pr) := by
  have hz := hC.1
  refine metJ (by decide) (Nat.le_of_ble_eq_true rfl) ?_
  intro p e s m args below meth c _ _ cx
  refine J_aload_n cx dX1_endsInTrust_0 rfl 0 rfl ?_
  refine J_callVq cx kX1_32 (As := []) (tX1_last l D g A ad κ X cs lf pr  q ct hq hz) ⟨rfl, rfl, by decide, by decide⟩ ⟨by decide, by decide⟩ rfl (11 + 2 * q) (iG_ch hq) rfl rfl (Nat.le_of_ble_eq_true rfl) dX1_endsInTrust_1 ?_
  intro _ _ hr; cases hr
  refine J_astore_nq cx (L' := [(1, va_rf ((lastC ct).map (ad 1))), (0, .ref (ad 0 (11 + 2 * q)))]) dX1_endsInTrust_4 rfl (by decide) rfl ?_
  refine J_aload_nq cx dX1_endsInTrust_5 rfl 0 rfl ?_
  refine J_ifnull cx (tgt := 27) dX1_endsInTrust_6 (by decide) (fun c_1 => ?_) (fun y_2 c_1 => ?_)
  · have c_1 : lastC ct = none := Option.map_eq_none_iff.mp c_1
    refine J_iconst cx (v := nI 0) dX1_endsInTrust_27 (by decide) ?_
    exact J_zret cx rfl (u := ()) (rfl) (by rw [thC_none c_1]; rfl) rfl (Nat.le_of_ble_eq_true rfl) (Nat.le_of_ble_eq_true rfl) dX1_endsInTrust_28
  · have c_1v := c_1
    obtain ⟨k, hk, hky⟩ := Option.map_eq_some_iff.mp c_1; subst hky
    have hkb := lastC_lt hC hk
    refine J_Le (L' := [(1, .ref (ad 1 k)), (0, .ref (ad 0 (11 + 2 * q)))]) (by rw [c_1v]; rfl) ?_
    refine J_aload_n cx dX1_endsInTrust_9 rfl 0 rfl ?_
    refine J_callVi cx kX1_36 (As := []) (tX0_isRoot l D g A ad κ X (upc cs q ct) lf pr  k hS hkb) ⟨rfl, rfl, by decide, by decide⟩ ⟨by decide, by decide⟩ rfl (17 + k) (iG_c (by first | assumption | omega)) rfl rfl (Nat.le_of_ble_eq_true rfl) dX1_endsInTrust_10 ?_
    intro _ _ hr; cases hr
    refine J_ifz_eq cx (tgt := 27) dX1_endsInTrust_13 (by decide) (fun c_3 => ?_) (fun c_3 => ?_)
    · have c_3 := of_decide_eq_false c_3
      refine J_iconst cx (v := nI 0) dX1_endsInTrust_27 (by decide) ?_
      exact J_zret cx rfl (u := ()) (rfl) (by rw [thC_some hk]; simp [zb, c_3]) rfl (Nat.le_of_ble_eq_true rfl) (Nat.le_of_ble_eq_true rfl) dX1_endsInTrust_28
    · have c_3 := of_decide_eq_true c_3
      refine J_aload_n cx dX1_endsInTrust_16 rfl 0 rfl ?_
      refine J_get cx (v := .int (zb (κ.2.1 2 k))) fX1_40 (17 + k) (iG_c (by first | assumption | omega)) rfl dX1_endsInTrust_17 ?_
      refine J_ifz_eq cx (tgt := 27) dX1_endsInTrust_20 (by decide) (fun c_4 => ?_) (fun c_4 => ?_)
      · refine J_iconst cx (v := nI 0) dX1_endsInTrust_27 (by decide) ?_
        exact J_zret cx rfl (u := ()) (rfl) (by rw [thC_some hk]; simp [zb, c_3, c_4]) rfl (Nat.le_of_ble_eq_true rfl) (Nat.le_of_ble_eq_true rfl) dX1_endsInTrust_28
      · refine J_iconst cx (v := nI 1) dX1_endsInTrust_23 (by decide) ?_
        refine J_goto cx (tgt := 28) dX1_endsInTrust_24 (by decide) ?_
        exact J_zret cx rfl (u := ()) (rfl) (by rw [thC_some hk]; simp [zb, c_3, c_4]) rfl (Nat.le_of_ble_eq_true rfl) (Nat.le_of_ble_eq_true rfl) dX1_endsInTrust_28
set_option maxHeartbeats 4000000 in
set_option maxRecDepth 100000 in
theorem tX0_countCandidates (l : Launch) (D : va_G) (g : Nat → ClassId) (A : Nat → Prop) (ad : Nat → Nat → Nat) (κ : CS) (X : XT) (cs : Nat → CT) (lf : Nat → Int64) (pr : PT)  (i : Nat)  (hS : ShX κ X) (hi : i < κ.2.2.1 0) : CtI l D g A yX0_countCandidates cX0_countCandidates 6 .int ({ frames := 0, cells := 0, slots := 0, locals := 0 } : Room) [.ref (ad 1 i)] (iW ad g κ X cs lf pr) (nI (cnt (hP (X.2.2.2.2.1 (X.2.1 i)) i) 3)) (iW ad g κ X cs lf pr) := by
  refine metJ (by decide) (Nat.le_of_ble_eq_true rfl) ?_
  intro p e s m args below meth c _ _ cx
  refine J_apart (fun hDD => ?_)
  refine J_iconst cx (v := nI 0) dX0_countCandidates_0 (by decide) ?_
  refine J_istore_n cx (L' := [(1, .int (nI 0)), (0, .ref (ad 1 i))]) dX0_countCandidates_1 rfl (by decide) rfl ?_
  refine J_aload_n cx dX0_countCandidates_2 rfl 1 rfl ?_
  refine J_get cx (v := .ref (ad 2 (X.2.1 i))) fX0_19 (17 + i) (iG_c (by first | assumption | omega)) rfl dX0_countCandidates_3 ?_
  refine J_get cx (v := .ref (ad 3 (X.2.1 i))) fX0_58 (17 + κ.2.2.1 0 + (X.2.1 i)) (iG_h (hS.is (by first | assumption | omega))) rfl dX0_countCandidates_6 ?_
  refine J_astore_n cx (L' := [(2, .ref (ad 3 (X.2.1 i))), (1, .int (nI 0)), (0, .ref (ad 1 i))]) dX0_countCandidates_9 rfl (by decide) rfl ?_
  refine J_aload_n cx dX0_countCandidates_10 rfl 0 rfl ?_
  refine J_alen cx (v := nI 3) (17 + κ.2.2.1 0 + κ.2.2.1 1 + (X.2.1 i)) (iG_v (hS.is (by first | assumption | omega))) (t0 := 3) rfl rfl dX0_countCandidates_11 ?_
  refine J_istore_n cx (L' := [(3, .int (nI 3)), (2, .ref (ad 3 (X.2.1 i))), (1, .int (nI 0)), (0, .ref (ad 1 i))]) dX0_countCandidates_12 rfl (by decide) rfl ?_
  refine J_iconst cx (v := nI 0) dX0_countCandidates_13 (by decide) ?_
  refine J_istore cx (L' := [(4, .int (nI 0)), (3, .int (nI 3)), (2, .ref (ad 3 (X.2.1 i))), (1, .int (nI 0)), (0, .ref (ad 1 i))]) dX0_countCandidates_14 (by decide) rfl ?_
  have LP : ∀ (fu : Nat) (r : Nat), (r ≤ 3) → 3 - r < fu → J p l e ({ frames := 0, cells := 0, slots := 0, locals := 0 } : Room) s m args below meth c D A 6 (MQ below (va_Qi (fun (r : Int32) (_ : Unit) => r = (nI (cnt (hP (X.2.2.2.2.1 (X.2.1 i)) i) 3))) (fun _ => PO D A (iW ad g κ X cs lf pr)) A) args s 0 0 A) 0 0 (iW ad g κ X cs lf pr) [(1, .int (nI (cnt (hP (X.2.2.2.2.1 (X.2.1 i)) i) r))), (2, .ref (ad 3 (X.2.1 i))), (3, .int (nI 3)), (4, .int (nI r)), (0, .ref (ad 1 i))] 16 [] := by
    intro fu; induction fu with
    | zero => intro r hr hfu; exact absurd hfu (Nat.not_lt_zero _)
    | succ fu ih =>
      intro r hr hfu
      refine J_iload cx dX0_countCandidates_16 3 rfl ?_
      refine J_iload_n cx dX0_countCandidates_18 rfl 2 rfl ?_
      refine J_icmp_ge cx (tgt := 48) dX0_countCandidates_19 (by decide) (fun c_1 => ?_) (fun c_1 => ?_)
      · have c_1 := (nat_ic_ge (by omega) (by omega)).mp c_1
        have c_1d := decide_eq_true c_1
        refine J_iload_n cx dX0_countCandidates_48 rfl 0 rfl ?_
        exact J_iret cx rfl (u := ()) (by rw [show r = 3 from by omega]) rfl (Nat.le_of_ble_eq_true rfl) (Nat.le_of_ble_eq_true rfl) dX0_countCandidates_49
      · have c_1 := (nat_ic_ge_f (by omega) (by omega)).mp c_1
        have c_1d := decide_eq_false (Nat.not_le.mpr c_1)
        refine J_aload_n cx dX0_countCandidates_22 rfl 1 rfl ?_
        refine J_iload cx dX0_countCandidates_23 3 rfl ?_
        refine J_aald cx (j := r) (f := rfa ad (X.2.2.2.2.1 (X.2.1 i))) (17 + κ.2.2.1 0 + κ.2.2.1 1 + (X.2.1 i)) (iG_v (hS.is (by first | assumption | omega))) rfl (by omega) (by decide) dX0_countCandidates_25 ?_
        refine J_astoreq cx (L' := [(5, va_rf (rfa ad (X.2.2.2.2.1 (X.2.1 i)) r)), (1, .int (nI (cnt (hP (X.2.2.2.2.1 (X.2.1 i)) i) r))), (2, .ref (ad 3 (X.2.1 i))), (3, .int (nI 3)), (4, .int (nI r)), (0, .ref (ad 1 i))]) dX0_countCandidates_26 (by decide) rfl ?_
        refine J_aloadq cx dX0_countCandidates_28 0 rfl ?_
        refine J_ifnull cx (tgt := 42) dX0_countCandidates_30 (by decide) (fun c_2 => ?_) (fun y_3 c_2 => ?_)
        · have c_2 := rfa_none c_2
          refine J_Le (L' := [(5, va_rf (rfa ad (X.2.2.2.2.1 (X.2.1 i)) r)), (1, .int (nI (cnt (hP (X.2.2.2.2.1 (X.2.1 i)) i) (r + 1)))), (2, .ref (ad 3 (X.2.1 i))), (3, .int (nI 3)), (4, .int (nI r)), (0, .ref (ad 1 i))]) (by rw [← cnt_f (p := hP (X.2.2.2.2.1 (X.2.1 i)) i) (k := r) (hP_none c_2)]; try rfl) ?_
          refine J_iinc cx (v := (nI (r + 1))) (L' := [(4, .int (nI (r + 1))), (5, va_rf (rfa ad (X.2.2.2.2.1 (X.2.1 i)) r)), (1, .int (nI (cnt (hP (X.2.2.2.2.1 (X.2.1 i)) i) (r + 1)))), (2, .ref (ad 3 (X.2.1 i))), (3, .int (nI 3)), (0, .ref (ad 1 i))]) dX0_countCandidates_42 4 rfl (by exact nI_add r 1) (by decide) rfl ?_
          refine J_goto cx (tgt := 16) dX0_countCandidates_45 (by decide) ?_
          refine J_L [2, 3, 4, 0, 5] rfl ?_
          exact ih (r + 1) (by omega) (by omega)
        · have c_2v := c_2
          obtain ⟨k, hk, hky⟩ := rfa_some c_2; subst hky
          have hkb := hS.2.2.2.1 _ (hS.is hi) r (by omega) k hk
          refine J_Le (L' := [(5, .ref (ad 1 k)), (1, .int (nI (cnt (hP (X.2.2.2.2.1 (X.2.1 i)) i) r))), (2, .ref (ad 3 (X.2.1 i))), (3, .int (nI 3)), (4, .int (nI r)), (0, .ref (ad 1 i))]) (by rw [c_2v]; rfl) ?_
          refine J_aload cx dX0_countCandidates_33 0 rfl ?_
          refine J_aload_n cx dX0_countCandidates_35 rfl 5 rfl ?_
          refine J_acmp_eq cx (rx := some (ad 1 k)) (ry := some (ad 1 i)) (tgt := 42) dX0_countCandidates_36 (by decide) (fun c_4 => ?_) (fun c_4 => ?_)
          · have c_4 : k = i := iG_ad1 hDD hkb hi (Option.some.inj c_4)
            refine J_Le (L' := [(5, .ref (ad 1 k)), (1, .int (nI (cnt (hP (X.2.2.2.2.1 (X.2.1 i)) i) (r + 1)))), (2, .ref (ad 3 (X.2.1 i))), (3, .int (nI 3)), (4, .int (nI r)), (0, .ref (ad 1 i))]) (by rw [← cnt_f (p := hP (X.2.2.2.2.1 (X.2.1 i)) i) (k := r) ((hP_some hk).trans (by simp [c_4]))]; try rfl) ?_
            refine J_iinc cx (v := (nI (r + 1))) (L' := [(4, .int (nI (r + 1))), (5, .ref (ad 1 k)), (1, .int (nI (cnt (hP (X.2.2.2.2.1 (X.2.1 i)) i) (r + 1)))), (2, .ref (ad 3 (X.2.1 i))), (3, .int (nI 3)), (0, .ref (ad 1 i))]) dX0_countCandidates_42 4 rfl (by exact nI_add r 1) (by decide) rfl ?_
            refine J_goto cx (tgt := 16) dX0_countCandidates_45 (by decide) ?_
            refine J_L [2, 3, 4, 0, 5] rfl ?_
            exact ih (r + 1) (by omega) (by omega)
          · have c_4 : ¬ k = i := fun z => c_4 (by rw [z])
            refine J_iinc cx (v := (nI ((cnt (hP (X.2.2.2.2.1 (X.2.1 i)) i) r) + 1))) (L' := [(1, .int (nI ((cnt (hP (X.2.2.2.2.1 (X.2.1 i)) i) r) + 1))), (5, .ref (ad 1 k)), (2, .ref (ad 3 (X.2.1 i))), (3, .int (nI 3)), (4, .int (nI r)), (0, .ref (ad 1 i))]) dX0_countCandidates_39 1 rfl (by exact nI_add (cnt (hP (X.2.2.2.2.1 (X.2.1 i)) i) r) 1) (by decide) rfl ?_
            refine J_Le (L' := [(1, .int (nI (cnt (hP (X.2.2.2.2.1 (X.2.1 i)) i) (r + 1)))), (5, .ref (ad 1 k)), (2, .ref (ad 3 (X.2.1 i))), (3, .int (nI 3)), (4, .int (nI r)), (0, .ref (ad 1 i))]) (by rw [← cnt_t (p := hP (X.2.2.2.2.1 (X.2.1 i)) i) (k := r) ((hP_some hk).trans (by simp [c_4]))]; try rfl) ?_
            refine J_iinc cx (v := (nI (r + 1))) (L' := [(4, .int (nI (r + 1))), (1, .int (nI (cnt (hP (X.2.2.2.2.1 (X.2.1 i)) i) (r + 1)))), (5, .ref (ad 1 k)), (2, .ref (ad 3 (X.2.1 i))), (3, .int (nI 3)), (0, .ref (ad 1 i))]) dX0_countCandidates_42 4 rfl (by exact nI_add r 1) (by decide) rfl ?_
            refine J_goto cx (tgt := 16) dX0_countCandidates_45 (by decide) ?_
            refine J_L [1, 3, 4, 0, 5] rfl ?_
            exact ih (r + 1) (by omega) (by omega)
  refine J_L [3, 2, 1, 0, 4] rfl ?_
  exact LP _ 0 (by omega) (Nat.lt_succ_self _)
set_option maxHeartbeats 4000000 in
set_option maxRecDepth 100000 in
theorem tX0_candidate (l : Launch) (D : va_G) (g : Nat → ClassId) (A : Nat → Prop) (ad : Nat → Nat → Nat) (κ : CS) (X : XT) (cs : Nat → CT) (lf : Nat → Int64) (pr : PT)  (i : Nat) (rk : Int32) (hS : ShX κ X) (hi : i < κ.2.2.1 0) : CtQ l D g A yX0_candidate cX0_candidate 7 (.object "Certhold$Certificate") ({ frames := 0, cells := 0, slots := 0, locals := 0 } : Room) [.ref (ad 1 i), .int rk] (iW ad g κ X cs lf pr) ((cdC X i rk).map (ad 1)) (iW ad g κ X cs lf pr) := by
  refine metJ (by decide) (Nat.le_of_ble_eq_true rfl) ?_
  intro p e s m args below meth c _ _ cx
  refine J_apart (fun hDD => ?_)
  refine J_iconst cx (v := nI 0) dX0_candidate_0 (by decide) ?_
  refine J_istore_n cx (L' := [(2, .int (nI 0)), (0, .ref (ad 1 i)), (1, .int rk)]) dX0_candidate_1 rfl (by decide) rfl ?_
  refine J_aload_n cx dX0_candidate_2 rfl 1 rfl ?_
  refine J_get cx (v := .ref (ad 2 (X.2.1 i))) fX0_19 (17 + i) (iG_c (by first | assumption | omega)) rfl dX0_candidate_3 ?_
  refine J_get cx (v := .ref (ad 3 (X.2.1 i))) fX0_58 (17 + κ.2.2.1 0 + (X.2.1 i)) (iG_h (hS.is (by first | assumption | omega))) rfl dX0_candidate_6 ?_
  refine J_astore_n cx (L' := [(3, .ref (ad 3 (X.2.1 i))), (2, .int (nI 0)), (0, .ref (ad 1 i)), (1, .int rk)]) dX0_candidate_9 rfl (by decide) rfl ?_
  refine J_aload_n cx dX0_candidate_10 rfl 0 rfl ?_
  refine J_alen cx (v := nI 3) (17 + κ.2.2.1 0 + κ.2.2.1 1 + (X.2.1 i)) (iG_v (hS.is (by first | assumption | omega))) (t0 := 3) rfl rfl dX0_candidate_11 ?_
  refine J_istore cx (L' := [(4, .int (nI 3)), (3, .ref (ad 3 (X.2.1 i))), (2, .int (nI 0)), (0, .ref (ad 1 i)), (1, .int rk)]) dX0_candidate_12 (by decide) rfl ?_
  refine J_iconst cx (v := nI 0) dX0_candidate_14 (by decide) ?_
  refine J_istore cx (L' := [(5, .int (nI 0)), (4, .int (nI 3)), (3, .ref (ad 3 (X.2.1 i))), (2, .int (nI 0)), (0, .ref (ad 1 i)), (1, .int rk)]) dX0_candidate_15 (by decide) rfl ?_
  have LP : ∀ (fu : Nat) (r : Nat) (fd : Nat), (r ≤ 3) → (fd ≤ r) → (cdF (X.2.2.2.2.1 (X.2.1 i)) i rk (3 - r) r fd = cdC X i rk) → 3 - r < fu → J p l e ({ frames := 0, cells := 0, slots := 0, locals := 0 } : Room) s m args below meth c D A 7 (MQ below (va_Qq (fun (r : Option Nat) (_ : Unit) => r = ((cdC X i rk).map (ad 1))) (fun _ => PO D A (iW ad g κ X cs lf pr)) A) args s 0 0 A) 0 0 (iW ad g κ X cs lf pr) [(2, .int (nI fd)), (3, .ref (ad 3 (X.2.1 i))), (4, .int (nI 3)), (5, .int (nI r)), (0, .ref (ad 1 i)), (1, .int rk)] 17 [] := by
    intro fu; induction fu with
    | zero => intro r fd hr hfd heq hfu; exact absurd hfu (Nat.not_lt_zero _)
    | succ fu ih =>
      intro r fd hr hfd heq hfu
      refine J_iload cx dX0_candidate_17 3 rfl ?_
      refine J_iload cx dX0_candidate_19 2 rfl ?_
      refine J_icmp_ge cx (tgt := 58) dX0_candidate_21 (by decide) (fun c_1 => ?_) (fun c_1 => ?_)
      · have c_1 := (nat_ic_ge (by omega) (by omega)).mp c_1
        have c_1d := decide_eq_true c_1
        refine J_null cx dX0_candidate_58 ?_
        refine J_top (v' := va_rf none) rfl ?_
        exact J_qret cx rfl (u := ()) (v := none) (by rw [← heq, show 3 - r = 0 from by omega]; rfl) rfl (Nat.le_of_ble_eq_true rfl) (Nat.le_of_ble_eq_true rfl) dX0_candidate_59
      · have c_1 := (nat_ic_ge_f (by omega) (by omega)).mp c_1
        have c_1d := decide_eq_false (Nat.not_le.mpr c_1)
        refine J_aload_n cx dX0_candidate_24 rfl 1 rfl ?_
        refine J_iload cx dX0_candidate_25 3 rfl ?_
        refine J_aald cx (j := r) (f := rfa ad (X.2.2.2.2.1 (X.2.1 i))) (17 + κ.2.2.1 0 + κ.2.2.1 1 + (X.2.1 i)) (iG_v (hS.is (by first | assumption | omega))) rfl (by omega) (by decide) dX0_candidate_27 ?_
        refine J_astoreq cx (L' := [(6, va_rf (rfa ad (X.2.2.2.2.1 (X.2.1 i)) r)), (2, .int (nI fd)), (3, .ref (ad 3 (X.2.1 i))), (4, .int (nI 3)), (5, .int (nI r)), (0, .ref (ad 1 i)), (1, .int rk)]) dX0_candidate_28 (by decide) rfl ?_
        refine J_aloadq cx dX0_candidate_30 0 rfl ?_
        refine J_ifnull cx (tgt := 52) dX0_candidate_32 (by decide) (fun c_2 => ?_) (fun y_3 c_2 => ?_)
        · have c_2 := rfa_none c_2
          refine J_iinc cx (v := (nI (r + 1))) (L' := [(5, .int (nI (r + 1))), (6, va_rf (rfa ad (X.2.2.2.2.1 (X.2.1 i)) r)), (2, .int (nI fd)), (3, .ref (ad 3 (X.2.1 i))), (4, .int (nI 3)), (0, .ref (ad 1 i)), (1, .int rk)]) dX0_candidate_52 4 rfl (by exact nI_add r 1) (by decide) rfl ?_
          refine J_goto cx (tgt := 17) dX0_candidate_55 (by decide) ?_
          refine J_L [2, 3, 4, 0, 5, 6] rfl ?_
          exact ih (r + 1) _ (by omega) (by omega) (by rw [← heq, show 3 - r = (3 - (r + 1)) + 1 from by omega]; rw [cdF_none c_2]) (by omega)
        · have c_2v := c_2
          obtain ⟨k, hk, hky⟩ := rfa_some c_2; subst hky
          have hkb := hS.2.2.2.1 _ (hS.is hi) r (by omega) k hk
          refine J_Le (L' := [(6, .ref (ad 1 k)), (2, .int (nI fd)), (3, .ref (ad 3 (X.2.1 i))), (4, .int (nI 3)), (5, .int (nI r)), (0, .ref (ad 1 i)), (1, .int rk)]) (by rw [c_2v]; rfl) ?_
          refine J_aload cx dX0_candidate_35 0 rfl ?_
          refine J_aload_n cx dX0_candidate_37 rfl 5 rfl ?_
          refine J_acmp_eq cx (rx := some (ad 1 k)) (ry := some (ad 1 i)) (tgt := 52) dX0_candidate_38 (by decide) (fun c_4 => ?_) (fun c_4 => ?_)
          · have c_4 : k = i := iG_ad1 hDD hkb hi (Option.some.inj c_4)
            refine J_iinc cx (v := (nI (r + 1))) (L' := [(5, .int (nI (r + 1))), (6, .ref (ad 1 k)), (2, .int (nI fd)), (3, .ref (ad 3 (X.2.1 i))), (4, .int (nI 3)), (0, .ref (ad 1 i)), (1, .int rk)]) dX0_candidate_52 4 rfl (by exact nI_add r 1) (by decide) rfl ?_
            refine J_goto cx (tgt := 17) dX0_candidate_55 (by decide) ?_
            refine J_L [2, 3, 4, 0, 5, 6] rfl ?_
            exact ih (r + 1) _ (by omega) (by omega) (by rw [← heq, show 3 - r = (3 - (r + 1)) + 1 from by omega]; rw [cdF_some hk, if_pos c_4]) (by omega)
          · have c_4 : ¬ k = i := fun z => c_4 (by rw [z])
            refine J_iload_n cx dX0_candidate_41 rfl 1 rfl ?_
            refine J_iload_n cx dX0_candidate_42 rfl 6 rfl ?_
            refine J_icmp_ne cx (tgt := 49) dX0_candidate_43 (by decide) (fun c_5 => ?_) (fun c_5 => ?_)
            · have c_5d := decide_eq_false c_5
              refine J_iinc cx (v := (nI (fd + 1))) (L' := [(2, .int (nI (fd + 1))), (6, .ref (ad 1 k)), (3, .ref (ad 3 (X.2.1 i))), (4, .int (nI 3)), (5, .int (nI r)), (0, .ref (ad 1 i)), (1, .int rk)]) dX0_candidate_49 1 rfl (by exact nI_add fd 1) (by decide) rfl ?_
              refine J_iinc cx (v := (nI (r + 1))) (L' := [(5, .int (nI (r + 1))), (2, .int (nI (fd + 1))), (6, .ref (ad 1 k)), (3, .ref (ad 3 (X.2.1 i))), (4, .int (nI 3)), (0, .ref (ad 1 i)), (1, .int rk)]) dX0_candidate_52 4 rfl (by exact nI_add r 1) (by decide) rfl ?_
              refine J_goto cx (tgt := 17) dX0_candidate_55 (by decide) ?_
              refine J_L [1, 3, 4, 0, 5, 6] rfl ?_
              exact ih (r + 1) _ (by omega) (by omega) (by rw [← heq, show 3 - r = (3 - (r + 1)) + 1 from by omega]; rw [cdF_some hk, if_neg c_4]; rw [if_neg c_5]) (by omega)
            · have c_5d := decide_eq_true c_5
              refine J_aload cx dX0_candidate_46 0 rfl ?_
              exact J_qret cx rfl (u := ()) (v := some (ad 1 k)) (by rw [← heq, show 3 - r = (3 - (r + 1)) + 1 from by omega, cdF_some hk, if_neg c_4, if_pos c_5]; rfl) rfl (Nat.le_of_ble_eq_true rfl) (Nat.le_of_ble_eq_true rfl) dX0_candidate_48
  refine J_L [3, 2, 1, 0, 4, 5] rfl ?_
  exact LP _ 0 0 (by omega) (by omega) rfl (Nat.lt_succ_self _)
