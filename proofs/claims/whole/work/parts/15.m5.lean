set_option maxHeartbeats 4000000 in
set_option maxRecDepth 100000 in
theorem tX7_isBelow (l : Launch) (D : va_G) (g : Nat → ClassId) (A : Nat → Prop) (ad : Nat → Nat) (κ : CS) (th : Int32) (ch : Nat → Nat) (cm rm : Nat) (row : Nat → Int64)  (xn : Int32) (xo : Int32)  : CtI l D g A yX7_isBelow cX7_isBelow 3 .boolean ({ frames := 2, cells := 0, slots := 0, locals := 44 } : Room) [.ref (ad 0), .int xn, .int xo] (mW ad g κ th ch cm rm row) (zb (opBelow xn xo).2) (mW ad g κ (nI (opBelow xn xo).1) ch cm rm row) := by
  refine metJ (by decide) (Nat.le_of_ble_eq_true rfl) ?_
  intro p e s m args below meth c _ _ cx
  refine J_aload_n cx dX7_isBelow_0 rfl 0 rfl ?_
  refine J_iload_n cx dX7_isBelow_1 rfl 1 rfl ?_
  refine J_callSi cx kX7_85 (As := [.int xn]) (tX7_isName l D g A ad κ th ch cm rm row  xn ) ⟨rfl, rfl, by decide, by decide⟩ ⟨by decide, by decide⟩ rfl rfl (Nat.le_of_ble_eq_true rfl) dX7_isBelow_2 ?_
  intro _ _ hr; cases hr
  refine J_ifz_eq cx (tgt := 15) dX7_isBelow_5 (by decide) (fun c_1 => ?_) (fun c_1 => ?_)
  · refine J_iconst cx (v := nI 1) dX7_isBelow_15 (by decide) ?_
    refine J_goto cx (tgt := 20) dX7_isBelow_16 (by decide) ?_
    refine J_iconst cx (v := nI 1) dX7_isBelow_20 (by decide) ?_
    refine J_callVi cx kX7_78 (As := [.int (nI 1), .int (nI 1)]) (tX7_isThrown l D g A ad κ th ch cm rm row  true (nI 1) ) ⟨rfl, rfl, by decide, by decide⟩ ⟨by decide, by decide⟩ rfl 0 rfl rfl rfl (Nat.le_of_ble_eq_true rfl) dX7_isBelow_21 ?_
    intro _ _ hr; cases hr
    refine J_ifz_ne cx (tgt := 39) dX7_isBelow_24 (by decide) (fun _ => ?_) (fun h => absurd h (by decide))
    refine J_iconst cx (v := nI 0) dX7_isBelow_39 (by decide) ?_
    exact J_zret cx rfl (u := ()) (rfl) (by simp [opBelow, zb, c_1]) (by simp [opBelow, c_1]; try rfl) (Nat.le_of_ble_eq_true rfl) (Nat.le_of_ble_eq_true rfl) dX7_isBelow_40
  · obtain ⟨j, hj, hjb, hxj, _⟩ := nameB_le c_1; subst hxj
    refine J_iload_n cx dX7_isBelow_8 rfl 2 rfl ?_
    refine J_callSi cx kX7_85 (As := [.int xo]) (tX7_isName l D g A ad κ th ch cm rm row  xo ) ⟨rfl, rfl, by decide, by decide⟩ ⟨by decide, by decide⟩ rfl rfl (Nat.le_of_ble_eq_true rfl) dX7_isBelow_9 ?_
    intro _ _ hr; cases hr
    refine J_ifz_ne cx (tgt := 19) dX7_isBelow_12 (by decide) (fun c_3 => ?_) (fun c_3 => ?_)
    · obtain ⟨i, hi, hib, hxi, _⟩ := nameB_le c_3; subst hxi
      have hbel : belowB (nI j) (nI i) = und 10 j i := belowB_nI (by omega) (by omega)
      refine J_iconst cx (v := nI 0) dX7_isBelow_19 (by decide) ?_
      refine J_iconst cx (v := nI 1) dX7_isBelow_20 (by decide) ?_
      refine J_callVi cx kX7_78 (As := [.int (nI 0), .int (nI 1)]) (tX7_isThrown l D g A ad κ th ch cm rm row  false (nI 1) ) ⟨rfl, rfl, by decide, by decide⟩ ⟨by decide, by decide⟩ rfl 0 rfl rfl rfl (Nat.le_of_ble_eq_true rfl) dX7_isBelow_21 ?_
      intro _ _ hr; cases hr
      refine J_ifz_ne cx (tgt := 39) dX7_isBelow_24 (by decide) (fun h => absurd h (by decide)) (fun _ => ?_)
      refine J_iload_n cx dX7_isBelow_27 rfl 1 rfl ?_
      refine J_iload_n cx dX7_isBelow_28 rfl 2 rfl ?_
      refine J_callSi cx kX7_116 (As := [.int (nI j), .int (nI i)]) (tX7_isUnder l D g A ad κ (if false then (nI 1) else nI 0) ch cm rm row  j i (by first | assumption | omega) (by first | assumption | omega)) ⟨rfl, rfl, by decide, by decide⟩ ⟨by decide, by decide⟩ rfl rfl (Nat.le_of_ble_eq_true rfl) dX7_isBelow_29 ?_
      intro _ _ hr; cases hr
      refine J_ifz_eq cx (tgt := 39) dX7_isBelow_32 (by decide) (fun c_5 => ?_) (fun c_5 => ?_)
      · refine J_iconst cx (v := nI 0) dX7_isBelow_39 (by decide) ?_
        exact J_zret cx rfl (u := ()) (rfl) (by simp [opBelow, zb, c_1, c_3, hbel, c_5]) (by simp [opBelow, c_1, c_3, hbel, c_5]; try rfl) (Nat.le_of_ble_eq_true rfl) (Nat.le_of_ble_eq_true rfl) dX7_isBelow_40
      · refine J_iconst cx (v := nI 1) dX7_isBelow_35 (by decide) ?_
        refine J_goto cx (tgt := 40) dX7_isBelow_36 (by decide) ?_
        exact J_zret cx rfl (u := ()) (rfl) (by simp [opBelow, zb, c_1, c_3, hbel, c_5]) (by simp [opBelow, c_1, c_3, hbel, c_5]; try rfl) (Nat.le_of_ble_eq_true rfl) (Nat.le_of_ble_eq_true rfl) dX7_isBelow_40
    · refine J_iconst cx (v := nI 1) dX7_isBelow_15 (by decide) ?_
      refine J_goto cx (tgt := 20) dX7_isBelow_16 (by decide) ?_
      refine J_iconst cx (v := nI 1) dX7_isBelow_20 (by decide) ?_
      refine J_callVi cx kX7_78 (As := [.int (nI 1), .int (nI 1)]) (tX7_isThrown l D g A ad κ th ch cm rm row  true (nI 1) ) ⟨rfl, rfl, by decide, by decide⟩ ⟨by decide, by decide⟩ rfl 0 rfl rfl rfl (Nat.le_of_ble_eq_true rfl) dX7_isBelow_21 ?_
      intro _ _ hr; cases hr
      refine J_ifz_ne cx (tgt := 39) dX7_isBelow_24 (by decide) (fun _ => ?_) (fun h => absurd h (by decide))
      refine J_iconst cx (v := nI 0) dX7_isBelow_39 (by decide) ?_
      exact J_zret cx rfl (u := ()) (rfl) (by simp [opBelow, zb, c_1, c_3]) (by simp [opBelow, c_1, c_3]; try rfl) (Nat.le_of_ble_eq_true rfl) (Nat.le_of_ble_eq_true rfl) dX7_isBelow_40
set_option maxHeartbeats 4000000 in
set_option maxRecDepth 100000 in
theorem tX7_isWrong (l : Launch) (D : va_G) (g : Nat → ClassId) (A : Nat → Prop) (ad : Nat → Nat) (κ : CS) (th : Int32) (ch : Nat → Nat) (cm rm : Nat) (row : Nat → Int64)  (xc : Int32) (dy : Int32) (hn : κ.2.2.1 0 ≤ 40) : CtI l D g A yX7_isWrong cX7_isWrong 3 .boolean ({ frames := 3, cells := 0, slots := 0, locals := 64 } : Room) [.ref (ad 0), .int xc, .int dy] (mW ad g κ th ch cm rm row) (zb (!decide (wrongC κ xc dy = 0))) (mW ad g κ (nI (wrongC κ xc dy)) ch cm rm row) := by
  refine metJ (by decide) (Nat.le_of_ble_eq_true rfl) ?_
  intro p e s m args below meth c _ _ cx
  refine J_aload_n cx dX7_isWrong_0 rfl 0 rfl ?_
  refine J_iload_n cx dX7_isWrong_1 rfl 1 rfl ?_
  refine J_callVi cx kX7_99 (As := [.int xc]) (tX7_isNone l D g A ad κ th ch cm rm row  xc (by first | assumption | omega)) ⟨rfl, rfl, by decide, by decide⟩ ⟨by decide, by decide⟩ rfl 0 rfl rfl rfl (Nat.le_of_ble_eq_true rfl) dX7_isWrong_2 ?_
  intro _ _ hr; cases hr
  refine J_ifz_ne cx (tgt := 25) dX7_isWrong_5 (by decide) (fun c_1 => ?_) (fun c_1 => ?_)
  · have c_1 := bn_t c_1
    refine J_iconst cx (v := nI 1) dX7_isWrong_25 (by decide) ?_
    refine J_goto cx (tgt := 30) dX7_isWrong_26 (by decide) ?_
    exact J_zret cx rfl (u := ()) (rfl) (by simp [wrongC, zb, c_1]) (by simp [wrongC, c_1]; try rfl) (Nat.le_of_ble_eq_true rfl) (Nat.le_of_ble_eq_true rfl) dX7_isWrong_30
  · have c_1 := bn_f c_1
    refine J_aload_n cx dX7_isWrong_8 rfl 0 rfl ?_
    refine J_iload_n cx dX7_isWrong_9 rfl 2 rfl ?_
    refine J_if_ge cx (tgt := 17) dX7_isWrong_10 (by decide) (fun c_2 => ?_) (fun c_2 => ?_)
    · have c_2d := decide_eq_true c_2
      have c_2c := decide_eq_false (Int32.not_lt.mpr c_2)
      refine J_iconst cx (v := nI 0) dX7_isWrong_17 (by decide) ?_
      refine J_iconst cx (v := nI 2) dX7_isWrong_18 (by decide) ?_
      refine J_callVi cx kX7_78 (As := [.int (nI 0), .int (nI 2)]) (tX7_isThrown l D g A ad κ (if inR (κ.2.2.1 0) xc then nI 0 else nI 1) ch cm rm row  false (nI 2) ) ⟨rfl, rfl, by decide, by decide⟩ ⟨by decide, by decide⟩ rfl 0 rfl rfl rfl (Nat.le_of_ble_eq_true rfl) dX7_isWrong_19 ?_
      intro _ _ hr; cases hr
      refine J_ifz_eq cx (tgt := 29) dX7_isWrong_22 (by decide) (fun _ => ?_) (fun h => absurd h (by decide))
      refine J_iconst cx (v := nI 0) dX7_isWrong_29 (by decide) ?_
      exact J_zret cx rfl (u := ()) (rfl) (by simp [wrongC, zb, c_1, c_2, c_2d, c_2c]) (by simp [wrongC, c_1, c_2, c_2d, c_2c]; try rfl) (Nat.le_of_ble_eq_true rfl) (Nat.le_of_ble_eq_true rfl) dX7_isWrong_30
    · have c_2d := decide_eq_false c_2
      have c_2c := decide_eq_true (Int32.not_le.mp c_2)
      refine J_iconst cx (v := nI 1) dX7_isWrong_13 (by decide) ?_
      refine J_goto cx (tgt := 18) dX7_isWrong_14 (by decide) ?_
      refine J_iconst cx (v := nI 2) dX7_isWrong_18 (by decide) ?_
      refine J_callVi cx kX7_78 (As := [.int (nI 1), .int (nI 2)]) (tX7_isThrown l D g A ad κ (if inR (κ.2.2.1 0) xc then nI 0 else nI 1) ch cm rm row  true (nI 2) ) ⟨rfl, rfl, by decide, by decide⟩ ⟨by decide, by decide⟩ rfl 0 rfl rfl rfl (Nat.le_of_ble_eq_true rfl) dX7_isWrong_19 ?_
      intro _ _ hr; cases hr
      refine J_ifz_eq cx (tgt := 29) dX7_isWrong_22 (by decide) (fun h => absurd h (by decide)) (fun _ => ?_)
      refine J_iconst cx (v := nI 1) dX7_isWrong_25 (by decide) ?_
      refine J_goto cx (tgt := 30) dX7_isWrong_26 (by decide) ?_
      exact J_zret cx rfl (u := ()) (rfl) (by simp [wrongC, zb, c_1, c_2, c_2d, c_2c]) (by simp [wrongC, c_1, c_2, c_2d, c_2c]; try rfl) (Nat.le_of_ble_eq_true rfl) (Nat.le_of_ble_eq_true rfl) dX7_isWrong_30
set_option maxHeartbeats 4000000 in
set_option maxRecDepth 100000 in
theorem tX7_isRevoked (l : Launch) (D : va_G) (g : Nat → ClassId) (A : Nat → Prop) (ad : Nat → Nat) (κ : CS) (th : Int32) (ch : Nat → Nat) (cm rm : Nat) (row : Nat → Int64)  (xc : Int32) (dy : Int32) (hn : κ.2.2.1 0 ≤ 40) : CtI l D g A yX7_isRevoked cX7_isRevoked 3 .boolean ({ frames := 4, cells := 0, slots := 0, locals := 86 } : Room) [.ref (ad 0), .int xc, .int dy] (mW ad g κ th ch cm rm row) (zb (opRevoked κ xc dy).2) (mW ad g κ (nI (opRevoked κ xc dy).1) ch cm rm row) := by
  refine metJ (by decide) (Nat.le_of_ble_eq_true rfl) ?_
  intro p e s m args below meth c _ _ cx
  refine J_aload_n cx dX7_isRevoked_0 rfl 0 rfl ?_
  refine J_iload_n cx dX7_isRevoked_1 rfl 1 rfl ?_
  refine J_iload_n cx dX7_isRevoked_2 rfl 2 rfl ?_
  refine J_callVi cx kX7_120 (As := [.int xc, .int dy]) (tX7_isWrong l D g A ad κ th ch cm rm row  xc dy (by first | assumption | omega)) ⟨rfl, rfl, by decide, by decide⟩ ⟨by decide, by decide⟩ rfl 0 rfl rfl rfl (Nat.le_of_ble_eq_true rfl) dX7_isRevoked_3 ?_
  intro _ _ hr; cases hr
  refine J_ifz_ne cx (tgt := 22) dX7_isRevoked_6 (by decide) (fun c_1 => ?_) (fun c_1 => ?_)
  · have c_1 := bn_t c_1
    have c_1 := of_decide_eq_false c_1
    refine J_iconst cx (v := nI 0) dX7_isRevoked_22 (by decide) ?_
    exact J_zret cx rfl (u := ()) (rfl) (by simp [opRevoked, zb, c_1]) (by simp [opRevoked, c_1]; try rfl) (Nat.le_of_ble_eq_true rfl) (Nat.le_of_ble_eq_true rfl) dX7_isRevoked_23
  · have c_1 := bn_f c_1
    have c_1 := of_decide_eq_true c_1
    obtain ⟨j, hj, hxj, hdy⟩ := wrong_0 c_1 hn; subst hxj
    have hjc : (nI j).toNatClampNeg = j := nI_clamp (by omega)
    have hdyd := decide_eq_false hdy
    refine J_aload_n cx dX7_isRevoked_9 rfl 0 rfl ?_
    refine J_iload_n cx dX7_isRevoked_10 rfl 1 rfl ?_
    refine J_iload_n cx dX7_isRevoked_11 rfl 2 rfl ?_
    refine J_callVi cx kX7_123 (As := [.int (nI j), .int dy]) (tX7_isOff l D g A ad κ (nI (wrongC κ (nI j) dy)) ch cm rm row  j dy (by first | assumption | omega)) ⟨rfl, rfl, by decide, by decide⟩ ⟨by decide, by decide⟩ rfl 0 rfl rfl rfl (Nat.le_of_ble_eq_true rfl) dX7_isRevoked_12 ?_
    intro _ _ hr; cases hr
    refine J_ifz_eq cx (tgt := 22) dX7_isRevoked_15 (by decide) (fun c_2 => ?_) (fun c_2 => ?_)
    · refine J_iconst cx (v := nI 0) dX7_isRevoked_22 (by decide) ?_
      exact J_zret cx rfl (u := ()) (rfl) (by simp [opRevoked, zb, c_1, hjc, hdyd, c_2]) (by simp [opRevoked, c_1, hjc, hdyd, c_2]; try rfl) (Nat.le_of_ble_eq_true rfl) (Nat.le_of_ble_eq_true rfl) dX7_isRevoked_23
    · refine J_iconst cx (v := nI 1) dX7_isRevoked_18 (by decide) ?_
      refine J_goto cx (tgt := 23) dX7_isRevoked_19 (by decide) ?_
      exact J_zret cx rfl (u := ()) (rfl) (by simp [opRevoked, zb, c_1, hjc, hdyd, c_2]) (by simp [opRevoked, c_1, hjc, hdyd, c_2]; try rfl) (Nat.le_of_ble_eq_true rfl) (Nat.le_of_ble_eq_true rfl) dX7_isRevoked_23
set_option maxHeartbeats 4000000 in
set_option maxRecDepth 100000 in
theorem tX7_isRevokedByLists (l : Launch) (D : va_G) (g : Nat → ClassId) (A : Nat → Prop) (ad : Nat → Nat) (κ : CS) (th : Int32) (ch : Nat → Nat) (cm rm : Nat) (row : Nat → Int64)  (xc : Int32) (dy : Int32) (hn : κ.2.2.1 0 ≤ 40) : CtI l D g A yX7_isRevokedByLists cX7_isRevokedByLists 3 .boolean ({ frames := 5, cells := 0, slots := 0, locals := 108 } : Room) [.ref (ad 0), .int xc, .int dy] (mW ad g κ th ch cm rm row) (zb (opRevoked κ xc dy).2) (mW ad g κ (nI (opRevoked κ xc dy).1) ch cm rm row) := by
  refine metJ (by decide) (Nat.le_of_ble_eq_true rfl) ?_
  intro p e s m args below meth c _ _ cx
  refine J_aload_n cx dX7_isRevokedByLists_0 rfl 0 rfl ?_
  refine J_iload_n cx dX7_isRevokedByLists_1 rfl 1 rfl ?_
  refine J_iload_n cx dX7_isRevokedByLists_2 rfl 2 rfl ?_
  refine J_callVi cx kX7_126 (As := [.int xc, .int dy]) (tX7_isRevoked l D g A ad κ th ch cm rm row  xc dy (by first | assumption | omega)) ⟨rfl, rfl, by decide, by decide⟩ ⟨by decide, by decide⟩ rfl 0 rfl rfl rfl (Nat.le_of_ble_eq_true rfl) dX7_isRevokedByLists_3 ?_
  intro _ _ hr; cases hr
  exact J_zret cx rfl (u := ()) (zb_nar _) rfl rfl (Nat.le_of_ble_eq_true rfl) (Nat.le_of_ble_eq_true rfl) dX7_isRevokedByLists_6
set_option maxHeartbeats 4000000 in
set_option maxRecDepth 100000 in
theorem tX7_candidates (l : Launch) (D : va_G) (g : Nat → ClassId) (A : Nat → Prop) (ad : Nat → Nat) (κ : CS) (th : Int32) (ch : Nat → Nat) (cm rm : Nat) (row : Nat → Int64)  (xc : Int32) (hn : κ.2.2.1 0 ≤ 40) : CtI l D g A yX7_candidates cX7_candidates 4 .int ({ frames := 3, cells := 0, slots := 0, locals := 64 } : Room) [.ref (ad 0), .int xc] (mW ad g κ th ch cm rm row) ((opCandidates κ xc).2) (mW ad g κ (nI (opCandidates κ xc).1) ch cm rm row) := by
  refine metJ (by decide) (Nat.le_of_ble_eq_true rfl) ?_
  intro p e s m args below meth c _ _ cx
  refine J_aload_n cx dX7_candidates_0 rfl 0 rfl ?_
  refine J_iload_n cx dX7_candidates_1 rfl 1 rfl ?_
  refine J_callVi cx kX7_99 (As := [.int xc]) (tX7_isNone l D g A ad κ th ch cm rm row  xc (by first | assumption | omega)) ⟨rfl, rfl, by decide, by decide⟩ ⟨by decide, by decide⟩ rfl 0 rfl rfl rfl (Nat.le_of_ble_eq_true rfl) dX7_candidates_2 ?_
  intro _ _ hr; cases hr
  refine J_ifz_eq cx (tgt := 10) dX7_candidates_5 (by decide) (fun c_1 => ?_) (fun c_1 => ?_)
  · have c_1 := bn_f c_1
    obtain ⟨j, hj, hxj⟩ := inR_spec c_1 (by omega)
    subst hxj
    have hjc : (nI j).toNatClampNeg = j := nI_clamp (by omega)
    refine J_iconst cx (v := nI 0) dX7_candidates_10 (by decide) ?_
    refine J_istore_n cx (L' := [(2, .int (nI 0)), (0, .ref (ad 0)), (1, .int (nI j))]) dX7_candidates_11 rfl (by decide) rfl ?_
    refine J_iconst cx (v := nI 0) dX7_candidates_12 (by decide) ?_
    refine J_istore_n cx (L' := [(3, .int (nI 0)), (2, .int (nI 0)), (0, .ref (ad 0)), (1, .int (nI j))]) dX7_candidates_13 rfl (by decide) rfl ?_
    have LP : ∀ (fu : Nat) (k : Nat), (k ≤ κ.2.2.1 0) → κ.2.2.1 0 - k < fu → J p l e ({ frames := 3, cells := 0, slots := 0, locals := 64 } : Room) s m args below meth c D A 4 (MQ below (va_Qi (fun (r : Int32) (_ : Unit) => r = ((opCandidates κ (nI j)).2)) (fun _ => PO D A (mW ad g κ (nI (opCandidates κ (nI j)).1) ch cm rm row)) A) args s 0 0 A) 0 0 (mW ad g κ (if inR (κ.2.2.1 0) (nI j) then nI 0 else nI 1) ch cm rm row) [(2, .int (nI (cnt (candB κ j) k))), (3, .int (nI k)), (0, .ref (ad 0)), (1, .int (nI j))] 14 [] := by
      intro fu; induction fu with
      | zero => intro k hk hfu; exact absurd hfu (Nat.not_lt_zero _)
      | succ fu ih =>
        intro k hk hfu
        refine J_iload_n cx dX7_candidates_14 rfl 1 rfl ?_
        refine J_aload_n cx dX7_candidates_15 rfl 2 rfl ?_
        refine J_get cx (v := .int (nI (κ.2.2.1 0))) fX7_71 0 rfl rfl dX7_candidates_16 ?_
        refine J_icmp_ge cx (tgt := 45) dX7_candidates_19 (by decide) (fun c_2 => ?_) (fun c_2 => ?_)
        · have c_2 := (nat_ic_ge (by omega) (by omega)).mp c_2
          have c_2d := decide_eq_true c_2
          refine J_iload_n cx dX7_candidates_45 rfl 0 rfl ?_
          exact J_iret cx rfl (u := ()) (by rw [show k = κ.2.2.1 0 from by omega]; simp only [opCandidates, Bool.and_true, Bool.true_and, Bool.and_false, Bool.false_and, Bool.or_true, Bool.true_or, Bool.or_false, Bool.false_or, Bool.not_true, Bool.not_false, if_true, if_false, Bool.false_eq_true, decide_true, decide_false, ite_true, ite_false, ne_eq, not_true_eq_false, not_false_eq_true, xj, c_1, hjc, hk, c_2, c_2d]; try rfl) (by simp only [opCandidates, Bool.and_true, Bool.true_and, Bool.and_false, Bool.false_and, Bool.or_true, Bool.true_or, Bool.or_false, Bool.false_or, Bool.not_true, Bool.not_false, if_true, if_false, Bool.false_eq_true, decide_true, decide_false, ite_true, ite_false, ne_eq, not_true_eq_false, not_false_eq_true, xj, c_1, hjc, hk, c_2, c_2d]; try rfl) (Nat.le_of_ble_eq_true rfl) (Nat.le_of_ble_eq_true rfl) dX7_candidates_46
        · have c_2 := (nat_ic_ge_f (by omega) (by omega)).mp c_2
          have c_2d := decide_eq_false (Nat.not_le.mpr c_2)
          refine J_iload_n cx dX7_candidates_22 rfl 0 rfl ?_
          refine J_aload_n cx dX7_candidates_23 rfl 2 rfl ?_
          refine J_iload_n cx dX7_candidates_24 rfl 3 rfl ?_
          refine J_iload_n cx dX7_candidates_25 rfl 1 rfl ?_
          refine J_callVi cx kX7_129 (As := [.int (nI j), .int (nI k)]) (tX7_isCandidate l D g A ad κ (if inR (κ.2.2.1 0) (nI j) then nI 0 else nI 1) ch cm rm row  j k (by first | assumption | omega) (by first | assumption | omega)) ⟨rfl, rfl, by decide, by decide⟩ ⟨by decide, by decide⟩ rfl 0 rfl rfl rfl (Nat.le_of_ble_eq_true rfl) dX7_candidates_26 ?_
          intro _ _ hr; cases hr
          refine J_ifz_eq cx (tgt := 36) dX7_candidates_29 (by decide) (fun c_3 => ?_) (fun c_3 => ?_)
          · refine J_iconst cx (v := nI 0) dX7_candidates_36 (by decide) ?_
            refine J_iadd cx dX7_candidates_37 ?_
            refine J_top (v' := .int (nI ((cnt (candB κ j) k) + 0))) (congrArg Value.int (nI_add (cnt (candB κ j) k) 0)) ?_
            refine J_top (v' := .int (nI (cnt (candB κ j) (k + 1)))) (congrArg (fun z => Value.int (nI z)) (cnt_f (by simp [true_and, c_1, hjc, hk, c_2, c_2d, c_3]))) ?_
            refine J_istore_n cx (L' := [(2, .int (nI (cnt (candB κ j) (k + 1)))), (3, .int (nI k)), (0, .ref (ad 0)), (1, .int (nI j))]) dX7_candidates_38 rfl (by decide) rfl ?_
            refine J_iinc cx (v := (nI (k + 1))) (L' := [(3, .int (nI (k + 1))), (2, .int (nI (cnt (candB κ j) (k + 1)))), (0, .ref (ad 0)), (1, .int (nI j))]) dX7_candidates_39 1 rfl (by exact nI_add k 1) (by decide) rfl ?_
            refine J_goto cx (tgt := 14) dX7_candidates_42 (by decide) ?_
            refine J_L [1, 0, 2, 3] rfl ?_
            exact ih (k + 1) (by omega) (by omega)
          · refine J_iconst cx (v := nI 1) dX7_candidates_32 (by decide) ?_
            refine J_goto cx (tgt := 37) dX7_candidates_33 (by decide) ?_
            refine J_iadd cx dX7_candidates_37 ?_
            refine J_top (v' := .int (nI ((cnt (candB κ j) k) + 1))) (congrArg Value.int (nI_add (cnt (candB κ j) k) 1)) ?_
            refine J_top (v' := .int (nI (cnt (candB κ j) (k + 1)))) (congrArg (fun z => Value.int (nI z)) (cnt_t (by simp [true_and, c_1, hjc, hk, c_2, c_2d, c_3]))) ?_
            refine J_istore_n cx (L' := [(2, .int (nI (cnt (candB κ j) (k + 1)))), (3, .int (nI k)), (0, .ref (ad 0)), (1, .int (nI j))]) dX7_candidates_38 rfl (by decide) rfl ?_
            refine J_iinc cx (v := (nI (k + 1))) (L' := [(3, .int (nI (k + 1))), (2, .int (nI (cnt (candB κ j) (k + 1)))), (0, .ref (ad 0)), (1, .int (nI j))]) dX7_candidates_39 1 rfl (by exact nI_add k 1) (by decide) rfl ?_
            refine J_goto cx (tgt := 14) dX7_candidates_42 (by decide) ?_
            refine J_L [1, 0, 2, 3] rfl ?_
            exact ih (k + 1) (by omega) (by omega)
    refine J_L [1, 0, 2, 3] rfl ?_
    exact LP _ 0 (by omega) (Nat.lt_succ_self _)
  · have c_1 := bn_t c_1
    refine J_iconst cx (v := nI 0) dX7_candidates_8 (by decide) ?_
    exact J_iret cx rfl (u := ()) (by simp only [opCandidates, Bool.and_true, Bool.true_and, Bool.and_false, Bool.false_and, Bool.or_true, Bool.true_or, Bool.or_false, Bool.false_or, Bool.not_true, Bool.not_false, if_true, if_false, Bool.false_eq_true, decide_true, decide_false, ite_true, ite_false, ne_eq, not_true_eq_false, not_false_eq_true, xj, c_1]; try rfl) (by simp only [opCandidates, Bool.and_true, Bool.true_and, Bool.and_false, Bool.false_and, Bool.or_true, Bool.true_or, Bool.or_false, Bool.false_or, Bool.not_true, Bool.not_false, if_true, if_false, Bool.false_eq_true, decide_true, decide_false, ite_true, ite_false, ne_eq, not_true_eq_false, not_false_eq_true, xj, c_1]; try rfl) (Nat.le_of_ble_eq_true rfl) (Nat.le_of_ble_eq_true rfl) dX7_candidates_9
set_option maxHeartbeats 4000000 in
set_option maxRecDepth 100000 in
theorem tX7_candidate (l : Launch) (D : va_G) (g : Nat → ClassId) (A : Nat → Prop) (ad : Nat → Nat) (κ : CS) (th : Int32) (ch : Nat → Nat) (cm rm : Nat) (row : Nat → Int64)  (i : Nat) (rk : Int32) (hn : κ.2.2.1 0 ≤ 40) (hi : i < 40) : CtI l D g A yX7_candidate cX7_candidate 5 .int ({ frames := 1, cells := 0, slots := 0, locals := 22 } : Room) [.ref (ad 0), .int (nI i), .int rk] (mW ad g κ th ch cm rm row) (cdI (fstN (nthB κ i rk) (κ.2.2.1 0))) (mW ad g κ th ch cm rm row) := by
  refine metJ (by decide) (Nat.le_of_ble_eq_true rfl) ?_
  intro p e s m args below meth c _ _ cx
  refine J_iconst cx (v := nI 0) dX7_candidate_0 (by decide) ?_
  refine J_istore_n cx (L' := [(3, .int (nI 0)), (0, .ref (ad 0)), (1, .int (nI i)), (2, .int rk)]) dX7_candidate_1 rfl (by decide) rfl ?_
  refine J_iconst cx (v := nI 0) dX7_candidate_2 (by decide) ?_
  refine J_istore cx (L' := [(4, .int (nI 0)), (3, .int (nI 0)), (0, .ref (ad 0)), (1, .int (nI i)), (2, .int rk)]) dX7_candidate_3 (by decide) rfl ?_
  have LP : ∀ (fu : Nat) (k : Nat), (k ≤ κ.2.2.1 0) → (∀ z, z < k → nthB κ i rk z = false) → κ.2.2.1 0 - k < fu → J p l e ({ frames := 1, cells := 0, slots := 0, locals := 22 } : Room) s m args below meth c D A 5 (MQ below (va_Qi (fun (r : Int32) (_ : Unit) => r = (cdI (fstN (nthB κ i rk) (κ.2.2.1 0)))) (fun _ => PO D A (mW ad g κ th ch cm rm row)) A) args s 0 0 A) 0 0 (mW ad g κ th ch cm rm row) [(3, .int (nI (cnt (candB κ i) k))), (4, .int (nI k)), (0, .ref (ad 0)), (1, .int (nI i)), (2, .int rk)] 5 [] := by
    intro fu; induction fu with
    | zero => intro k hk hno hfu; exact absurd hfu (Nat.not_lt_zero _)
    | succ fu ih =>
      intro k hk hno hfu
      refine J_iload cx dX7_candidate_5 1 rfl ?_
      refine J_aload_n cx dX7_candidate_7 rfl 2 rfl ?_
      refine J_get cx (v := .int (nI (κ.2.2.1 0))) fX7_71 0 rfl rfl dX7_candidate_8 ?_
      refine J_icmp_ge cx (tgt := 41) dX7_candidate_11 (by decide) (fun c_1 => ?_) (fun c_1 => ?_)
      · have c_1 := (nat_ic_ge (by omega) (by omega)).mp c_1
        have c_1d := decide_eq_true c_1
        refine J_iconst cx (v := (-1)) dX7_candidate_41 (by decide) ?_
        exact J_iret cx rfl (u := ()) (congrArg cdI (fstN_none (fun z hz => hno z (by omega)))).symm rfl (Nat.le_of_ble_eq_true rfl) (Nat.le_of_ble_eq_true rfl) dX7_candidate_42
      · have c_1 := (nat_ic_ge_f (by omega) (by omega)).mp c_1
        have c_1d := decide_eq_false (Nat.not_le.mpr c_1)
        refine J_aload_n cx dX7_candidate_14 rfl 2 rfl ?_
        refine J_iload_n cx dX7_candidate_15 rfl 3 rfl ?_
        refine J_iload cx dX7_candidate_16 1 rfl ?_
        refine J_callVi cx kX7_129 (As := [.int (nI i), .int (nI k)]) (tX7_isCandidate l D g A ad κ th ch cm rm row  i k (by omega) (by omega)) ⟨rfl, rfl, by decide, by decide⟩ ⟨by decide, by decide⟩ rfl 0 rfl rfl rfl (Nat.le_of_ble_eq_true rfl) dX7_candidate_18 ?_
        intro _ _ hr; cases hr
        refine J_ifz_eq cx (tgt := 35) dX7_candidate_21 (by decide) (fun c_2 => ?_) (fun c_2 => ?_)
        · refine J_Le (L' := [(3, .int (nI (cnt (candB κ i) (k + 1)))), (4, .int (nI k)), (0, .ref (ad 0)), (1, .int (nI i)), (2, .int rk)]) (by rw [← cnt_f (p := candB κ i) (k := k) (by simp [c_1, c_1d, c_2])]; try rfl) ?_
          refine J_iinc cx (v := (nI (k + 1))) (L' := [(4, .int (nI (k + 1))), (3, .int (nI (cnt (candB κ i) (k + 1)))), (0, .ref (ad 0)), (1, .int (nI i)), (2, .int rk)]) dX7_candidate_35 1 rfl (by exact nI_add k 1) (by decide) rfl ?_
          refine J_goto cx (tgt := 5) dX7_candidate_38 (by decide) ?_
          refine J_L [1, 0, 2, 3, 4] rfl ?_
          exact ih (k + 1) (by omega) (fun z hz => (Nat.lt_or_ge z k).elim (fun q => hno z q) (fun q => by rw [show z = k from by omega]; simp [nthB, c_1, c_1d, c_2])) (by omega)
        · refine J_iload_n cx dX7_candidate_24 rfl 0 rfl ?_
          refine J_iload_n cx dX7_candidate_25 rfl 4 rfl ?_
          refine J_icmp_ne cx (tgt := 32) dX7_candidate_26 (by decide) (fun c_3 => ?_) (fun c_3 => ?_)
          · have c_3d := decide_eq_false c_3
            refine J_iinc cx (v := (nI ((cnt (candB κ i) k) + 1))) (L' := [(3, .int (nI ((cnt (candB κ i) k) + 1))), (4, .int (nI k)), (0, .ref (ad 0)), (1, .int (nI i)), (2, .int rk)]) dX7_candidate_32 0 rfl (by exact nI_add (cnt (candB κ i) k) 1) (by decide) rfl ?_
            refine J_Le (L' := [(3, .int (nI (cnt (candB κ i) (k + 1)))), (4, .int (nI k)), (0, .ref (ad 0)), (1, .int (nI i)), (2, .int rk)]) (by rw [← cnt_t (p := candB κ i) (k := k) (by simp [c_1, c_1d, c_2, c_3, c_3d])]; try rfl) ?_
            refine J_iinc cx (v := (nI (k + 1))) (L' := [(4, .int (nI (k + 1))), (3, .int (nI (cnt (candB κ i) (k + 1)))), (0, .ref (ad 0)), (1, .int (nI i)), (2, .int rk)]) dX7_candidate_35 1 rfl (by exact nI_add k 1) (by decide) rfl ?_
            refine J_goto cx (tgt := 5) dX7_candidate_38 (by decide) ?_
            refine J_L [1, 0, 2, 3, 4] rfl ?_
            exact ih (k + 1) (by omega) (fun z hz => (Nat.lt_or_ge z k).elim (fun q => hno z q) (fun q => by rw [show z = k from by omega]; simp [nthB, c_1, c_1d, c_2, c_3, c_3d])) (by omega)
          · have c_3d := decide_eq_true c_3
            refine J_iload cx dX7_candidate_29 1 rfl ?_
            exact J_iret cx rfl (u := ()) (congrArg cdI (fstN_some (k := k) (by omega) (by simp [nthB, c_1, c_1d, c_2, c_3d]) hno)).symm rfl (Nat.le_of_ble_eq_true rfl) (Nat.le_of_ble_eq_true rfl) dX7_candidate_31
  refine J_L [1, 0, 2, 3, 4] rfl ?_
  exact LP _ 0 (by omega) (fun z hz => absurd hz (Nat.not_lt_zero z)) (Nat.lt_succ_self _)
