set_option maxHeartbeats 4000000 in
set_option maxRecDepth 100000 in
theorem tX7_isOff (l : Launch) (D : va_G) (g : Nat → ClassId) (A : Nat → Prop) (ad : Nat → Nat) (κ : CS) (th : Int32) (ch : Nat → Nat) (cm rm : Nat) (row : Nat → Int64)  (i : Nat) (on : Int32) (hi : i < 40) : CtI l D g A yX7_isOff cX7_isOff 3 .boolean ({ frames := 0, cells := 0, slots := 0, locals := 0 } : Room) [.ref (ad 0), .int (nI i), .int on] (mW ad g κ th ch cm rm row) (zb (offB κ i on)) (mW ad g κ th ch cm rm row) := by
  refine metJ (by decide) (Nat.le_of_ble_eq_true rfl) ?_
  intro p e s m args below meth c _ _ cx
  refine J_aload_n cx dX7_isOff_0 rfl 0 rfl ?_
  refine J_get cx (v := .ref (ad 10)) fX7_37 0 rfl rfl dX7_isOff_1 ?_
  refine J_iload_n cx dX7_isOff_4 rfl 1 rfl ?_
  refine J_iald cx (j := i) (f := κ.1 9) 10 rfl rfl (by omega) (by decide) dX7_isOff_5 ?_
  refine J_if_lt cx (tgt := 23) dX7_isOff_6 (by decide) (fun c_1 => ?_) (fun c_1 => ?_)
  · have c_1d := decide_eq_true c_1
    refine J_iconst cx (v := nI 0) dX7_isOff_23 (by decide) ?_
    exact J_zret cx rfl (u := ()) (rfl) (by simp [offB, zb, c_1, c_1d]) rfl (Nat.le_of_ble_eq_true rfl) (Nat.le_of_ble_eq_true rfl) dX7_isOff_24
  · have c_1d := decide_eq_false c_1
    refine J_aload_n cx dX7_isOff_9 rfl 0 rfl ?_
    refine J_get cx (v := .ref (ad 10)) fX7_37 0 rfl rfl dX7_isOff_10 ?_
    refine J_iload_n cx dX7_isOff_13 rfl 1 rfl ?_
    refine J_iald cx (j := i) (f := κ.1 9) 10 rfl rfl (by omega) (by decide) dX7_isOff_14 ?_
    refine J_iload_n cx dX7_isOff_15 rfl 2 rfl ?_
    refine J_icmp_gt cx (tgt := 23) dX7_isOff_16 (by decide) (fun c_2 => ?_) (fun c_2 => ?_)
    · have c_2d := decide_eq_true c_2
      refine J_iconst cx (v := nI 0) dX7_isOff_23 (by decide) ?_
      exact J_zret cx rfl (u := ()) (rfl) (by simp [offB, zb, c_1, c_1d, c_2, c_2d]) rfl (Nat.le_of_ble_eq_true rfl) (Nat.le_of_ble_eq_true rfl) dX7_isOff_24
    · have c_2d := decide_eq_false c_2
      refine J_iconst cx (v := nI 1) dX7_isOff_19 (by decide) ?_
      refine J_goto cx (tgt := 24) dX7_isOff_20 (by decide) ?_
      exact J_zret cx rfl (u := ()) (rfl) (by simp [offB, zb, c_1, c_1d, c_2, c_2d]) rfl (Nat.le_of_ble_eq_true rfl) (Nat.le_of_ble_eq_true rfl) dX7_isOff_24
set_option maxHeartbeats 4000000 in
set_option maxRecDepth 100000 in
theorem tX7_isValid (l : Launch) (D : va_G) (g : Nat → ClassId) (A : Nat → Prop) (ad : Nat → Nat) (κ : CS) (th : Int32) (ch : Nat → Nat) (cm rm : Nat) (row : Nat → Int64)  (i : Nat) (on : Int32) (hi : i < 40) : CtI l D g A yX7_isValid cX7_isValid 3 .boolean ({ frames := 1, cells := 0, slots := 0, locals := 22 } : Room) [.ref (ad 0), .int (nI i), .int on] (mW ad g κ th ch cm rm row) (zb (validB κ i on)) (mW ad g κ th ch cm rm row) := by
  refine metJ (by decide) (Nat.le_of_ble_eq_true rfl) ?_
  intro p e s m args below meth c _ _ cx
  refine J_iload_n cx dX7_isValid_0 rfl 2 rfl ?_
  refine J_aload_n cx dX7_isValid_1 rfl 0 rfl ?_
  refine J_get cx (v := .ref (ad 3)) fX7_16 0 rfl rfl dX7_isValid_2 ?_
  refine J_iload_n cx dX7_isValid_5 rfl 1 rfl ?_
  refine J_iald cx (j := i) (f := κ.1 2) 3 rfl rfl (by omega) (by decide) dX7_isValid_6 ?_
  refine J_aload_n cx dX7_isValid_7 rfl 0 rfl ?_
  refine J_get cx (v := .ref (ad 4)) fX7_19 0 rfl rfl dX7_isValid_8 ?_
  refine J_iload_n cx dX7_isValid_11 rfl 1 rfl ?_
  refine J_iald cx (j := i) (f := κ.1 3) 4 rfl rfl (by omega) (by decide) dX7_isValid_12 ?_
  refine J_callSi cx kX7_67 (As := [.int on, .int (κ.1 2 i), .int (κ.1 3 i)]) (tX7_isIn l D g A ad κ th ch cm rm row  on (κ.1 2 i) (κ.1 3 i) ) ⟨rfl, rfl, by decide, by decide⟩ ⟨by decide, by decide⟩ rfl rfl (Nat.le_of_ble_eq_true rfl) dX7_isValid_13 ?_
  intro _ _ hr; cases hr
  exact J_zret cx rfl (u := ()) (zb_nar _) rfl rfl (Nat.le_of_ble_eq_true rfl) (Nat.le_of_ble_eq_true rfl) dX7_isValid_16
set_option maxHeartbeats 4000000 in
set_option maxRecDepth 100000 in
theorem tX7_day (l : Launch) (D : va_G) (g : Nat → ClassId) (A : Nat → Prop) (ad : Nat → Nat) (κ : CS) (th : Int32) (ch : Nat → Nat) (cm rm : Nat) (row : Nat → Int64)    : CtI l D g A yX7_day cX7_day 1 .int ({ frames := 1, cells := 0, slots := 0, locals := 21 } : Room) [.ref (ad 0)] (mW ad g κ th ch cm rm row) (nI (κ.2.2.1 2)) (mW ad g κ (nI 0) ch cm rm row) := by
  refine metJ (by decide) (Nat.le_of_ble_eq_true rfl) ?_
  intro p e s m args below meth c _ _ cx
  refine J_aload_n cx dX7_day_0 rfl 0 rfl ?_
  refine J_aload_n cx dX7_day_1 rfl 0 rfl ?_
  refine J_get cx (v := .int (nI (κ.2.2.1 2))) fX7_82 0 rfl rfl dX7_day_2 ?_
  refine J_callVi cx kX7_113 (As := [.int (nI (κ.2.2.1 2))]) (tX7_tells l D g A ad κ th ch cm rm row  (nI (κ.2.2.1 2)) ) ⟨rfl, rfl, by decide, by decide⟩ ⟨by decide, by decide⟩ rfl 0 rfl rfl rfl (Nat.le_of_ble_eq_true rfl) dX7_day_5 ?_
  intro _ _ hr; cases hr
  exact J_iret cx rfl (u := ()) rfl rfl (Nat.le_of_ble_eq_true rfl) (Nat.le_of_ble_eq_true rfl) dX7_day_8
set_option maxHeartbeats 4000000 in
set_option maxRecDepth 100000 in
theorem tX7_certificates (l : Launch) (D : va_G) (g : Nat → ClassId) (A : Nat → Prop) (ad : Nat → Nat) (κ : CS) (th : Int32) (ch : Nat → Nat) (cm rm : Nat) (row : Nat → Int64)    : CtI l D g A yX7_certificates cX7_certificates 1 .int ({ frames := 1, cells := 0, slots := 0, locals := 21 } : Room) [.ref (ad 0)] (mW ad g κ th ch cm rm row) (nI (κ.2.2.1 0)) (mW ad g κ (nI 0) ch cm rm row) := by
  refine metJ (by decide) (Nat.le_of_ble_eq_true rfl) ?_
  intro p e s m args below meth c _ _ cx
  refine J_aload_n cx dX7_certificates_0 rfl 0 rfl ?_
  refine J_aload_n cx dX7_certificates_1 rfl 0 rfl ?_
  refine J_get cx (v := .int (nI (κ.2.2.1 0))) fX7_71 0 rfl rfl dX7_certificates_2 ?_
  refine J_callVi cx kX7_113 (As := [.int (nI (κ.2.2.1 0))]) (tX7_tells l D g A ad κ th ch cm rm row  (nI (κ.2.2.1 0)) ) ⟨rfl, rfl, by decide, by decide⟩ ⟨by decide, by decide⟩ rfl 0 rfl rfl rfl (Nat.le_of_ble_eq_true rfl) dX7_certificates_5 ?_
  intro _ _ hr; cases hr
  exact J_iret cx rfl (u := ()) rfl rfl (Nat.le_of_ble_eq_true rfl) (Nat.le_of_ble_eq_true rfl) dX7_certificates_8
set_option maxHeartbeats 4000000 in
set_option maxRecDepth 100000 in
theorem tX7_walked (l : Launch) (D : va_G) (g : Nat → ClassId) (A : Nat → Prop) (ad : Nat → Nat) (κ : CS) (th : Int32) (ch : Nat → Nat) (cm rm : Nat) (row : Nat → Int64)    : CtI l D g A yX7_walked cX7_walked 1 .int ({ frames := 1, cells := 0, slots := 0, locals := 21 } : Room) [.ref (ad 0)] (mW ad g κ th ch cm rm row) (nI (κ.2.2.1 3)) (mW ad g κ (nI 0) ch cm rm row) := by
  refine metJ (by decide) (Nat.le_of_ble_eq_true rfl) ?_
  intro p e s m args below meth c _ _ cx
  refine J_aload_n cx dX7_walked_0 rfl 0 rfl ?_
  refine J_aload_n cx dX7_walked_1 rfl 0 rfl ?_
  refine J_get cx (v := .int (nI (κ.2.2.1 3))) fX7_165 0 rfl rfl dX7_walked_2 ?_
  refine J_callVi cx kX7_113 (As := [.int (nI (κ.2.2.1 3))]) (tX7_tells l D g A ad κ th ch cm rm row  (nI (κ.2.2.1 3)) ) ⟨rfl, rfl, by decide, by decide⟩ ⟨by decide, by decide⟩ rfl 0 rfl rfl rfl (Nat.le_of_ble_eq_true rfl) dX7_walked_5 ?_
  intro _ _ hr; cases hr
  exact J_iret cx rfl (u := ()) rfl rfl (Nat.le_of_ble_eq_true rfl) (Nat.le_of_ble_eq_true rfl) dX7_walked_8
set_option maxHeartbeats 4000000 in
set_option maxRecDepth 100000 in
theorem tX7_isCandidate (l : Launch) (D : va_G) (g : Nat → ClassId) (A : Nat → Prop) (ad : Nat → Nat) (κ : CS) (th : Int32) (ch : Nat → Nat) (cm rm : Nat) (row : Nat → Int64)  (i : Nat) (k : Nat) (hi : i < 40) (hk : k < 40) : CtI l D g A yX7_isCandidate cX7_isCandidate 3 .boolean ({ frames := 0, cells := 0, slots := 0, locals := 0 } : Room) [.ref (ad 0), .int (nI i), .int (nI k)] (mW ad g κ th ch cm rm row) (zb (candB κ i k)) (mW ad g κ th ch cm rm row) := by
  refine metJ (by decide) (Nat.le_of_ble_eq_true rfl) ?_
  intro p e s m args below meth c _ _ cx
  refine J_iload_n cx dX7_isCandidate_0 rfl 2 rfl ?_
  refine J_iload_n cx dX7_isCandidate_1 rfl 1 rfl ?_
  refine J_icmp_eq cx (tgt := 39) dX7_isCandidate_2 (by decide) (fun c_1 => ?_) (fun c_1 => ?_)
  · have c_1 := (nat_ic_eq (by omega) (by omega)).mp c_1
    have c_1d := decide_eq_true c_1
    refine J_iconst cx (v := nI 0) dX7_isCandidate_39 (by decide) ?_
    exact J_zret cx rfl (u := ()) (rfl) (by simp [candB, zb, c_1d]) rfl (Nat.le_of_ble_eq_true rfl) (Nat.le_of_ble_eq_true rfl) dX7_isCandidate_40
  · have c_1 := (nat_ic_eq_f (by omega) (by omega)).mp c_1
    have c_1d := decide_eq_false c_1
    refine J_aload_n cx dX7_isCandidate_5 rfl 0 rfl ?_
    refine J_get cx (v := .ref (ad 2)) fX7_13 0 rfl rfl dX7_isCandidate_6 ?_
    refine J_iload_n cx dX7_isCandidate_9 rfl 2 rfl ?_
    refine J_iald cx (j := k) (f := κ.1 1) 2 rfl rfl (by omega) (by decide) dX7_isCandidate_10 ?_
    refine J_aload_n cx dX7_isCandidate_11 rfl 0 rfl ?_
    refine J_get cx (v := .ref (ad 6)) fX7_25 0 rfl rfl dX7_isCandidate_12 ?_
    refine J_iload_n cx dX7_isCandidate_15 rfl 1 rfl ?_
    refine J_iald cx (j := i) (f := κ.1 5) 6 rfl rfl (by omega) (by decide) dX7_isCandidate_16 ?_
    refine J_icmp_ne cx (tgt := 39) dX7_isCandidate_17 (by decide) (fun c_2 => ?_) (fun c_2 => ?_)
    · have c_2d := decide_eq_false c_2
      refine J_iconst cx (v := nI 0) dX7_isCandidate_39 (by decide) ?_
      exact J_zret cx rfl (u := ()) (rfl) (by simp [candB, zb, c_1, c_1d, c_2, c_2d]) rfl (Nat.le_of_ble_eq_true rfl) (Nat.le_of_ble_eq_true rfl) dX7_isCandidate_40
    · have c_2d := decide_eq_true c_2
      refine J_aload_n cx dX7_isCandidate_20 rfl 0 rfl ?_
      refine J_get cx (v := .ref (ad 1)) fX7_9 0 rfl rfl dX7_isCandidate_21 ?_
      refine J_iload_n cx dX7_isCandidate_24 rfl 2 rfl ?_
      refine J_iald cx (j := k) (f := κ.1 0) 1 rfl rfl (by omega) (by decide) dX7_isCandidate_25 ?_
      refine J_aload_n cx dX7_isCandidate_26 rfl 0 rfl ?_
      refine J_get cx (v := .ref (ad 5)) fX7_22 0 rfl rfl dX7_isCandidate_27 ?_
      refine J_iload_n cx dX7_isCandidate_30 rfl 1 rfl ?_
      refine J_iald cx (j := i) (f := κ.1 4) 5 rfl rfl (by omega) (by decide) dX7_isCandidate_31 ?_
      refine J_icmp_ne cx (tgt := 39) dX7_isCandidate_32 (by decide) (fun c_3 => ?_) (fun c_3 => ?_)
      · have c_3d := decide_eq_false c_3
        refine J_iconst cx (v := nI 0) dX7_isCandidate_39 (by decide) ?_
        exact J_zret cx rfl (u := ()) (rfl) (by simp [candB, zb, c_1, c_1d, c_2d, c_3, c_3d]) rfl (Nat.le_of_ble_eq_true rfl) (Nat.le_of_ble_eq_true rfl) dX7_isCandidate_40
      · have c_3d := decide_eq_true c_3
        refine J_iconst cx (v := nI 1) dX7_isCandidate_35 (by decide) ?_
        refine J_goto cx (tgt := 40) dX7_isCandidate_36 (by decide) ?_
        exact J_zret cx rfl (u := ()) (rfl) (by simp [candB, zb, c_1, c_1d, c_2d, c_3d]) rfl (Nat.le_of_ble_eq_true rfl) (Nat.le_of_ble_eq_true rfl) dX7_isCandidate_40
set_option maxHeartbeats 4000000 in
set_option maxRecDepth 100000 in
theorem tX7_cannotIssue (l : Launch) (D : va_G) (g : Nat → ClassId) (A : Nat → Prop) (ad : Nat → Nat) (κ : CS) (th : Int32) (ch : Nat → Nat) (cm rm : Nat) (row : Nat → Int64)  (xc : Int32) (is : Bool) (hn : κ.2.2.1 0 ≤ 40) : CtI l D g A yX7_cannotIssue cX7_cannotIssue 3 .boolean ({ frames := 3, cells := 0, slots := 0, locals := 64 } : Room) [.ref (ad 0), .int xc, .int (zb is)] (mW ad g κ th ch cm rm row) (zb (!decide (canI κ xc is = 0))) (mW ad g κ (nI (canI κ xc is)) ch cm rm row) := by
  refine metJ (by decide) (Nat.le_of_ble_eq_true rfl) ?_
  intro p e s m args below meth c _ _ cx
  refine J_aload_n cx dX7_cannotIssue_0 rfl 0 rfl ?_
  refine J_iload_n cx dX7_cannotIssue_1 rfl 1 rfl ?_
  refine J_callVi cx kX7_99 (As := [.int xc]) (tX7_isNone l D g A ad κ th ch cm rm row  xc (by first | assumption | omega)) ⟨rfl, rfl, by decide, by decide⟩ ⟨by decide, by decide⟩ rfl 0 rfl rfl rfl (Nat.le_of_ble_eq_true rfl) dX7_cannotIssue_2 ?_
  intro _ _ hr; cases hr
  refine J_ifz_ne cx (tgt := 56) dX7_cannotIssue_5 (by decide) (fun c_1 => ?_) (fun c_1 => ?_)
  · have c_1 := bn_t c_1
    refine J_iconst cx (v := nI 1) dX7_cannotIssue_56 (by decide) ?_
    refine J_goto cx (tgt := 61) dX7_cannotIssue_57 (by decide) ?_
    exact J_zret cx rfl (u := ()) (rfl) (by simp [canI, zb, c_1]) (by simp [canI, c_1]; try rfl) (Nat.le_of_ble_eq_true rfl) (Nat.le_of_ble_eq_true rfl) dX7_cannotIssue_61
  · have c_1 := bn_f c_1
    obtain ⟨j, hj, hxj⟩ := inR_spec c_1 (by omega)
    subst hxj
    have hjc : (nI j).toNatClampNeg = j := nI_clamp (by omega)
    refine J_aload_n cx dX7_cannotIssue_8 rfl 0 rfl ?_
    refine J_iload_n cx dX7_cannotIssue_9 rfl 2 rfl ?_
    refine J_ifz_ne cx (tgt := 17) dX7_cannotIssue_10 (by decide) (fun c_2 => ?_) (fun c_2 => ?_)
    · refine J_iconst cx (v := nI 0) dX7_cannotIssue_17 (by decide) ?_
      refine J_iconst cx (v := nI 2) dX7_cannotIssue_18 (by decide) ?_
      refine J_callVi cx kX7_78 (As := [.int (nI 0), .int (nI 2)]) (tX7_isThrown l D g A ad κ (if inR (κ.2.2.1 0) (nI j) then nI 0 else nI 1) ch cm rm row  false (nI 2) ) ⟨rfl, rfl, by decide, by decide⟩ ⟨by decide, by decide⟩ rfl 0 rfl rfl rfl (Nat.le_of_ble_eq_true rfl) dX7_cannotIssue_19 ?_
      intro _ _ hr; cases hr
      refine J_ifz_ne cx (tgt := 56) dX7_cannotIssue_22 (by decide) (fun h => absurd h (by decide)) (fun _ => ?_)
      refine J_aload_n cx dX7_cannotIssue_25 rfl 0 rfl ?_
      refine J_aload_n cx dX7_cannotIssue_26 rfl 0 rfl ?_
      refine J_get cx (v := .ref (ad 11)) fX7_40 0 rfl rfl dX7_cannotIssue_27 ?_
      refine J_iload_n cx dX7_cannotIssue_30 rfl 1 rfl ?_
      refine J_zald cx (j := j) (f := fun i => zb (κ.2.1 0 i)) 11 rfl rfl (by omega) (by decide) dX7_cannotIssue_31 ?_
      refine J_ifz_eq cx (tgt := 44) dX7_cannotIssue_32 (by decide) (fun c_4 => ?_) (fun c_4 => ?_)
      · refine J_iconst cx (v := nI 1) dX7_cannotIssue_44 (by decide) ?_
        refine J_goto cx (tgt := 49) dX7_cannotIssue_45 (by decide) ?_
        refine J_iconst cx (v := nI 3) dX7_cannotIssue_49 (by decide) ?_
        refine J_callVi cx kX7_78 (As := [.int (nI 1), .int (nI 3)]) (tX7_isThrown l D g A ad κ (if false then (nI 2) else nI 0) ch cm rm row  true (nI 3) ) ⟨rfl, rfl, by decide, by decide⟩ ⟨by decide, by decide⟩ rfl 0 rfl rfl rfl (Nat.le_of_ble_eq_true rfl) dX7_cannotIssue_50 ?_
        intro _ _ hr; cases hr
        refine J_ifz_eq cx (tgt := 60) dX7_cannotIssue_53 (by decide) (fun h => absurd h (by decide)) (fun _ => ?_)
        refine J_iconst cx (v := nI 1) dX7_cannotIssue_56 (by decide) ?_
        refine J_goto cx (tgt := 61) dX7_cannotIssue_57 (by decide) ?_
        exact J_zret cx rfl (u := ()) (rfl) (by simp [canI, zb, c_1, hjc, c_2, c_4]) (by simp [canI, c_1, hjc, c_2, c_4]; try rfl) (Nat.le_of_ble_eq_true rfl) (Nat.le_of_ble_eq_true rfl) dX7_cannotIssue_61
      · refine J_aload_n cx dX7_cannotIssue_35 rfl 0 rfl ?_
        refine J_get cx (v := .int (nI (κ.2.2.1 0))) fX7_71 0 rfl rfl dX7_cannotIssue_36 ?_
        refine J_bipush cx (v := nI 40) dX7_cannotIssue_39 (by decide) ?_
        refine J_icmp_ne cx (tgt := 48) dX7_cannotIssue_41 (by decide) (fun c_6 => ?_) (fun c_6 => ?_)
        · have c_6 := (nat_ic_ne (by omega) (by omega)).mp c_6
          have c_6d := decide_eq_false c_6
          refine J_iconst cx (v := nI 0) dX7_cannotIssue_48 (by decide) ?_
          refine J_iconst cx (v := nI 3) dX7_cannotIssue_49 (by decide) ?_
          refine J_callVi cx kX7_78 (As := [.int (nI 0), .int (nI 3)]) (tX7_isThrown l D g A ad κ (if false then (nI 2) else nI 0) ch cm rm row  false (nI 3) ) ⟨rfl, rfl, by decide, by decide⟩ ⟨by decide, by decide⟩ rfl 0 rfl rfl rfl (Nat.le_of_ble_eq_true rfl) dX7_cannotIssue_50 ?_
          intro _ _ hr; cases hr
          refine J_ifz_eq cx (tgt := 60) dX7_cannotIssue_53 (by decide) (fun _ => ?_) (fun h => absurd h (by decide))
          refine J_iconst cx (v := nI 0) dX7_cannotIssue_60 (by decide) ?_
          exact J_zret cx rfl (u := ()) (rfl) (by simp [canI, zb, c_1, hjc, c_2, c_4, c_6, c_6d]) (by simp [canI, c_1, hjc, c_2, c_4, c_6, c_6d]; try rfl) (Nat.le_of_ble_eq_true rfl) (Nat.le_of_ble_eq_true rfl) dX7_cannotIssue_61
        · have c_6 := (nat_ic_ne_f (by omega) (by omega)).mp c_6
          have c_6d := decide_eq_true c_6
          refine J_iconst cx (v := nI 1) dX7_cannotIssue_44 (by decide) ?_
          refine J_goto cx (tgt := 49) dX7_cannotIssue_45 (by decide) ?_
          refine J_iconst cx (v := nI 3) dX7_cannotIssue_49 (by decide) ?_
          refine J_callVi cx kX7_78 (As := [.int (nI 1), .int (nI 3)]) (tX7_isThrown l D g A ad κ (if false then (nI 2) else nI 0) ch cm rm row  true (nI 3) ) ⟨rfl, rfl, by decide, by decide⟩ ⟨by decide, by decide⟩ rfl 0 rfl rfl rfl (Nat.le_of_ble_eq_true rfl) dX7_cannotIssue_50 ?_
          intro _ _ hr; cases hr
          refine J_ifz_eq cx (tgt := 60) dX7_cannotIssue_53 (by decide) (fun h => absurd h (by decide)) (fun _ => ?_)
          refine J_iconst cx (v := nI 1) dX7_cannotIssue_56 (by decide) ?_
          refine J_goto cx (tgt := 61) dX7_cannotIssue_57 (by decide) ?_
          exact J_zret cx rfl (u := ()) (rfl) (by simp [canI, zb, c_1, hjc, c_2, c_4, c_6d]) (by simp [canI, c_1, hjc, c_2, c_4, c_6d]; try rfl) (Nat.le_of_ble_eq_true rfl) (Nat.le_of_ble_eq_true rfl) dX7_cannotIssue_61
    · refine J_iconst cx (v := nI 1) dX7_cannotIssue_13 (by decide) ?_
      refine J_goto cx (tgt := 18) dX7_cannotIssue_14 (by decide) ?_
      refine J_iconst cx (v := nI 2) dX7_cannotIssue_18 (by decide) ?_
      refine J_callVi cx kX7_78 (As := [.int (nI 1), .int (nI 2)]) (tX7_isThrown l D g A ad κ (if inR (κ.2.2.1 0) (nI j) then nI 0 else nI 1) ch cm rm row  true (nI 2) ) ⟨rfl, rfl, by decide, by decide⟩ ⟨by decide, by decide⟩ rfl 0 rfl rfl rfl (Nat.le_of_ble_eq_true rfl) dX7_cannotIssue_19 ?_
      intro _ _ hr; cases hr
      refine J_ifz_ne cx (tgt := 56) dX7_cannotIssue_22 (by decide) (fun _ => ?_) (fun h => absurd h (by decide))
      refine J_iconst cx (v := nI 1) dX7_cannotIssue_56 (by decide) ?_
      refine J_goto cx (tgt := 61) dX7_cannotIssue_57 (by decide) ?_
      exact J_zret cx rfl (u := ()) (rfl) (by simp [canI, zb, c_1, hjc, c_2]) (by simp [canI, c_1, hjc, c_2]; try rfl) (Nat.le_of_ble_eq_true rfl) (Nat.le_of_ble_eq_true rfl) dX7_cannotIssue_61
