theorem xmono {l : Launch} {y : MethodName} {ws0 : List Cond} {rm : Room} {Pc : Array Value → State → Prop} {Qc : Array Value → State → Outcome → State → Prop} {XP XP' : String → Prop} {D : va_G} {A : Nat → Prop} {wsx wsx' : va_W} {mc ms : Nat} (hM : vx_Met l y ws0 rm Pc Qc (XQ XP D A wsx) mc ms A) (h : ∀ E, XP E → XP' E ∧ wsx = wsx') : vx_Met l y ws0 rm Pc Qc (XQ XP' D A wsx') mc ms A :=
  Jvm.Free.MetFree.mono hM (fun _ _ h => h) (fun _ _ _ _ _ h => h) (fun _ _ _ _ _ q => q.imp id (fun ⟨z, ho, E, ce, L, ⟨u, hu, hB, hF⟩, r⟩ => ⟨z, ho, E, ce, L, ⟨u, hu, ⟨(h E hB.1).1, (h E hB.1).2 ▸ hB.2⟩, hF⟩, r⟩))
def puP (q : PT) (h : Int64) (b : Bool) : PT := (vp_updL q.1 q.2.2 h, upb q.2.1 q.2.2 b, q.2.2 + 1)
def fiP (κ : CS) (gr : Bool) (fr lf : Nat) (q : PT) : PT := if gr && decide (0 < fr) then puP q (rt κ 6 fr lf) true else q
def dsK (κ : CS) (sm : Nat) (gr : Bool) : Nat → Nat → Nat → PT → PT
  | 0, fr, lf, q => fiP κ gr fr lf q
  | d + 1, fr, lf, q => if decide (lf ≤ 1) then fiP κ gr fr lf q else if gr && decide (sm = fr + lf) then fiP κ gr fr lf q
    else if decide (sm ≤ fr + spl lf) then dsK κ sm gr d fr (spl lf) (puP q (rt κ 6 (fr + spl lf) (lf - spl lf)) false) else dsK κ sm gr d (fr + spl lf) (lf - spl lf) (puP q (rt κ 6 fr (spl lf)) true)
theorem dsK_z {κ : CS} {sm : Nat} {gr : Bool} {d fr lf : Nat} {q : PT} (h : lf ≤ 1 ∨ (gr = true ∧ sm = fr + lf)) : dsK κ sm gr d fr lf q = fiP κ gr fr lf q := by
  cases d with
  | zero => rfl
  | succ d =>
    show (if decide (lf ≤ 1) then _ else if gr && decide (sm = fr + lf) then _ else _) = _
    by_cases h1 : lf ≤ 1
    · rw [decide_eq_true h1]; rfl
    · rcases h with h | ⟨h2, h3⟩
      · exact absurd h h1
      · rw [decide_eq_false h1, h2, decide_eq_true h3]; rfl
theorem dsK_a {κ : CS} {sm : Nat} {gr : Bool} {d fr lf : Nat} {q : PT} (h1 : ¬ lf ≤ 1) (h2 : (gr && decide (sm = fr + lf)) = false) (h3 : sm ≤ fr + spl lf) (hp : lf ≤ 2 ^ d) : dsK κ sm gr d fr lf q = dsK κ sm gr (d - 1) fr (spl lf) (puP q (rt κ 6 (fr + spl lf) (lf - spl lf)) false) := by
  cases d with
  | zero => simp at hp; omega
  | succ d =>
    show (if decide (lf ≤ 1) then _ else if gr && decide (sm = fr + lf) then _ else if decide (sm ≤ fr + spl lf) then _ else _) = _
    rw [decide_eq_false h1, h2, decide_eq_true h3]; rfl
theorem dsK_b {κ : CS} {sm : Nat} {gr : Bool} {d fr lf : Nat} {q : PT} (h1 : ¬ lf ≤ 1) (h2 : (gr && decide (sm = fr + lf)) = false) (h3 : ¬ sm ≤ fr + spl lf) (hp : lf ≤ 2 ^ d) : dsK κ sm gr d fr lf q = dsK κ sm gr (d - 1) (fr + spl lf) (lf - spl lf) (puP q (rt κ 6 fr (spl lf)) true) := by
  cases d with
  | zero => simp at hp; omega
  | succ d =>
    show (if decide (lf ≤ 1) then _ else if gr && decide (sm = fr + lf) then _ else if decide (sm ≤ fr + spl lf) then _ else _) = _
    rw [decide_eq_false h1, h2, decide_eq_false h3]; rfl
theorem pow_p {lf d : Nat} (h : ¬ lf ≤ 1) (hp : lf ≤ 2 ^ d) : 1 ≤ d := by
  cases d with
  | zero => simp at hp; omega
  | succ d => omega
set_option maxHeartbeats 4000000 in
set_option maxRecDepth 100000 in
theorem tX5_clear (l : Launch) (D : va_G) (g : Nat → ClassId) (A : Nat → Prop) (ad : Nat → Nat → Nat) (κ : CS) (X : XT) (cs : Nat → CT) (lf : Nat → Int64) (pr : PT)    : CtV l D g A yX5_clear cX5_clear 1 ({ frames := 0, cells := 0, slots := 0, locals := 0 } : Room) [.ref (ad 0 8)] (iW ad g κ X cs lf pr) (iW ad g κ X cs lf (pr.1, pr.2.1, 0)) := by
  refine metJ (by decide) (Nat.le_of_ble_eq_true rfl) ?_
  intro p e s m args below meth c _ _ cx
  refine J_aload_n cx dX5_clear_0 rfl 0 rfl ?_
  refine J_iconst cx (v := nI 0) dX5_clear_1 (by decide) ?_
  refine J_put cx (ws' := (iW ad g κ X cs lf (pr.1, pr.2.1, 0))) fX5_17 ⟨tyX5_ok, nmX5, tyX5_ok 2 (by decide)⟩ rfl 8 rfl rfl rfl (Nat.le_of_ble_eq_true rfl) rfl dX5_clear_2 ?_
  exact J_vret cx rfl (u := ()) trivial rfl (Nat.le_of_ble_eq_true rfl) (Nat.le_of_ble_eq_true rfl) dX5_clear_5
set_option maxHeartbeats 4000000 in
set_option maxRecDepth 100000 in
theorem tX5_push (l : Launch) (D : va_G) (g : Nat → ClassId) (A : Nat → Prop) (ad : Nat → Nat → Nat) (κ : CS) (X : XT) (cs : Nat → CT) (lf : Nat → Int64) (pr : PT)  (h : Int64) (b : Bool) (hp8 : pr.2.2 < 8) : CtV l D g A yX5_push cX5_push 4 ({ frames := 0, cells := 0, slots := 0, locals := 0 } : Room) [.ref (ad 0 8), .long h, .int (zb b)] (iW ad g κ X cs lf pr) (iW ad g κ X cs lf (puP pr h b)) := by
  refine metJ (by decide) (Nat.le_of_ble_eq_true rfl) ?_
  intro p e s m args below meth c _ _ cx
  refine J_aload_n cx dX5_push_0 rfl 0 rfl ?_
  refine J_get cx (v := .int (nI pr.2.2)) fX5_17 8 rfl rfl dX5_push_1 ?_
  refine J_if_lt cx (tgt := 61) dX5_push_4 (by decide) (fun h => absurd h (nI_pos (by omega))) (fun _ => ?_)
  refine J_aload_n cx dX5_push_7 rfl 0 rfl ?_
  refine J_get cx (v := .int (nI pr.2.2)) fX5_17 8 rfl rfl dX5_push_8 ?_
  refine J_aload_n cx dX5_push_11 rfl 0 rfl ?_
  refine J_get cx (v := .ref (ad 0 9)) fX5_9 8 rfl rfl dX5_push_12 ?_
  refine J_alen cx (v := nI 8) 9 rfl (t0 := 1) rfl rfl dX5_push_15 ?_
  refine J_icmp_ge cx (tgt := 61) dX5_push_16 (by decide) (fun c_2 => ?_) (fun c_2 => ?_)
  · have c_2 := (nat_ic_ge (by omega) (by omega)).mp c_2
    have c_2d := decide_eq_true c_2
    exfalso; omega
  · have c_2 := (nat_ic_ge_f (by omega) (by omega)).mp c_2
    have c_2d := decide_eq_false (Nat.not_le.mpr c_2)
    refine J_aload_n cx dX5_push_19 rfl 0 rfl ?_
    refine J_get cx (v := .int (nI pr.2.2)) fX5_17 8 rfl rfl dX5_push_20 ?_
    refine J_aload_n cx dX5_push_23 rfl 0 rfl ?_
    refine J_get cx (v := .ref (ad 0 10)) fX5_13 8 rfl rfl dX5_push_24 ?_
    refine J_alen cx (v := nI 8) 10 rfl (t0 := 2) rfl rfl dX5_push_27 ?_
    refine J_icmp_ge cx (tgt := 61) dX5_push_28 (by decide) (fun c_3 => ?_) (fun c_3 => ?_)
    · have c_3 := (nat_ic_ge (by omega) (by omega)).mp c_3
      have c_3d := decide_eq_true c_3
      exfalso; omega
    · have c_3 := (nat_ic_ge_f (by omega) (by omega)).mp c_3
      have c_3d := decide_eq_false (Nat.not_le.mpr c_3)
      refine J_aload_n cx dX5_push_31 rfl 0 rfl ?_
      refine J_get cx (v := .ref (ad 0 9)) fX5_9 8 rfl rfl dX5_push_32 ?_
      refine J_aload_n cx dX5_push_35 rfl 0 rfl ?_
      refine J_get cx (v := .int (nI pr.2.2)) fX5_17 8 rfl rfl dX5_push_36 ?_
      refine J_lload_n cx dX5_push_39 rfl 1 rfl ?_
      refine J_last cx (ws' := (iW ad g κ X cs lf (vp_updL pr.1 pr.2.2 h, pr.2.1, pr.2.2))) (j := pr.2.2) 9 rfl  rfl (by omega) (by decide) rfl dX5_push_40 ?_
      refine J_aload_n cx dX5_push_41 rfl 0 rfl ?_
      refine J_get cx (v := .ref (ad 0 10)) fX5_13 8 rfl rfl dX5_push_42 ?_
      refine J_aload_n cx dX5_push_45 rfl 0 rfl ?_
      refine J_get cx (v := .int (nI pr.2.2)) fX5_17 8 rfl rfl dX5_push_46 ?_
      refine J_iload_n cx dX5_push_49 rfl 2 rfl ?_
      refine J_zast cx (ws' := (iW ad g κ X cs lf (vp_updL pr.1 pr.2.2 h, upb pr.2.1 pr.2.2 b, pr.2.2))) (j := pr.2.2) 10 rfl  rfl (by omega) (by decide) (by rw [show vp_nar .boolean (zb b) = zb b from zb_vnar b, upb_zb]; rfl) dX5_push_50 ?_
      refine J_aload_n cx dX5_push_51 rfl 0 rfl ?_
      refine J_dup cx dX5_push_52 rfl ?_
      refine J_get cx (v := .int (nI pr.2.2)) fX5_17 8 rfl rfl dX5_push_53 ?_
      refine J_iconst cx (v := nI 1) dX5_push_56 (by decide) ?_
      refine J_iadd cx dX5_push_57 ?_
      refine J_top (v' := .int (nI (pr.2.2 + 1))) (congrArg Value.int (nI_add pr.2.2 1)) ?_
      refine J_put cx (ws' := (iW ad g κ X cs lf (vp_updL pr.1 pr.2.2 h, upb pr.2.1 pr.2.2 b, (pr.2.2 + 1)))) fX5_17 ⟨tyX5_ok, nmX5, tyX5_ok 2 (by decide)⟩ rfl 8 rfl rfl rfl (Nat.le_of_ble_eq_true rfl) rfl dX5_push_58 ?_
      exact J_vret cx rfl (u := ()) trivial rfl (Nat.le_of_ble_eq_true rfl) (Nat.le_of_ble_eq_true rfl) dX5_push_61
set_option maxHeartbeats 4000000 in
set_option maxRecDepth 100000 in
theorem tX5_hasIndex (l : Launch) (D : va_G) (g : Nat → ClassId) (A : Nat → Prop) (ad : Nat → Nat → Nat) (κ : CS) (X : XT) (cs : Nat → CT) (lf : Nat → Int64) (pr : PT)  (xi : Int32) (hp8 : pr.2.2 ≤ 8) : CtI l D g A yX5_hasIndex cX5_hasIndex 2 .boolean ({ frames := 0, cells := 0, slots := 0, locals := 0 } : Room) [.ref (ad 0 8), .int xi] (iW ad g κ X cs lf pr) (zb (inR pr.2.2 xi)) (iW ad g κ X cs lf pr) := by
  rcases i32_cases xi with ⟨j, hj, rfl⟩ | hneg
  · refine metJ (by decide) (Nat.le_of_ble_eq_true rfl) ?_
    intro p e s m args below meth c _ _ cx
    refine J_iload_n cx dX5_hasIndex_0 rfl 1 rfl ?_
    refine J_if_lt cx (tgt := 28) dX5_hasIndex_1 (by decide) (fun h => absurd h (nI_pos (by omega))) (fun _ => ?_)
    refine J_iload_n cx dX5_hasIndex_4 rfl 1 rfl ?_
    refine J_aload_n cx dX5_hasIndex_5 rfl 0 rfl ?_
    refine J_get cx (v := .int (nI pr.2.2)) fX5_17 8 rfl rfl dX5_hasIndex_6 ?_
    refine J_icmp_ge cx (tgt := 28) dX5_hasIndex_9 (by decide) (fun c_2 => ?_) (fun c_2 => ?_)
    · have c_2 := (nat_ic_ge (by omega) (by omega)).mp c_2
      have c_2d := decide_eq_true c_2
      refine J_iconst cx (v := nI 0) dX5_hasIndex_28 (by decide) ?_
      exact J_zret cx rfl (u := ()) (rfl) (by rw [inR_nI hj]; first | (rw [decide_eq_true (by omega)]; rfl) | (rw [decide_eq_false (by omega)]; rfl)) rfl (Nat.le_of_ble_eq_true rfl) (Nat.le_of_ble_eq_true rfl) dX5_hasIndex_29
    · have c_2 := (nat_ic_ge_f (by omega) (by omega)).mp c_2
      have c_2d := decide_eq_false (Nat.not_le.mpr c_2)
      refine J_aload_n cx dX5_hasIndex_12 rfl 0 rfl ?_
      refine J_get cx (v := .int (nI pr.2.2)) fX5_17 8 rfl rfl dX5_hasIndex_13 ?_
      refine J_aload_n cx dX5_hasIndex_16 rfl 0 rfl ?_
      refine J_get cx (v := .ref (ad 0 9)) fX5_9 8 rfl rfl dX5_hasIndex_17 ?_
      refine J_alen cx (v := nI 8) 9 rfl (t0 := 1) rfl rfl dX5_hasIndex_20 ?_
      refine J_icmp_gt cx (tgt := 28) dX5_hasIndex_21 (by decide) (fun c_3 => ?_) (fun c_3 => ?_)
      · have c_3 := (nat_ic_gt (by omega) (by omega)).mp c_3
        have c_3d := decide_eq_true c_3
        exfalso; omega
      · have c_3 := (nat_ic_gt_f (by omega) (by omega)).mp c_3
        have c_3d := decide_eq_false (Nat.not_lt.mpr c_3)
        refine J_iconst cx (v := nI 1) dX5_hasIndex_24 (by decide) ?_
        refine J_goto cx (tgt := 29) dX5_hasIndex_25 (by decide) ?_
        exact J_zret cx rfl (u := ()) (rfl) (by rw [inR_nI hj]; first | (rw [decide_eq_true (by omega)]; rfl) | (rw [decide_eq_false (by omega)]; rfl)) rfl (Nat.le_of_ble_eq_true rfl) (Nat.le_of_ble_eq_true rfl) dX5_hasIndex_29
  · refine metJ (by decide) (Nat.le_of_ble_eq_true rfl) ?_
    intro p e s m args below meth c _ _ cx
    refine J_iload_n cx dX5_hasIndex_0 rfl 1 rfl ?_
    refine J_if_lt cx (tgt := 28) dX5_hasIndex_1 (by decide) (fun c_1 => ?_) (fun c_1 => ?_)
    · have c_1d := decide_eq_true c_1
      refine J_iconst cx (v := nI 0) dX5_hasIndex_28 (by decide) ?_
      exact J_zret cx rfl (u := ()) (rfl) (by rw [inR_neg hneg]; rfl) rfl (Nat.le_of_ble_eq_true rfl) (Nat.le_of_ble_eq_true rfl) dX5_hasIndex_29
    · have c_1d := decide_eq_false c_1
      exact absurd hneg c_1
set_option maxHeartbeats 4000000 in
set_option maxRecDepth 100000 in
theorem tX5_hash (l : Launch) (D : va_G) (g : Nat → ClassId) (A : Nat → Prop) (ad : Nat → Nat → Nat) (κ : CS) (X : XT) (cs : Nat → CT) (lf : Nat → Int64) (pr : PT)  (j : Nat) (hp8 : pr.2.2 ≤ 8) (hj : j < pr.2.2) : CtL l D g A yX5_hash cX5_hash 2 .long ({ frames := 1, cells := 0, slots := 0, locals := 21 } : Room) [.ref (ad 0 8), .int (nI j)] (iW ad g κ X cs lf pr) (pr.1 (pr.2.2 - 1 - j)) (iW ad g κ X cs lf pr) := by
  have hjR : inR pr.2.2 (nI j) = true := by rw [inR_nI (by omega)]; exact decide_eq_true hj
  refine metJ (by decide) (Nat.le_of_ble_eq_true rfl) ?_
  intro p e s m args below meth c _ _ cx
  refine J_aload_n cx dX5_hash_0 rfl 0 rfl ?_
  refine J_iload_n cx dX5_hash_1 rfl 1 rfl ?_
  refine J_callVi cx kX5_21 (As := [.int (nI j)]) (tX5_hasIndex l D g A ad κ X cs lf pr  (nI j) hp8) ⟨rfl, rfl, by decide, by decide⟩ ⟨by decide, by decide⟩ rfl 8 rfl rfl rfl (Nat.le_of_ble_eq_true rfl) dX5_hash_2 ?_
  intro _ _ hr; cases hr
  refine J_ifz_eq cx (tgt := 24) dX5_hash_5 (by decide) (fun c_1 => ?_) (fun c_1 => ?_)
  · exact absurd (hjR.symm.trans c_1) (by decide)
  · refine J_aload_n cx dX5_hash_8 rfl 0 rfl ?_
    refine J_get cx (v := .ref (ad 0 9)) fX5_9 8 rfl rfl dX5_hash_9 ?_
    refine J_aload_n cx dX5_hash_12 rfl 0 rfl ?_
    refine J_get cx (v := .int (nI pr.2.2)) fX5_17 8 rfl rfl dX5_hash_13 ?_
    refine J_iconst cx (v := nI 1) dX5_hash_16 (by decide) ?_
    refine J_isub cx dX5_hash_17 ?_
    refine J_top (v' := .int (nI (pr.2.2 - 1))) (congrArg Value.int (pk_sub (by omega))) ?_
    refine J_iload_n cx dX5_hash_18 rfl 1 rfl ?_
    refine J_isub cx dX5_hash_19 ?_
    refine J_top (v' := .int (nI ((pr.2.2 - 1) - j))) (congrArg Value.int (pk_sub (by omega))) ?_
    refine J_lald cx (j := ((pr.2.2 - 1) - j)) (f := pr.1) 9 rfl rfl (by omega) (by decide) dX5_hash_20 ?_
    refine J_goto cx (tgt := 25) dX5_hash_21 (by decide) ?_
    exact J_lret cx rfl (u := ()) rfl rfl (Nat.le_of_ble_eq_true rfl) (Nat.le_of_ble_eq_true rfl) dX5_hash_25
