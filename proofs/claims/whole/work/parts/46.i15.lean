set_option maxHeartbeats 4000000 in
set_option maxRecDepth 100000 in
theorem tX4_joined (l : Launch) (D : va_G) (g : Nat → ClassId) (A : Nat → Prop) (ad : Nat → Nat → Nat) (κ : CS) (X : XT) (cs : Nat → CT) (lf : Nat → Int64) (pr : PT)  (a : Int64) (b : Int64)  : CtL l D g A yX4_joined cX4_joined 4 .long ({ frames := 0, cells := 0, slots := 0, locals := 0 } : Room) [.long a, .long b] (iW ad g κ X cs lf pr) (jn a b) (iW ad g κ X cs lf pr) := by
  refine metJ (by decide) (Nat.le_of_ble_eq_true rfl) ?_
  intro p e s m args below meth c _ _ cx
  refine J_ldc2 cx (v := 1009) dX4_joined_0 cX4_61 ?_
  refine J_lload_n cx dX4_joined_3 rfl 0 rfl ?_
  refine J_lmul cx dX4_joined_4 ?_
  refine J_ldc2 cx (v := 9176) dX4_joined_5 cX4_63 ?_
  refine J_lload_n cx dX4_joined_8 rfl 1 rfl ?_
  refine J_lmul cx dX4_joined_9 ?_
  refine J_ladd cx dX4_joined_10 ?_
  refine J_ldc2 cx (v := 31) dX4_joined_11 cX4_65 ?_
  refine J_ladd cx dX4_joined_14 ?_
  refine J_ldc2 cx (v := 1000000007) dX4_joined_15 cX4_59 ?_
  refine J_lrem cx dX4_joined_18 (by decide) ?_
  exact J_lret cx rfl (u := ()) rfl rfl (Nat.le_of_ble_eq_true rfl) (Nat.le_of_ble_eq_true rfl) dX4_joined_19
set_option maxHeartbeats 4000000 in
set_option maxRecDepth 100000 in
theorem tX4_sizeOfFirstPart (l : Launch) (D : va_G) (g : Nat → ClassId) (A : Nat → Prop) (ad : Nat → Nat → Nat) (κ : CS) (X : XT) (cs : Nat → CT) (lf : Nat → Int64) (pr : PT)  (sz : Nat) (hsz : sz ≤ 40) : CtI l D g A yX4_sizeOfFirstPart cX4_sizeOfFirstPart 3 .int ({ frames := 0, cells := 0, slots := 0, locals := 0 } : Room) [.int (nI sz)] (iW ad g κ X cs lf pr) (nI (spl sz)) (iW ad g κ X cs lf pr) := by
  refine metJ (by decide) (Nat.le_of_ble_eq_true rfl) ?_
  intro p e s m args below meth c _ _ cx
  refine J_iconst cx (v := nI 1) dX4_sizeOfFirstPart_0 (by decide) ?_
  refine J_istore_n cx (L' := [(1, .int (nI 1)), (0, .int (nI sz))]) dX4_sizeOfFirstPart_1 rfl (by decide) rfl ?_
  refine J_iconst cx (v := nI 2) dX4_sizeOfFirstPart_2 (by decide) ?_
  refine J_istore_n cx (L' := [(2, .int (nI 2)), (1, .int (nI 1)), (0, .int (nI sz))]) dX4_sizeOfFirstPart_3 rfl (by decide) rfl ?_
  have LP : ∀ (fu : Nat) (f : Nat) (k : Nat) (pw : Nat), (k * 2 ^ f = 64) → (k ≤ 64) → (splF f k sz = spl sz) → (pw = 2 * k) → 64 - k < fu → J p l e ({ frames := 0, cells := 0, slots := 0, locals := 0 } : Room) s m args below meth c D A 3 (MQ below (va_Qi (fun (r : Int32) (_ : Unit) => r = (nI (spl sz))) (fun _ => PO D A (iW ad g κ X cs lf pr)) A) args s 0 0 A) 0 0 (iW ad g κ X cs lf pr) [(1, .int (nI k)), (2, .int (nI pw)), (0, .int (nI sz))] 4 [] := by
    intro fu; induction fu with
    | zero => intro f k pw hk hk2 hb hpw hfu; exact absurd hfu (Nat.not_lt_zero _)
    | succ fu ih =>
      intro f k pw hk hk2 hb hpw hfu
      refine J_iload_n cx dX4_sizeOfFirstPart_4 rfl 1 rfl ?_
      refine J_iload_n cx dX4_sizeOfFirstPart_5 rfl 2 rfl ?_
      refine J_icmp_ge cx (tgt := 24) dX4_sizeOfFirstPart_6 (by decide) (fun c_1 => ?_) (fun c_1 => ?_)
      · have c_1 := (nat_ic_ge (by omega) (by omega)).mp c_1
        have c_1d := decide_eq_true c_1
        refine J_iload_n cx dX4_sizeOfFirstPart_24 rfl 0 rfl ?_
        exact J_iret cx rfl (u := ()) (by rw [← hb, splF_e (by omega)]) rfl (Nat.le_of_ble_eq_true rfl) (Nat.le_of_ble_eq_true rfl) dX4_sizeOfFirstPart_25
      · have c_1 := (nat_ic_ge_f (by omega) (by omega)).mp c_1
        have c_1d := decide_eq_false (Nat.not_le.mpr c_1)
        refine J_iload_n cx dX4_sizeOfFirstPart_9 rfl 1 rfl ?_
        refine J_bipush cx (v := nI 40) dX4_sizeOfFirstPart_10 (by decide) ?_
        refine J_icmp_gt cx (tgt := 24) dX4_sizeOfFirstPart_12 (by decide) (fun c_2 => ?_) (fun c_2 => ?_)
        · have c_2 := (nat_ic_gt (by omega) (by omega)).mp c_2
          have c_2d := decide_eq_true c_2
          exfalso; omega
        · have c_2 := (nat_ic_gt_f (by omega) (by omega)).mp c_2
          have c_2d := decide_eq_false (Nat.not_lt.mpr c_2)
          refine J_iload_n cx dX4_sizeOfFirstPart_15 rfl 1 rfl ?_
          refine J_istore_n cx (L' := [(1, .int (nI pw)), (2, .int (nI pw)), (0, .int (nI sz))]) dX4_sizeOfFirstPart_16 rfl (by decide) rfl ?_
          refine J_iload_n cx dX4_sizeOfFirstPart_17 rfl 1 rfl ?_
          refine J_iconst cx (v := nI 2) dX4_sizeOfFirstPart_18 (by decide) ?_
          refine J_imul cx dX4_sizeOfFirstPart_19 ?_
          refine J_top (v' := .int (nI (pw * 2))) (congrArg Value.int (pk_mul pw 2)) ?_
          refine J_istore_n cx (L' := [(2, .int (nI (pw * 2))), (1, .int (nI pw)), (0, .int (nI sz))]) dX4_sizeOfFirstPart_20 rfl (by decide) rfl ?_
          refine J_goto cx (tgt := 4) dX4_sizeOfFirstPart_21 (by decide) ?_
          refine J_L [1, 0, 2] rfl ?_
          exact ih (f - 1) pw _ (by rw [hpw, Nat.mul_comm 2 k]; exact (splF_s (by omega) hsz hk).2) (by omega) (by rw [← hb, (splF_s (by omega) hsz hk).1, hpw, Nat.mul_comm 2 k]) (by omega) (by have : k ≠ 0 := (by intro h; subst h; simp at hk); omega)
  refine J_L [1, 0, 2] rfl ?_
  exact LP _ 6 _ _ (by decide) (by omega) rfl rfl (Nat.lt_succ_self _)
set_option maxHeartbeats 4000000 in
set_option maxRecDepth 100000 in
theorem tX4_hashOfEntry (l : Launch) (D : va_G) (g : Nat → ClassId) (A : Nat → Prop) (ad : Nat → Nat → Nat) (κ : CS) (X : XT) (cs : Nat → CT) (lf : Nat → Int64) (pr : PT)  (i : Nat) (hEn : ∀ i, i < κ.2.2.1 0 → X.2.2.2.2.2.2.2.2 i = ent κ i) (hn : κ.2.2.1 0 ≤ 40) (hi : i < κ.2.2.1 0) : CtL l D g A yX4_hashOfEntry cX4_hashOfEntry 2 .long ({ frames := 0, cells := 0, slots := 0, locals := 0 } : Room) [.ref (ad 0 5), .int (nI i)] (iW ad g κ X cs lf pr) (ent κ i) (iW ad g κ X cs lf pr) := by
  refine metJ (by decide) (Nat.le_of_ble_eq_true rfl) ?_
  intro p e s m args below meth c _ _ cx
  refine J_iload_n cx dX4_hashOfEntry_0 rfl 1 rfl ?_
  refine J_if_lt cx (tgt := 13) dX4_hashOfEntry_1 (by decide) (fun h => absurd h (nI_pos (by omega))) (fun _ => ?_)
  refine J_iload_n cx dX4_hashOfEntry_4 rfl 1 rfl ?_
  refine J_aload_n cx dX4_hashOfEntry_5 rfl 0 rfl ?_
  refine J_get cx (v := .ref (ad 0 6)) fX4_9 5 rfl rfl dX4_hashOfEntry_6 ?_
  refine J_alen cx (v := nI 40) 6 rfl (t0 := 1) rfl rfl dX4_hashOfEntry_9 ?_
  refine J_icmp_lt cx (tgt := 17) dX4_hashOfEntry_10 (by decide) (fun c_2 => ?_) (fun c_2 => ?_)
  · have c_2 := (nat_ic_lt (by omega) (by omega)).mp c_2
    have c_2d := decide_eq_true c_2
    refine J_aload_n cx dX4_hashOfEntry_17 rfl 0 rfl ?_
    refine J_get cx (v := .ref (ad 0 6)) fX4_9 5 rfl rfl dX4_hashOfEntry_18 ?_
    refine J_iload_n cx dX4_hashOfEntry_21 rfl 1 rfl ?_
    refine J_lald cx (j := i) (f := X.2.2.2.2.2.2.2.2) 6 rfl rfl (by omega) (by decide) dX4_hashOfEntry_22 ?_
    exact J_lret cx rfl (u := ()) (by rw [hEn i hi]) rfl (Nat.le_of_ble_eq_true rfl) (Nat.le_of_ble_eq_true rfl) dX4_hashOfEntry_23
  · have c_2 := (nat_ic_lt_f (by omega) (by omega)).mp c_2
    have c_2d := decide_eq_false (Nat.not_lt.mpr c_2)
    exfalso; omega
set_option maxHeartbeats 4000000 in
set_option maxRecDepth 100000 in
theorem tX4_finishedAt (l : Launch) (D : va_G) (g : Nat → ClassId) (A : Nat → Prop) (ad : Nat → Nat → Nat) (κ : CS) (X : XT) (cs : Nat → CT) (lf : Nat → Int64) (pr : PT)  (i : Nat) (hi8 : i < 8) : CtL l D g A yX4_finishedAt cX4_finishedAt 2 .long ({ frames := 0, cells := 0, slots := 0, locals := 0 } : Room) [.ref (ad 0 5), .int (nI i)] (iW ad g κ X cs lf pr) (lf i) (iW ad g κ X cs lf pr) := by
  refine metJ (by decide) (Nat.le_of_ble_eq_true rfl) ?_
  intro p e s m args below meth c _ _ cx
  refine J_iload_n cx dX4_finishedAt_0 rfl 1 rfl ?_
  refine J_if_lt cx (tgt := 13) dX4_finishedAt_1 (by decide) (fun h => absurd h (nI_pos (by omega))) (fun _ => ?_)
  refine J_iload_n cx dX4_finishedAt_4 rfl 1 rfl ?_
  refine J_aload_n cx dX4_finishedAt_5 rfl 0 rfl ?_
  refine J_get cx (v := .ref (ad 0 7)) fX4_15 5 rfl rfl dX4_finishedAt_6 ?_
  refine J_alen cx (v := nI 8) 7 rfl (t0 := 1) rfl rfl dX4_finishedAt_9 ?_
  refine J_icmp_lt cx (tgt := 17) dX4_finishedAt_10 (by decide) (fun c_2 => ?_) (fun c_2 => ?_)
  · have c_2 := (nat_ic_lt (by omega) (by omega)).mp c_2
    have c_2d := decide_eq_true c_2
    refine J_aload_n cx dX4_finishedAt_17 rfl 0 rfl ?_
    refine J_get cx (v := .ref (ad 0 7)) fX4_15 5 rfl rfl dX4_finishedAt_18 ?_
    refine J_iload_n cx dX4_finishedAt_21 rfl 1 rfl ?_
    refine J_lald cx (j := i) (f := lf) 7 rfl rfl (by omega) (by decide) dX4_finishedAt_22 ?_
    exact J_lret cx rfl (u := ()) rfl rfl (Nat.le_of_ble_eq_true rfl) (Nat.le_of_ble_eq_true rfl) dX4_finishedAt_23
  · have c_2 := (nat_ic_lt_f (by omega) (by omega)).mp c_2
    have c_2d := decide_eq_false (Nat.not_lt.mpr c_2)
    exfalso; omega
def rmQ (d : Nat) : Room := { frames := 1 + d, cells := 0, slots := 0, locals := 23 + d * 25 }
set_option maxHeartbeats 4000000 in
set_option maxRecDepth 100000 in
theorem tX4_rootOfPart (l : Launch) (D : va_G) (g : Nat → ClassId) (A : Nat → Prop) (ad : Nat → Nat → Nat) (κ : CS) (X : XT) (cs : Nat → CT) (lf : Nat → Int64) (pr : PT)  (hEn : ∀ i, i < κ.2.2.1 0 → X.2.2.2.2.2.2.2.2 i = ent κ i) : ∀ (d fr sz dp : Nat), (1 ≤ sz) → (sz ≤ 2 ^ d) → (dp + d ≤ 8) → (d ≤ 6) → (fr + sz ≤ κ.2.2.1 0) → (κ.2.2.1 0 ≤ 40) → CtL l D g A yX4_rootOfPart cX4_rootOfPart 5 .long (rmQ d) [.ref (ad 0 6), .int (nI fr), .int (nI sz), .int (nI dp)] (iW ad g κ X cs lf pr) (rt κ d fr sz) (iW ad g κ X cs lf pr) := by
  intro d; induction d with
  | zero => 
    intro fr sz dp h1 hp hd hd6 hf hn
    refine metJ (by decide) (Nat.le_of_ble_eq_true rfl) ?_
    intro p e s m args below meth c _ _ cx
    refine J_iload_n cx dX4_rootOfPart_0 rfl 1 rfl ?_
    refine J_if_lt cx (tgt := 10) dX4_rootOfPart_1 (by decide) (fun h => absurd h (nI_pos (by omega))) (fun _ => ?_)
    refine J_iload_n cx dX4_rootOfPart_4 rfl 1 rfl ?_
    refine J_aload_n cx dX4_rootOfPart_5 rfl 0 rfl ?_
    refine J_alen cx (v := nI 40) 6 rfl (t0 := 1) rfl rfl dX4_rootOfPart_6 ?_
    refine J_icmp_lt cx (tgt := 12) dX4_rootOfPart_7 (by decide) (fun c_2 => ?_) (fun c_2 => ?_)
    · have c_2 := (nat_ic_lt (by omega) (by omega)).mp c_2
      have c_2d := decide_eq_true c_2
      refine J_iload_n cx dX4_rootOfPart_12 rfl 2 rfl ?_
      refine J_iconst cx (v := nI 1) dX4_rootOfPart_13 (by decide) ?_
      refine J_icmp_le cx (tgt := 23) dX4_rootOfPart_14 (by decide) (fun c_3 => ?_) (fun c_3 => ?_)
      · have c_3 := (nat_ic_le (by omega) (by omega)).mp c_3
        have c_3d := decide_eq_true c_3
        refine J_aload_n cx dX4_rootOfPart_23 rfl 0 rfl ?_
        refine J_iload_n cx dX4_rootOfPart_24 rfl 1 rfl ?_
        refine J_lald cx (j := fr) (f := X.2.2.2.2.2.2.2.2) 6 rfl rfl (by omega) (by decide) dX4_rootOfPart_25 ?_
        exact J_lret cx rfl (u := ()) (by rw [hEn fr (by omega)]; rfl) rfl (Nat.le_of_ble_eq_true rfl) (Nat.le_of_ble_eq_true rfl) dX4_rootOfPart_26
      · have c_3 := (nat_ic_le_f (by omega) (by omega)).mp c_3
        have c_3d := decide_eq_false (Nat.not_le.mpr c_3)
        exfalso; simp at hp; omega
    · have c_2 := (nat_ic_lt_f (by omega) (by omega)).mp c_2
      have c_2d := decide_eq_false (Nat.not_lt.mpr c_2)
      exfalso; omega
  | succ d ihd => 
    intro fr sz dp h1 hp hd hd6 hf hn
    refine metJ (by decide) (Nat.le_of_ble_eq_true rfl) ?_
    intro p e s m args below meth c _ _ cx
    refine J_iload_n cx dX4_rootOfPart_0 rfl 1 rfl ?_
    refine J_if_lt cx (tgt := 10) dX4_rootOfPart_1 (by decide) (fun h => absurd h (nI_pos (by omega))) (fun _ => ?_)
    refine J_iload_n cx dX4_rootOfPart_4 rfl 1 rfl ?_
    refine J_aload_n cx dX4_rootOfPart_5 rfl 0 rfl ?_
    refine J_alen cx (v := nI 40) 6 rfl (t0 := 1) rfl rfl dX4_rootOfPart_6 ?_
    refine J_icmp_lt cx (tgt := 12) dX4_rootOfPart_7 (by decide) (fun c_2 => ?_) (fun c_2 => ?_)
    · have c_2 := (nat_ic_lt (by omega) (by omega)).mp c_2
      have c_2d := decide_eq_true c_2
      refine J_iload_n cx dX4_rootOfPart_12 rfl 2 rfl ?_
      refine J_iconst cx (v := nI 1) dX4_rootOfPart_13 (by decide) ?_
      refine J_icmp_le cx (tgt := 23) dX4_rootOfPart_14 (by decide) (fun c_3 => ?_) (fun c_3 => ?_)
      · have c_3 := (nat_ic_le (by omega) (by omega)).mp c_3
        have c_3d := decide_eq_true c_3
        refine J_aload_n cx dX4_rootOfPart_23 rfl 0 rfl ?_
        refine J_iload_n cx dX4_rootOfPart_24 rfl 1 rfl ?_
        refine J_lald cx (j := fr) (f := X.2.2.2.2.2.2.2.2) 6 rfl rfl (by omega) (by decide) dX4_rootOfPart_25 ?_
        exact J_lret cx rfl (u := ()) (by rw [hEn fr (by omega), show rt κ (d + 1) fr sz = ent κ fr from by show (if decide (sz = 1) then _ else _) = _; rw [decide_eq_true (by omega)]; rfl]) rfl (Nat.le_of_ble_eq_true rfl) (Nat.le_of_ble_eq_true rfl) dX4_rootOfPart_26
      · have c_3 := (nat_ic_le_f (by omega) (by omega)).mp c_3
        have c_3d := decide_eq_false (Nat.not_le.mpr c_3)
        refine J_iload_n cx dX4_rootOfPart_17 rfl 3 rfl ?_
        refine J_bipush cx (v := nI 8) dX4_rootOfPart_18 (by decide) ?_
        refine J_icmp_lt cx (tgt := 27) dX4_rootOfPart_20 (by decide) (fun c_4 => ?_) (fun c_4 => ?_)
        · have c_4 := (nat_ic_lt (by omega) (by omega)).mp c_4
          have c_4d := decide_eq_true c_4
          refine J_iload_n cx dX4_rootOfPart_27 rfl 2 rfl ?_
          refine J_callSi cx kX4_71 (As := [.int (nI sz)]) (tX4_sizeOfFirstPart l D g A ad κ X cs lf pr  sz (by omega)) ⟨rfl, rfl, by simp only [rmQ]; omega, by simp only [rmQ]; omega⟩ ⟨by simp only [rmQ]; omega, by simp only [rmQ]; omega⟩ rfl rfl (Nat.le_of_ble_eq_true rfl) dX4_rootOfPart_28 ?_
          intro _ _ hr; cases hr
          obtain ⟨hs1, hs2, hs3, hs4⟩ := spl_spec sz (by omega) (by omega)
          refine J_istore cx (L' := [(4, .int (nI (spl sz))), (0, .ref (ad 0 6)), (1, .int (nI fr)), (2, .int (nI sz)), (3, .int (nI dp))]) dX4_rootOfPart_31 (by decide) rfl ?_
          refine J_aload_n cx dX4_rootOfPart_33 rfl 1 rfl ?_
          refine J_iload_n cx dX4_rootOfPart_34 rfl 2 rfl ?_
          refine J_iload cx dX4_rootOfPart_35 0 rfl ?_
          refine J_iload_n cx dX4_rootOfPart_37 rfl 4 rfl ?_
          refine J_iconst cx (v := nI 1) dX4_rootOfPart_38 (by decide) ?_
          refine J_iadd cx dX4_rootOfPart_39 ?_
          refine J_top (v' := .int (nI (dp + 1))) (congrArg Value.int (nI_add dp 1)) ?_
          refine J_callSl cx kX4_67 (As := [.ref (ad 0 6), .int (nI fr), .int (nI (spl sz)), .int (nI (dp + 1))]) (ihd fr (spl sz) (dp + 1) hs1 (hs4 d (by omega) hp) (by omega) (by omega) (by omega) hn) ⟨rfl, rfl, by simp only [rmQ]; omega, by simp only [rmQ]; omega⟩ ⟨by simp only [rmQ]; omega, by simp only [rmQ]; omega⟩ rfl rfl (Nat.le_of_ble_eq_true rfl) dX4_rootOfPart_40 ?_
          intro _ _ hr; cases hr
          refine J_aload_n cx dX4_rootOfPart_43 rfl 1 rfl ?_
          refine J_iload_n cx dX4_rootOfPart_44 rfl 2 rfl ?_
          refine J_iload cx dX4_rootOfPart_45 0 rfl ?_
          refine J_iadd cx dX4_rootOfPart_47 ?_
          refine J_top (v' := .int (nI (fr + (spl sz)))) (congrArg Value.int (nI_add fr (spl sz))) ?_
          refine J_iload_n cx dX4_rootOfPart_48 rfl 3 rfl ?_
          refine J_iload cx dX4_rootOfPart_49 0 rfl ?_
          refine J_isub cx dX4_rootOfPart_51 ?_
          refine J_top (v' := .int (nI (sz - (spl sz)))) (congrArg Value.int (pk_sub (by omega))) ?_
          refine J_iload_n cx dX4_rootOfPart_52 rfl 4 rfl ?_
          refine J_iconst cx (v := nI 1) dX4_rootOfPart_53 (by decide) ?_
          refine J_iadd cx dX4_rootOfPart_54 ?_
          refine J_top (v' := .int (nI (dp + 1))) (congrArg Value.int (nI_add dp 1)) ?_
          refine J_callSl cx kX4_67 (As := [.ref (ad 0 6), .int (nI (fr + (spl sz))), .int (nI (sz - (spl sz))), .int (nI (dp + 1))]) (ihd (fr + (spl sz)) (sz - (spl sz)) (dp + 1) (by omega) (Nat.le_trans (by omega) (hs4 d (by omega) hp)) (by omega) (by omega) (by omega) hn) ⟨rfl, rfl, by simp only [rmQ]; omega, by simp only [rmQ]; omega⟩ ⟨by simp only [rmQ]; omega, by simp only [rmQ]; omega⟩ rfl rfl (Nat.le_of_ble_eq_true rfl) dX4_rootOfPart_55 ?_
          intro _ _ hr; cases hr
          refine J_callSl cx kX4_75 (As := [.long (rt κ d fr (spl sz)), .long (rt κ d (fr + (spl sz)) (sz - (spl sz)))]) (tX4_joined l D g A ad κ X cs lf pr  (rt κ d fr (spl sz)) (rt κ d (fr + (spl sz)) (sz - (spl sz))) ) ⟨rfl, rfl, by simp only [rmQ]; omega, by simp only [rmQ]; omega⟩ ⟨by simp only [rmQ]; omega, by simp only [rmQ]; omega⟩ rfl rfl (Nat.le_of_ble_eq_true rfl) dX4_rootOfPart_58 ?_
          intro _ _ hr; cases hr
          exact J_lret cx rfl (u := ()) (by show _ = (if decide (sz = 1) then _ else _); rw [decide_eq_false (by omega)]; rfl) rfl (Nat.le_of_ble_eq_true rfl) (Nat.le_of_ble_eq_true rfl) dX4_rootOfPart_61
        · have c_4 := (nat_ic_lt_f (by omega) (by omega)).mp c_4
          have c_4d := decide_eq_false (Nat.not_lt.mpr c_4)
          exfalso; omega
    · have c_2 := (nat_ic_lt_f (by omega) (by omega)).mp c_2
      have c_2d := decide_eq_false (Nat.not_lt.mpr c_2)
      exfalso; omega
set_option maxHeartbeats 4000000 in
set_option maxRecDepth 100000 in
theorem tX4_rootByDividing (l : Launch) (D : va_G) (g : Nat → ClassId) (A : Nat → Prop) (ad : Nat → Nat → Nat) (κ : CS) (X : XT) (cs : Nat → CT) (lf : Nat → Int64) (pr : PT)  (fr : Nat) (sz : Nat) (hEn : ∀ i, i < κ.2.2.1 0 → X.2.2.2.2.2.2.2.2 i = ent κ i) (hn : κ.2.2.1 0 ≤ 40) (h1 : 1 ≤ sz) (hf : fr + sz ≤ κ.2.2.1 0) : CtL l D g A yX4_rootByDividing cX4_rootByDividing 3 .long ({ frames := 9, cells := 0, slots := 0, locals := 222 } : Room) [.ref (ad 0 5), .int (nI fr), .int (nI sz)] (iW ad g κ X cs lf pr) (rt κ 6 fr sz) (iW ad g κ X cs lf pr) := by
  refine metJ (by decide) (Nat.le_of_ble_eq_true rfl) ?_
  intro p e s m args below meth c _ _ cx
  refine J_aload_n cx dX4_rootByDividing_0 rfl 0 rfl ?_
  refine J_get cx (v := .ref (ad 0 6)) fX4_9 5 rfl rfl dX4_rootByDividing_1 ?_
  refine J_iload_n cx dX4_rootByDividing_4 rfl 1 rfl ?_
  refine J_iload_n cx dX4_rootByDividing_5 rfl 2 rfl ?_
  refine J_iconst cx (v := nI 0) dX4_rootByDividing_6 (by decide) ?_
  refine J_callSl cx kX4_67 (As := [.ref (ad 0 6), .int (nI fr), .int (nI sz), .int (nI 0)]) (tX4_rootOfPart l D g A ad κ X cs lf pr hEn 6 fr sz 0 h1 (by show _ ≤ 64; omega) (by omega) (by omega) hf hn) ⟨rfl, rfl, (by first | decide | (simp only [rmQ]; omega)), (by first | decide | (simp only [rmQ]; omega))⟩ ⟨(by first | decide | (simp only [rmQ]; omega)), (by first | decide | (simp only [rmQ]; omega))⟩ rfl rfl (Nat.le_of_ble_eq_true rfl) dX4_rootByDividing_7 ?_
  intro _ _ hr; cases hr
  exact J_lret cx rfl (u := ()) rfl rfl (Nat.le_of_ble_eq_true rfl) (Nat.le_of_ble_eq_true rfl) dX4_rootByDividing_10
set_option maxHeartbeats 4000000 in
set_option maxRecDepth 100000 in
theorem tX6_rootOf (l : Launch) (D : va_G) (g : Nat → ClassId) (A : Nat → Prop) (ad : Nat → Nat → Nat) (κ : CS) (X : XT) (cs : Nat → CT) (lf : Nat → Int64) (pr : PT)  (xs : Int32) (htr : l.stackTraces = false) (hEn : ∀ i, i < κ.2.2.1 0 → X.2.2.2.2.2.2.2.2 i = ent κ i) (hn : κ.2.2.1 0 ≤ 40) : vx_Met l yX6_rootOf (wsA yX6_rootOf cX6_rootOf 2 (some .long)) ({ frames := 10, cells := 1, slots := 6, locals := 244 } : Room) (va_Pc [.ref (ad 0 0), .int xs] (PRE D g A (iW ad g κ X cs lf pr))) (va_Ql (fun (r : Int64) (_ : Unit) => ((opRoot κ xs)).1 = 0 ∧ r = ((opRoot κ xs)).2) (fun _ => PO D A (iW ad g κ X cs lf pr)) A) (XQ (fun E => thrE ["java/lang/IllegalArgumentException"] ((opRoot κ xs)).1 E) D A (iW ad g κ X cs lf pr)) 1 6 A := by
  refine metX (by decide) (Nat.le_of_ble_eq_true rfl) ?_
  intro p e s m args below meth c _ hex cx
  refine J_aload_n cx dX6_rootOf_0 rfl 0 rfl ?_
  refine J_iload_n cx dX6_rootOf_1 rfl 1 rfl ?_
  refine J_xcallVv cx hex kX6_231 (As := [.int xs]) (tX6_requireSize l D g A ad κ X cs lf pr  xs htr ) (fun E h => by obtain ⟨h1, h2⟩ := h; subst h2; exact ⟨by simp [opRoot, xj, h1, true_and], by simp [opRoot, xj, h1, true_and]⟩) ⟨by decide, by decide⟩ ⟨rfl, rfl, (by first | decide | (simp only [rmQ]; omega)), (by first | decide | (simp only [rmQ]; omega))⟩ ⟨(by first | decide | (simp only [rmQ]; omega)), (by first | decide | (simp only [rmQ]; omega))⟩ rfl 0 rfl rfl rfl (Nat.le_of_ble_eq_true rfl) dX6_rootOf_2 ?_
  intro _ hr
  have hsz := hr
  obtain ⟨j, hj1, hj, hxj⟩ := sizB_ex hsz hn; subst hxj
  have hjc : (nI j).toNatClampNeg = j := nI_clamp (by omega)
  refine J_aload_n cx dX6_rootOf_5 rfl 0 rfl ?_
  refine J_get cx (v := .ref (ad 0 5)) fX6_25 0 rfl rfl dX6_rootOf_6 ?_
  refine J_iconst cx (v := nI 0) dX6_rootOf_9 (by decide) ?_
  refine J_iload_n cx dX6_rootOf_10 rfl 1 rfl ?_
  refine J_callVl cx kX6_234 (As := [.int (nI 0), .int (nI j)]) (tX4_rootByDividing l D g A ad κ X cs lf pr  0 j hEn hn (by omega) (by omega)) ⟨rfl, rfl, (by first | decide | (simp only [rmQ]; omega)), (by first | decide | (simp only [rmQ]; omega))⟩ ⟨(by first | decide | (simp only [rmQ]; omega)), (by first | decide | (simp only [rmQ]; omega))⟩ rfl 5 rfl rfl rfl (Nat.le_of_ble_eq_true rfl) dX6_rootOf_11 ?_
  intro _ _ hr; cases hr
  refine J_x ?_
  exact J_lret cx rfl (u := ()) ⟨by simp [opRoot, xj, hsz, hjc], by simp [opRoot, xj, zb, hsz, hjc]⟩ (by simp [opRoot, xj, hsz, hjc]; try rfl) (Nat.le_of_ble_eq_true rfl) (Nat.le_of_ble_eq_true rfl) dX6_rootOf_14
