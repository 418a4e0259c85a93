set_option maxHeartbeats 4000000 in
set_option maxRecDepth 100000 in
theorem tX7_joined (l : Launch) (D : va_G) (g : Nat → ClassId) (A : Nat → Prop) (ad : Nat → Nat) (κ : CS) (th : Int32) (ch : Nat → Nat) (cm rm : Nat) (row : Nat → Int64)  (a : Int64) (b : Int64)  : CtL l D g A yX7_joined cX7_joined 4 .long ({ frames := 0, cells := 0, slots := 0, locals := 0 } : Room) [.long a, .long b] (mW ad g κ th ch cm rm row) (jn a b) (mW ad g κ th ch cm rm row) := by
  refine metJ (by decide) (Nat.le_of_ble_eq_true rfl) ?_
  intro p e s m args below meth c _ _ cx
  refine J_ldc2 cx (v := 1009) dX7_joined_0 cX7_171 ?_
  refine J_lload_n cx dX7_joined_3 rfl 0 rfl ?_
  refine J_lmul cx dX7_joined_4 ?_
  refine J_ldc2 cx (v := 9176) dX7_joined_5 cX7_173 ?_
  refine J_lload_n cx dX7_joined_8 rfl 1 rfl ?_
  refine J_lmul cx dX7_joined_9 ?_
  refine J_ladd cx dX7_joined_10 ?_
  refine J_ldc2 cx (v := 31) dX7_joined_11 cX7_175 ?_
  refine J_ladd cx dX7_joined_14 ?_
  refine J_ldc2 cx (v := 1000000007) dX7_joined_15 cX7_177 ?_
  refine J_lrem cx dX7_joined_18 (by decide) ?_
  exact J_lret cx rfl (u := ()) rfl rfl (Nat.le_of_ble_eq_true rfl) (Nat.le_of_ble_eq_true rfl) dX7_joined_19
set_option maxHeartbeats 4000000 in
set_option maxRecDepth 100000 in
theorem tX7_split (l : Launch) (D : va_G) (g : Nat → ClassId) (A : Nat → Prop) (ad : Nat → Nat) (κ : CS) (th : Int32) (ch : Nat → Nat) (cm rm : Nat) (row : Nat → Int64)  (sz : Nat) (hsz : sz ≤ 40) : CtI l D g A yX7_split cX7_split 2 .int ({ frames := 0, cells := 0, slots := 0, locals := 0 } : Room) [.int (nI sz)] (mW ad g κ th ch cm rm row) (nI (spl sz)) (mW ad g κ th ch cm rm row) := by
  refine metJ (by decide) (Nat.le_of_ble_eq_true rfl) ?_
  intro p e s m args below meth c _ _ cx
  refine J_iconst cx (v := nI 1) dX7_split_0 (by decide) ?_
  refine J_istore_n cx (L' := [(1, .int (nI 1)), (0, .int (nI sz))]) dX7_split_1 rfl (by decide) rfl ?_
  have LP : ∀ (fu : Nat) (f : Nat) (k : Nat), (k * 2 ^ f = 64) → (k ≤ 64) → (splF f k sz = spl sz) → 64 - k < fu → J p l e ({ frames := 0, cells := 0, slots := 0, locals := 0 } : Room) s m args below meth c D A 2 (MQ below (va_Qi (fun (r : Int32) (_ : Unit) => r = (nI (spl sz))) (fun _ => PO D A (mW ad g κ th ch cm rm row)) A) args s 0 0 A) 0 0 (mW ad g κ th ch cm rm row) [(1, .int (nI k)), (0, .int (nI sz))] 2 [] := by
    intro fu; induction fu with
    | zero => intro f k hk hk2 hb hfu; exact absurd hfu (Nat.not_lt_zero _)
    | succ fu ih =>
      intro f k hk hk2 hb hfu
      refine J_iconst cx (v := nI 2) dX7_split_2 (by decide) ?_
      refine J_iload_n cx dX7_split_3 rfl 0 rfl ?_
      refine J_imul cx dX7_split_4 ?_
      refine J_top (v' := .int (nI (2 * k))) (congrArg Value.int (pk_mul 2 k)) ?_
      refine J_iload_n cx dX7_split_5 rfl 1 rfl ?_
      refine J_icmp_ge cx (tgt := 16) dX7_split_6 (by decide) (fun c_1 => ?_) (fun c_1 => ?_)
      · have c_1 := (nat_ic_ge (by omega) (by omega)).mp c_1
        have c_1d := decide_eq_true c_1
        refine J_iload_n cx dX7_split_16 rfl 0 rfl ?_
        exact J_iret cx rfl (u := ()) (by rw [← hb, splF_e (by omega)]) rfl (Nat.le_of_ble_eq_true rfl) (Nat.le_of_ble_eq_true rfl) dX7_split_17
      · have c_1 := (nat_ic_ge_f (by omega) (by omega)).mp c_1
        have c_1d := decide_eq_false (Nat.not_le.mpr c_1)
        refine J_iload_n cx dX7_split_9 rfl 0 rfl ?_
        refine J_iconst cx (v := nI 2) dX7_split_10 (by decide) ?_
        refine J_imul cx dX7_split_11 ?_
        refine J_top (v' := .int (nI (k * 2))) (congrArg Value.int (pk_mul k 2)) ?_
        refine J_istore_n cx (L' := [(1, .int (nI (k * 2))), (0, .int (nI sz))]) dX7_split_12 rfl (by decide) rfl ?_
        refine J_goto cx (tgt := 2) dX7_split_13 (by decide) ?_
        refine J_L [0, 1] rfl ?_
        exact ih (f - 1) _ (splF_s (by omega) hsz hk).2 (by omega) (by rw [← hb, (splF_s (by omega) hsz hk).1]) (by have : k ≠ 0 := (by intro h; subst h; simp at hk); omega)
  refine J_L [0, 1] rfl ?_
  exact LP _ 6 _ (by decide) (by omega) rfl (Nat.lt_succ_self _)
def rmR (d : Nat) : Room := { frames := 1 + d, cells := 0, slots := 0, locals := 23 + d * 25 }
set_option maxHeartbeats 4000000 in
set_option maxRecDepth 100000 in
theorem tX7_rootFrom (l : Launch) (D : va_G) (g : Nat → ClassId) (A : Nat → Prop) (ad : Nat → Nat) (κ : CS) (th : Int32) (ch : Nat → Nat) (cm rm : Nat) (row : Nat → Int64)   : ∀ (d fr sz : Nat), (1 ≤ sz) → (sz ≤ 2 ^ d) → (d ≤ 6) → (fr + sz ≤ κ.2.2.1 0) → (κ.2.2.1 0 ≤ 40) → CtL l D g A yX7_rootFrom cX7_rootFrom 4 .long (rmR d) [.ref (ad 0), .int (nI fr), .int (nI sz)] (mW ad g κ th ch cm rm row) (rt κ d fr sz) (mW ad g κ th ch cm rm row) := by
  intro d; induction d with
  | zero => 
    intro fr sz h1 hp hd hf hn
    refine metJ (by decide) (Nat.le_of_ble_eq_true rfl) ?_
    intro p e s m args below meth c _ _ cx
    refine J_iload_n cx dX7_rootFrom_0 rfl 2 rfl ?_
    refine J_iconst cx (v := nI 1) dX7_rootFrom_1 (by decide) ?_
    refine J_icmp_ne cx (tgt := 56) dX7_rootFrom_2 (by decide) (fun c_1 => ?_) (fun c_1 => ?_)
    · have c_1 := (nat_ic_ne (by omega) (by omega)).mp c_1
      have c_1d := decide_eq_false c_1
      exact absurd c_1 (by simp at hp; omega)
    · have c_1 := (nat_ic_ne_f (by omega) (by omega)).mp c_1
      have c_1d := decide_eq_true c_1
      refine J_ldc2 cx (v := 131) dX7_rootFrom_5 cX7_179 ?_
      refine J_iload_n cx dX7_rootFrom_8 rfl 1 rfl ?_
      refine J_i2l cx (v := (nI fr).toInt64) dX7_rootFrom_9 rfl ?_
      refine J_lmul cx dX7_rootFrom_10 ?_
      refine J_ldc2 cx (v := 8191) dX7_rootFrom_11 cX7_181 ?_
      refine J_aload_n cx dX7_rootFrom_14 rfl 0 rfl ?_
      refine J_get cx (v := .ref (ad 1)) fX7_9 0 rfl rfl dX7_rootFrom_15 ?_
      refine J_iload_n cx dX7_rootFrom_18 rfl 1 rfl ?_
      refine J_iald cx (j := fr) (f := κ.1 0) 1 rfl rfl (by omega) (by decide) dX7_rootFrom_19 ?_
      refine J_i2l cx (v := (κ.1 0 fr).toInt64) dX7_rootFrom_20 rfl ?_
      refine J_lmul cx dX7_rootFrom_21 ?_
      refine J_ladd cx dX7_rootFrom_22 ?_
      refine J_ldc2 cx (v := 127) dX7_rootFrom_23 cX7_183 ?_
      refine J_aload_n cx dX7_rootFrom_26 rfl 0 rfl ?_
      refine J_get cx (v := .ref (ad 2)) fX7_13 0 rfl rfl dX7_rootFrom_27 ?_
      refine J_iload_n cx dX7_rootFrom_30 rfl 1 rfl ?_
      refine J_iald cx (j := fr) (f := κ.1 1) 2 rfl rfl (by omega) (by decide) dX7_rootFrom_31 ?_
      refine J_i2l cx (v := (κ.1 1 fr).toInt64) dX7_rootFrom_32 rfl ?_
      refine J_lmul cx dX7_rootFrom_33 ?_
      refine J_ladd cx dX7_rootFrom_34 ?_
      refine J_ldc2 cx (v := 65537) dX7_rootFrom_35 cX7_185 ?_
      refine J_aload_n cx dX7_rootFrom_38 rfl 0 rfl ?_
      refine J_get cx (v := .ref (ad 6)) fX7_25 0 rfl rfl dX7_rootFrom_39 ?_
      refine J_iload_n cx dX7_rootFrom_42 rfl 1 rfl ?_
      refine J_iald cx (j := fr) (f := κ.1 5) 6 rfl rfl (by omega) (by decide) dX7_rootFrom_43 ?_
      refine J_i2l cx (v := (κ.1 5 fr).toInt64) dX7_rootFrom_44 rfl ?_
      refine J_lmul cx dX7_rootFrom_45 ?_
      refine J_ladd cx dX7_rootFrom_46 ?_
      refine J_ldc2 cx (v := 11) dX7_rootFrom_47 cX7_187 ?_
      refine J_ladd cx dX7_rootFrom_50 ?_
      refine J_ldc2 cx (v := 1000000007) dX7_rootFrom_51 cX7_177 ?_
      refine J_lrem cx dX7_rootFrom_54 (by decide) ?_
      exact J_lret cx rfl (u := ()) (by simp only [rt]; rfl) rfl (Nat.le_of_ble_eq_true rfl) (Nat.le_of_ble_eq_true rfl) dX7_rootFrom_55
  | succ d ihd => 
    intro fr sz h1 hp hd hf hn
    refine metJ (by decide) (Nat.le_of_ble_eq_true rfl) ?_
    intro p e s m args below meth c _ _ cx
    refine J_iload_n cx dX7_rootFrom_0 rfl 2 rfl ?_
    refine J_iconst cx (v := nI 1) dX7_rootFrom_1 (by decide) ?_
    refine J_icmp_ne cx (tgt := 56) dX7_rootFrom_2 (by decide) (fun c_1 => ?_) (fun c_1 => ?_)
    · have c_1 := (nat_ic_ne (by omega) (by omega)).mp c_1
      have c_1d := decide_eq_false c_1
      refine J_iload_n cx dX7_rootFrom_56 rfl 2 rfl ?_
      refine J_callSi cx kX7_189 (As := [.int (nI sz)]) (tX7_split l D g A ad κ th ch cm rm row  sz (by omega)) ⟨rfl, rfl, by simp only [rmR]; omega, by simp only [rmR]; omega⟩ ⟨by simp only [rmR]; omega, by simp only [rmR]; omega⟩ rfl rfl (Nat.le_of_ble_eq_true rfl) dX7_rootFrom_57 ?_
      intro _ _ hr; cases hr
      obtain ⟨hs1, hs2, hs3, hs4⟩ := spl_spec sz (by omega) (by omega)
      refine J_istore_n cx (L' := [(3, .int (nI (spl sz))), (0, .ref (ad 0)), (1, .int (nI fr)), (2, .int (nI sz))]) dX7_rootFrom_60 rfl (by decide) rfl ?_
      refine J_aload_n cx dX7_rootFrom_61 rfl 1 rfl ?_
      refine J_iload_n cx dX7_rootFrom_62 rfl 2 rfl ?_
      refine J_iload_n cx dX7_rootFrom_63 rfl 0 rfl ?_
      refine J_callVl cx kX7_192 (As := [.int (nI fr), .int (nI (spl sz))]) (ihd fr (spl sz) hs1 (hs4 d (by omega) hp) (by omega) (by omega) hn) ⟨rfl, rfl, by simp only [rmR]; omega, by simp only [rmR]; omega⟩ ⟨by simp only [rmR]; omega, by simp only [rmR]; omega⟩ rfl 0 rfl rfl rfl (Nat.le_of_ble_eq_true rfl) dX7_rootFrom_64 ?_
      intro _ _ hr; cases hr
      refine J_aload_n cx dX7_rootFrom_67 rfl 1 rfl ?_
      refine J_iload_n cx dX7_rootFrom_68 rfl 2 rfl ?_
      refine J_iload_n cx dX7_rootFrom_69 rfl 0 rfl ?_
      refine J_iadd cx dX7_rootFrom_70 ?_
      refine J_top (v' := .int (nI (fr + (spl sz)))) (congrArg Value.int (nI_add fr (spl sz))) ?_
      refine J_iload_n cx dX7_rootFrom_71 rfl 3 rfl ?_
      refine J_iload_n cx dX7_rootFrom_72 rfl 0 rfl ?_
      refine J_isub cx dX7_rootFrom_73 ?_
      refine J_top (v' := .int (nI (sz - (spl sz)))) (congrArg Value.int (pk_sub (by omega))) ?_
      refine J_callVl cx kX7_192 (As := [.int (nI (fr + (spl sz))), .int (nI (sz - (spl sz)))]) (ihd (fr + (spl sz)) (sz - (spl sz)) (by omega) (Nat.le_trans (by omega) (hs4 d (by omega) hp)) (by omega) (by omega) hn) ⟨rfl, rfl, by simp only [rmR]; omega, by simp only [rmR]; omega⟩ ⟨by simp only [rmR]; omega, by simp only [rmR]; omega⟩ rfl 0 rfl rfl rfl (Nat.le_of_ble_eq_true rfl) dX7_rootFrom_74 ?_
      intro _ _ hr; cases hr
      refine J_callSl cx kX7_196 (As := [.long (rt κ d fr (spl sz)), .long (rt κ d (fr + (spl sz)) (sz - (spl sz)))]) (tX7_joined l D g A ad κ th ch cm rm row  (rt κ d fr (spl sz)) (rt κ d (fr + (spl sz)) (sz - (spl sz))) ) ⟨rfl, rfl, by simp only [rmR]; omega, by simp only [rmR]; omega⟩ ⟨by simp only [rmR]; omega, by simp only [rmR]; omega⟩ rfl rfl (Nat.le_of_ble_eq_true rfl) dX7_rootFrom_77 ?_
      intro _ _ hr; cases hr
      exact J_lret cx rfl (u := ()) (by simp [rt, c_1, c_1d]; try rfl) rfl (Nat.le_of_ble_eq_true rfl) (Nat.le_of_ble_eq_true rfl) dX7_rootFrom_80
    · have c_1 := (nat_ic_ne_f (by omega) (by omega)).mp c_1
      have c_1d := decide_eq_true c_1
      refine J_ldc2 cx (v := 131) dX7_rootFrom_5 cX7_179 ?_
      refine J_iload_n cx dX7_rootFrom_8 rfl 1 rfl ?_
      refine J_i2l cx (v := (nI fr).toInt64) dX7_rootFrom_9 rfl ?_
      refine J_lmul cx dX7_rootFrom_10 ?_
      refine J_ldc2 cx (v := 8191) dX7_rootFrom_11 cX7_181 ?_
      refine J_aload_n cx dX7_rootFrom_14 rfl 0 rfl ?_
      refine J_get cx (v := .ref (ad 1)) fX7_9 0 rfl rfl dX7_rootFrom_15 ?_
      refine J_iload_n cx dX7_rootFrom_18 rfl 1 rfl ?_
      refine J_iald cx (j := fr) (f := κ.1 0) 1 rfl rfl (by omega) (by decide) dX7_rootFrom_19 ?_
      refine J_i2l cx (v := (κ.1 0 fr).toInt64) dX7_rootFrom_20 rfl ?_
      refine J_lmul cx dX7_rootFrom_21 ?_
      refine J_ladd cx dX7_rootFrom_22 ?_
      refine J_ldc2 cx (v := 127) dX7_rootFrom_23 cX7_183 ?_
      refine J_aload_n cx dX7_rootFrom_26 rfl 0 rfl ?_
      refine J_get cx (v := .ref (ad 2)) fX7_13 0 rfl rfl dX7_rootFrom_27 ?_
      refine J_iload_n cx dX7_rootFrom_30 rfl 1 rfl ?_
      refine J_iald cx (j := fr) (f := κ.1 1) 2 rfl rfl (by omega) (by decide) dX7_rootFrom_31 ?_
      refine J_i2l cx (v := (κ.1 1 fr).toInt64) dX7_rootFrom_32 rfl ?_
      refine J_lmul cx dX7_rootFrom_33 ?_
      refine J_ladd cx dX7_rootFrom_34 ?_
      refine J_ldc2 cx (v := 65537) dX7_rootFrom_35 cX7_185 ?_
      refine J_aload_n cx dX7_rootFrom_38 rfl 0 rfl ?_
      refine J_get cx (v := .ref (ad 6)) fX7_25 0 rfl rfl dX7_rootFrom_39 ?_
      refine J_iload_n cx dX7_rootFrom_42 rfl 1 rfl ?_
      refine J_iald cx (j := fr) (f := κ.1 5) 6 rfl rfl (by omega) (by decide) dX7_rootFrom_43 ?_
      refine J_i2l cx (v := (κ.1 5 fr).toInt64) dX7_rootFrom_44 rfl ?_
      refine J_lmul cx dX7_rootFrom_45 ?_
      refine J_ladd cx dX7_rootFrom_46 ?_
      refine J_ldc2 cx (v := 11) dX7_rootFrom_47 cX7_187 ?_
      refine J_ladd cx dX7_rootFrom_50 ?_
      refine J_ldc2 cx (v := 1000000007) dX7_rootFrom_51 cX7_177 ?_
      refine J_lrem cx dX7_rootFrom_54 (by decide) ?_
      exact J_lret cx rfl (u := ()) (by simp [rt, c_1d]; try rfl) rfl (Nat.le_of_ble_eq_true rfl) (Nat.le_of_ble_eq_true rfl) dX7_rootFrom_55
set_option maxHeartbeats 4000000 in
set_option maxRecDepth 100000 in
theorem tX7_isNoSize (l : Launch) (D : va_G) (g : Nat → ClassId) (A : Nat → Prop) (ad : Nat → Nat) (κ : CS) (th : Int32) (ch : Nat → Nat) (cm rm : Nat) (row : Nat → Int64)  (xs : Int32) (hn : κ.2.2.1 0 ≤ 40) : CtI l D g A yX7_isNoSize cX7_isNoSize 2 .boolean ({ frames := 1, cells := 0, slots := 0, locals := 22 } : Room) [.ref (ad 0), .int xs] (mW ad g κ th ch cm rm row) (zb (!sizB κ xs)) (mW ad g κ (if sizB κ xs then nI 0 else nI 1) ch cm rm row) := by
  refine metJ (by decide) (Nat.le_of_ble_eq_true rfl) ?_
  intro p e s m args below meth c _ _ cx
  refine J_aload_n cx dX7_isNoSize_0 rfl 0 rfl ?_
  refine J_iload_n cx dX7_isNoSize_1 rfl 1 rfl ?_
  refine J_iconst cx (v := nI 1) dX7_isNoSize_2 (by decide) ?_
  refine J_aload_n cx dX7_isNoSize_3 rfl 0 rfl ?_
  refine J_get cx (v := .int (nI (κ.2.2.1 0))) fX7_71 0 rfl rfl dX7_isNoSize_4 ?_
  refine J_callSi cx kX7_67 (As := [.int xs, .int (nI 1), .int (nI (κ.2.2.1 0))]) (tX7_isIn l D g A ad κ th ch cm rm row  xs (nI 1) (nI (κ.2.2.1 0)) ) ⟨rfl, rfl, by decide, by decide⟩ ⟨by decide, by decide⟩ rfl rfl (Nat.le_of_ble_eq_true rfl) dX7_isNoSize_7 ?_
  intro _ _ hr; cases hr
  refine J_top (v' := .int (zb (sizB κ xs))) rfl ?_
  refine J_ifz_ne cx (tgt := 17) dX7_isNoSize_10 (by decide) (fun c_1 => ?_) (fun c_1 => ?_)
  · refine J_iconst cx (v := nI 0) dX7_isNoSize_17 (by decide) ?_
    refine J_iconst cx (v := nI 1) dX7_isNoSize_18 (by decide) ?_
    refine J_callVi cx kX7_78 (As := [.int (nI 0), .int (nI 1)]) (tX7_isThrown l D g A ad κ th ch cm rm row  false (nI 1) ) ⟨rfl, rfl, by decide, by decide⟩ ⟨by decide, by decide⟩ rfl 0 rfl rfl rfl (Nat.le_of_ble_eq_true rfl) dX7_isNoSize_19 ?_
    intro _ _ hr; cases hr
    exact J_zret cx rfl (u := ()) (zb_nar _) (by simp [zb, c_1]) (by simp [c_1]) (Nat.le_of_ble_eq_true rfl) (Nat.le_of_ble_eq_true rfl) dX7_isNoSize_22
  · refine J_iconst cx (v := nI 1) dX7_isNoSize_13 (by decide) ?_
    refine J_goto cx (tgt := 18) dX7_isNoSize_14 (by decide) ?_
    refine J_iconst cx (v := nI 1) dX7_isNoSize_18 (by decide) ?_
    refine J_callVi cx kX7_78 (As := [.int (nI 1), .int (nI 1)]) (tX7_isThrown l D g A ad κ th ch cm rm row  true (nI 1) ) ⟨rfl, rfl, by decide, by decide⟩ ⟨by decide, by decide⟩ rfl 0 rfl rfl rfl (Nat.le_of_ble_eq_true rfl) dX7_isNoSize_19 ?_
    intro _ _ hr; cases hr
    exact J_zret cx rfl (u := ()) (zb_nar _) (by simp [zb, c_1]) (by simp [c_1]) (Nat.le_of_ble_eq_true rfl) (Nat.le_of_ble_eq_true rfl) dX7_isNoSize_22
set_option maxHeartbeats 4000000 in
set_option maxRecDepth 100000 in
theorem tX7_rootOf (l : Launch) (D : va_G) (g : Nat → ClassId) (A : Nat → Prop) (ad : Nat → Nat) (κ : CS) (th : Int32) (ch : Nat → Nat) (cm rm : Nat) (row : Nat → Int64)  (xs : Int32) (hn : κ.2.2.1 0 ≤ 40) : CtL l D g A yX7_rootOf cX7_rootOf 2 .long ({ frames := 9, cells := 0, slots := 0, locals := 221 } : Room) [.ref (ad 0), .int xs] (mW ad g κ th ch cm rm row) ((opRoot κ xs).2) (mW ad g κ (nI (opRoot κ xs).1) ch cm rm row) := by
  refine metJ (by decide) (Nat.le_of_ble_eq_true rfl) ?_
  intro p e s m args below meth c _ _ cx
  refine J_aload_n cx dX7_rootOf_0 rfl 0 rfl ?_
  refine J_iload_n cx dX7_rootOf_1 rfl 1 rfl ?_
  refine J_callVi cx kX7_200 (As := [.int xs]) (tX7_isNoSize l D g A ad κ th ch cm rm row  xs (by first | assumption | omega)) ⟨rfl, rfl, (by first | decide | (simp only [rmR]; omega)), (by first | decide | (simp only [rmR]; omega))⟩ ⟨(by first | decide | (simp only [rmR]; omega)), (by first | decide | (simp only [rmR]; omega))⟩ rfl 0 rfl rfl rfl (Nat.le_of_ble_eq_true rfl) dX7_rootOf_2 ?_
  intro _ _ hr; cases hr
  refine J_ifz_eq cx (tgt := 12) dX7_rootOf_5 (by decide) (fun c_1 => ?_) (fun c_1 => ?_)
  · have c_1 := bn_f c_1
    obtain ⟨j, hj1, hj, hxj⟩ := sizB_ex c_1 hn; subst hxj
    have hjc : (nI j).toNatClampNeg = j := nI_clamp (by omega)
    refine J_aload_n cx dX7_rootOf_12 rfl 0 rfl ?_
    refine J_iconst cx (v := nI 0) dX7_rootOf_13 (by decide) ?_
    refine J_iload_n cx dX7_rootOf_14 rfl 1 rfl ?_
    refine J_callVl cx kX7_192 (As := [.int (nI 0), .int (nI j)]) (tX7_rootFrom l D g A ad κ (if sizB κ (nI j) then nI 0 else nI 1) ch cm rm row 6 0 j (by omega) (by show _ ≤ 64; omega) (by omega) (by omega) hn) ⟨rfl, rfl, (by first | decide | (simp only [rmR]; omega)), (by first | decide | (simp only [rmR]; omega))⟩ ⟨(by first | decide | (simp only [rmR]; omega)), (by first | decide | (simp only [rmR]; omega))⟩ rfl 0 rfl rfl rfl (Nat.le_of_ble_eq_true rfl) dX7_rootOf_15 ?_
    intro _ _ hr; cases hr
    exact J_lret cx rfl (u := ()) (by simp only [opRoot, Bool.and_true, Bool.true_and, Bool.and_false, Bool.false_and, Bool.or_true, Bool.true_or, Bool.or_false, Bool.false_or, Bool.not_true, Bool.not_false, if_true, if_false, Bool.false_eq_true, decide_true, decide_false, ite_true, ite_false, ne_eq, not_true_eq_false, not_false_eq_true, xj, c_1, hjc]; try rfl) (by simp only [opRoot, Bool.and_true, Bool.true_and, Bool.and_false, Bool.false_and, Bool.or_true, Bool.true_or, Bool.or_false, Bool.false_or, Bool.not_true, Bool.not_false, if_true, if_false, Bool.false_eq_true, decide_true, decide_false, ite_true, ite_false, ne_eq, not_true_eq_false, not_false_eq_true, xj, c_1, hjc]; try rfl) (Nat.le_of_ble_eq_true rfl) (Nat.le_of_ble_eq_true rfl) dX7_rootOf_18
  · have c_1 := bn_t c_1
    refine J_lconst cx (v := lN 0) dX7_rootOf_8 (by decide) ?_
    refine J_goto cx (tgt := 18) dX7_rootOf_9 (by decide) ?_
    exact J_lret cx rfl (u := ()) (by simp only [opRoot, Bool.and_true, Bool.true_and, Bool.and_false, Bool.false_and, Bool.or_true, Bool.true_or, Bool.or_false, Bool.false_or, Bool.not_true, Bool.not_false, if_true, if_false, Bool.false_eq_true, decide_true, decide_false, ite_true, ite_false, ne_eq, not_true_eq_false, not_false_eq_true, xj, c_1]; try rfl) (by simp only [opRoot, Bool.and_true, Bool.true_and, Bool.and_false, Bool.false_and, Bool.or_true, Bool.true_or, Bool.or_false, Bool.false_or, Bool.not_true, Bool.not_false, if_true, if_false, Bool.false_eq_true, decide_true, decide_false, ite_true, ite_false, ne_eq, not_true_eq_false, not_false_eq_true, xj, c_1]; try rfl) (Nat.le_of_ble_eq_true rfl) (Nat.le_of_ble_eq_true rfl) dX7_rootOf_18
set_option maxHeartbeats 4000000 in
set_option maxRecDepth 100000 in
theorem tX7_rootByJoining (l : Launch) (D : va_G) (g : Nat → ClassId) (A : Nat → Prop) (ad : Nat → Nat) (κ : CS) (th : Int32) (ch : Nat → Nat) (cm rm : Nat) (row : Nat → Int64)  (xs : Int32) (hn : κ.2.2.1 0 ≤ 40) : CtL l D g A yX7_rootByJoining cX7_rootByJoining 2 .long ({ frames := 10, cells := 0, slots := 0, locals := 242 } : Room) [.ref (ad 0), .int xs] (mW ad g κ th ch cm rm row) ((opRoot κ xs).2) (mW ad g κ (nI (opRoot κ xs).1) ch cm rm row) := by
  refine metJ (by decide) (Nat.le_of_ble_eq_true rfl) ?_
  intro p e s m args below meth c _ _ cx
  refine J_aload_n cx dX7_rootByJoining_0 rfl 0 rfl ?_
  refine J_iload_n cx dX7_rootByJoining_1 rfl 1 rfl ?_
  refine J_callVl cx kX7_203 (As := [.int xs]) (tX7_rootOf l D g A ad κ th ch cm rm row  xs (by first | assumption | omega)) ⟨rfl, rfl, by decide, by decide⟩ ⟨by decide, by decide⟩ rfl 0 rfl rfl rfl (Nat.le_of_ble_eq_true rfl) dX7_rootByJoining_2 ?_
  intro _ _ hr; cases hr
  exact J_lret cx rfl (u := ()) rfl rfl (Nat.le_of_ble_eq_true rfl) (Nat.le_of_ble_eq_true rfl) dX7_rootByJoining_5
set_option maxHeartbeats 4000000 in
set_option maxRecDepth 100000 in
theorem tX7_adds (l : Launch) (D : va_G) (g : Nat → ClassId) (A : Nat → Prop) (ad : Nat → Nat) (κ : CS) (th : Int32) (ch : Nat → Nat) (cm rm : Nat) (row : Nat → Int64)  (h : Int64) (hr : rm < 40) : CtV l D g A yX7_adds cX7_adds 3 ({ frames := 0, cells := 0, slots := 0, locals := 0 } : Room) [.ref (ad 0), .long h] (mW ad g κ th ch cm rm row) (mW ad g κ th ch cm (rm + 1) (vp_updL row rm h)) := by
  refine metJ (by decide) (Nat.le_of_ble_eq_true rfl) ?_
  intro p e s m args below meth c _ _ cx
  refine J_aload_n cx dX7_adds_0 rfl 0 rfl ?_
  refine J_get cx (v := .ref (ad 17)) fX7_59 0 rfl rfl dX7_adds_1 ?_
  refine J_aload_n cx dX7_adds_4 rfl 0 rfl ?_
  refine J_get cx (v := .int (nI rm)) fX7_207 0 rfl rfl dX7_adds_5 ?_
  refine J_lload_n cx dX7_adds_8 rfl 1 rfl ?_
  refine J_last cx (ws' := (mW ad g κ th ch cm rm (vp_updL row rm h))) (j := rm) 17 rfl  rfl (by omega) (by decide) rfl dX7_adds_9 ?_
  refine J_aload_n cx dX7_adds_10 rfl 0 rfl ?_
  refine J_dup cx dX7_adds_11 rfl ?_
  refine J_get cx (v := .int (nI rm)) fX7_207 0 rfl rfl dX7_adds_12 ?_
  refine J_iconst cx (v := nI 1) dX7_adds_15 (by decide) ?_
  refine J_iadd cx dX7_adds_16 ?_
  refine J_top (v' := .int (nI (rm + 1))) (congrArg Value.int (nI_add rm 1)) ?_
  refine J_put cx (ws' := (mW ad g κ th ch cm (rm + 1) (vp_updL row rm h))) fX7_207 ⟨tyX7_ok, nmX7, tyX7_ok 23 (by decide)⟩ rfl 0 rfl rfl rfl (Nat.le_of_ble_eq_true rfl) rfl dX7_adds_17 ?_
  exact J_vret cx rfl (u := ()) trivial rfl (Nat.le_of_ble_eq_true rfl) (Nat.le_of_ble_eq_true rfl) dX7_adds_20
