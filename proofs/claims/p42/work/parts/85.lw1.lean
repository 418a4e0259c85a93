set_option maxHeartbeats 4000000 in
set_option maxRecDepth 100000 in
theorem tL_cell (l : Launch) (D : va_G) (g : Nat → ClassId) (A : Nat → Prop) (ws : va_W) (i : Nat) (hi : i < 100000) (hLn : g 11 ≤ 260) : CtI l D g A yL_cell cL_cell 3 .int ({ frames := 0, cells := 0, slots := 0, locals := 0 } : Room) [.ref (g 10), .int (nI i)] (ws) (cellF g i) (ws) := by
  have hL2 : @LT.lt Nat _ (g 11) 261 := Nat.lt_succ_of_le hLn
  refine metJ (by decide) (Nat.le_of_ble_eq_true rfl) ?_
  intro p e s m args below meth c _ _ cx
  refine J_ldc cx (v := nI 69069) dL_cell_0 cL_7 ?_
  refine J_iload_n cx dL_cell_2 rfl 1 rfl ?_
  refine J_aload_n cx dL_cell_3 rfl 0 rfl ?_
  refine J_slen cx dL_cell_4 ?_
  refine J_icmp_ge cx (tgt := 14) dL_cell_5 (by decide) (fun c_1 => ?_) (fun c_1 => ?_)
  · have c_1 := (nat_ic_ge (by omega) (by omega)).mp c_1
    have c_1d := decide_eq_true c_1
    refine J_iconst cx (v := nI 0) dL_cell_14 (by decide) ?_
    refine J_sipush cx (v := nI 1009) dL_cell_15 (by decide) ?_
    refine J_iload_n cx dL_cell_18 rfl 1 rfl ?_
    refine J_imul cx dL_cell_19 ?_
    refine J_top (v' := .int (nI (1009 * i))) (congrArg Value.int (pk_mul 1009 i)) ?_
    refine J_iadd cx dL_cell_20 ?_
    refine J_imul cx dL_cell_21 ?_
    refine J_sipush cx (v := nI 12345) dL_cell_22 (by decide) ?_
    refine J_iadd cx dL_cell_25 ?_
    refine J_top (v' := .int (cellA i (nI 0))) rfl ?_
    refine J_istore_n cx (L' := [(2, .int (cellA i (nI 0))), (0, .ref (g 10)), (1, .int (nI i))]) dL_cell_26 rfl (by decide) rfl ?_
    refine J_iload_n cx dL_cell_27 rfl 0 rfl ?_
    refine J_iload_n cx dL_cell_28 rfl 0 rfl ?_
    refine J_bipush cx (v := nI 13) dL_cell_29 (by decide) ?_
    refine J_iushr cx dL_cell_31 ?_
    refine J_ixor cx dL_cell_32 ?_
    refine J_ldc cx (v := nI 1103515245) dL_cell_33 cL_8 ?_
    refine J_imul cx dL_cell_35 ?_
    refine J_top (v' := .int (cellB (cellA i (nI 0)))) rfl ?_
    refine J_istore_n cx (L' := [(2, .int (cellB (cellA i (nI 0)))), (0, .ref (g 10)), (1, .int (nI i))]) dL_cell_36 rfl (by decide) rfl ?_
    refine J_iload_n cx dL_cell_37 rfl 0 rfl ?_
    refine J_iload_n cx dL_cell_38 rfl 0 rfl ?_
    refine J_bipush cx (v := nI 16) dL_cell_39 (by decide) ?_
    refine J_iushr cx dL_cell_41 ?_
    refine J_ixor cx dL_cell_42 ?_
    refine J_top (v' := .int (cellC (cellB (cellA i (nI 0))))) rfl ?_
    exact J_iret cx rfl (u := ()) (by unfold cellF; rw [if_neg (Nat.not_lt.mpr c_1)]) rfl (Nat.le_of_ble_eq_true rfl) (Nat.le_of_ble_eq_true rfl) dL_cell_43
  · have c_1 := (nat_ic_ge_f (by omega) (by omega)).mp c_1
    have c_1d := decide_eq_false (Nat.not_le.mpr c_1)
    refine J_aload_n cx dL_cell_8 rfl 0 rfl ?_
    refine J_iload_n cx dL_cell_9 rfl 1 rfl ?_
    refine J_sld cx (j := i) rfl (by omega) dL_cell_10 ?_
    refine J_goto cx (tgt := 15) dL_cell_11 (by decide) ?_
    refine J_sipush cx (v := nI 1009) dL_cell_15 (by decide) ?_
    refine J_iload_n cx dL_cell_18 rfl 1 rfl ?_
    refine J_imul cx dL_cell_19 ?_
    refine J_top (v' := .int (nI (1009 * i))) (congrArg Value.int (pk_mul 1009 i)) ?_
    refine J_iadd cx dL_cell_20 ?_
    refine J_imul cx dL_cell_21 ?_
    refine J_sipush cx (v := nI 12345) dL_cell_22 (by decide) ?_
    refine J_iadd cx dL_cell_25 ?_
    refine J_top (v' := .int (cellA i (scX g i))) rfl ?_
    refine J_istore_n cx (L' := [(2, .int (cellA i (scX g i))), (0, .ref (g 10)), (1, .int (nI i))]) dL_cell_26 rfl (by decide) rfl ?_
    refine J_iload_n cx dL_cell_27 rfl 0 rfl ?_
    refine J_iload_n cx dL_cell_28 rfl 0 rfl ?_
    refine J_bipush cx (v := nI 13) dL_cell_29 (by decide) ?_
    refine J_iushr cx dL_cell_31 ?_
    refine J_ixor cx dL_cell_32 ?_
    refine J_ldc cx (v := nI 1103515245) dL_cell_33 cL_8 ?_
    refine J_imul cx dL_cell_35 ?_
    refine J_top (v' := .int (cellB (cellA i (scX g i)))) rfl ?_
    refine J_istore_n cx (L' := [(2, .int (cellB (cellA i (scX g i)))), (0, .ref (g 10)), (1, .int (nI i))]) dL_cell_36 rfl (by decide) rfl ?_
    refine J_iload_n cx dL_cell_37 rfl 0 rfl ?_
    refine J_iload_n cx dL_cell_38 rfl 0 rfl ?_
    refine J_bipush cx (v := nI 16) dL_cell_39 (by decide) ?_
    refine J_iushr cx dL_cell_41 ?_
    refine J_ixor cx dL_cell_42 ?_
    refine J_top (v' := .int (cellC (cellB (cellA i (scX g i))))) rfl ?_
    exact J_iret cx rfl (u := ()) (by unfold cellF; rw [if_pos c_1]) rfl (Nat.le_of_ble_eq_true rfl) (Nat.le_of_ble_eq_true rfl) dL_cell_43
set_option maxHeartbeats 4000000 in
set_option maxRecDepth 100000 in
theorem tL_in (l : Launch) (D : va_G) (g : Nat → ClassId) (A : Nat → Prop) (ws : va_W) (i n : Nat) (hi : i < 100000) (h0 : 0 < n) (hn : n < 2147483648) : CtI l D g A yL_in cL_in 3 .int ({ frames := 1, cells := 0, slots := 0, locals := 22 } : Room) [.ref (g 10), .int (nI i), .int (nI n)] (ws) (nI (inN g i n)) (ws) := by
  refine metJ (by decide) (Nat.le_of_ble_eq_true rfl) ?_
  intro p e s m args below meth c _ _ cx
  refine J_aload_n cx dL_in_0 rfl 0 rfl ?_
  refine J_iload_n cx dL_in_1 rfl 1 rfl ?_
  refine J_callSi cx kL_94 (As := [.ref (g 10), .int (nI i)]) (tL_cell l D g A ws i (by omega) cx.sx.2.2.2) ⟨rfl, rfl, by decide, by decide⟩ ⟨by decide, by decide⟩ rfl rfl (Nat.le_of_ble_eq_true rfl) dL_in_2 ?_
  intro _ _ hr; cases hr
  refine J_ldc cx (v := nI 2147483647) dL_in_5 cL_100 ?_
  refine J_iand cx dL_in_7 ?_
  refine J_iload_n cx dL_in_8 rfl 2 rfl ?_
  refine J_irem cx dL_in_9 (nI_n0 h0 hn) ?_
  refine J_top (v' := .int (nI (inN g i n))) (congrArg Value.int (inN_eq h0 hn)) ?_
  exact J_iret cx rfl (u := ()) rfl rfl (Nat.le_of_ble_eq_true rfl) (Nat.le_of_ble_eq_true rfl) dL_in_10
set_option maxHeartbeats 4000000 in
set_option maxRecDepth 100000 in
theorem tL_name (l : Launch) (D : va_G) (g : Nat → ClassId) (A : Nat → Prop) (ws : va_W) (i ab : Nat) (hi : i < 90000) (hab : ab ≤ 9999) : CtI l D g A yL_name cL_name 5 .int ({ frames := 2, cells := 0, slots := 0, locals := 44 } : Room) [.ref (g 10), .int (nI i), .int (nI ab)] (ws) (nI (nmG g i ab)) (ws) := by
  refine metJ (by decide) (Nat.le_of_ble_eq_true rfl) ?_
  intro p e s m args below meth c _ _ cx
  refine J_iload_n cx dL_name_0 rfl 2 rfl ?_
  refine J_istore_n cx (L' := [(3, .int (nI ab)), (0, .ref (g 10)), (1, .int (nI i)), (2, .int (nI ab))]) dL_name_1 rfl (by decide) rfl ?_
  refine J_aload_n cx dL_name_2 rfl 1 rfl ?_
  refine J_iload_n cx dL_name_3 rfl 2 rfl ?_
  refine J_iconst cx (v := nI 3) dL_name_4 (by decide) ?_
  refine J_callSi cx kL_101 (As := [.ref (g 10), .int (nI i), .int (nI 3)]) (tL_in l D g A ws i 3 (by omega) (by omega) (by omega)) ⟨rfl, rfl, by decide, by decide⟩ ⟨by decide, by decide⟩ rfl rfl (Nat.le_of_ble_eq_true rfl) dL_name_5 ?_
  intro _ _ hr; cases hr
  have hin_1 := inN_lt (g := g) (i := i) (n := 3) (by omega)
  refine J_top (v' := .int (nI (inN g i 3 + 1) + (-1))) (congrArg Value.int (nI_inc _)) ?_
  refine J_istore cx (L' := [(4, .int (nI (inN g i 3 + 1) + (-1))), (3, .int (nI ab)), (0, .ref (g 10)), (1, .int (nI i)), (2, .int (nI ab))]) dL_name_8 (by decide) rfl ?_
  have LP : ∀ (fu : Nat) (mm : Nat) (nm : Nat), (mm ≤ 3) → (nm ≤ 9999) → (nmL g i mm nm = nmG g i ab) → mm < fu → J p l e ({ frames := 2, cells := 0, slots := 0, locals := 44 } : Room) s m args below meth c D A 5 (MQ below (va_Qi (fun (r : Int32) (_ : Unit) => r = (nI (nmG g i ab))) (fun _ => PO D A (ws)) A) args s 0 0 A) 0 0 (ws) [(4, .int (nI mm + (-1))), (3, .int (nI nm)), (0, .ref (g 10)), (1, .int (nI i)), (2, .int (nI ab))] 10 [] := by
    intro fu; induction fu with
    | zero => intro mm nm hm hnm hb hfu; exact absurd hfu (Nat.not_lt_zero _)
    | succ fu ih =>
      intro mm nm hm hnm hb hfu
      refine J_iload cx dL_name_10 0 rfl ?_
      rcases Nat.eq_zero_or_pos mm with hm0 | hm0
      · subst hm0
        refine J_if_lt cx (tgt := 47) dL_name_12 (by decide) (fun _ => ?_) (fun h => absurd (by decide) h)
        refine J_iload_n cx dL_name_47 rfl 1 rfl ?_
        exact J_iret cx rfl (u := ()) (congrArg nI hb) rfl (Nat.le_of_ble_eq_true rfl) (Nat.le_of_ble_eq_true rfl) dL_name_48
      · refine J_top (v' := .int (nI (mm - 1))) (congrArg Value.int (nI_dec hm0)) ?_
        refine J_Le (L' := [(4, .int (nI (mm - 1))), (3, .int (nI nm)), (0, .ref (g 10)), (1, .int (nI i)), (2, .int (nI ab))]) (by rw [nI_dec hm0]) ?_
        refine J_if_lt cx (tgt := 47) dL_name_12 (by decide) (fun h => absurd h (nI_pos (by omega))) (fun _ => ?_)
        refine J_iload_n cx dL_name_15 rfl 1 rfl ?_
        refine J_sipush cx (v := nI 1000) dL_name_16 (by decide) ?_
        refine J_icmp_ge cx (tgt := 47) dL_name_19 (by decide) (fun c_3 => ?_) (fun c_3 => ?_)
        · have c_3 := (nat_ic_ge (by omega) (by omega)).mp c_3
          have c_3d := decide_eq_true c_3
          refine J_iload_n cx dL_name_47 rfl 1 rfl ?_
          exact J_iret cx rfl (u := ()) (by rw [← hb, show mm = (mm - 1) + 1 from by omega]; exact congrArg nI (if_neg (Nat.not_lt.mpr c_3)).symm) rfl (Nat.le_of_ble_eq_true rfl) (Nat.le_of_ble_eq_true rfl) dL_name_48
        · have c_3 := (nat_ic_ge_f (by omega) (by omega)).mp c_3
          have c_3d := decide_eq_false (Nat.not_le.mpr c_3)
          refine J_bipush cx (v := nI 10) dL_name_22 (by decide) ?_
          refine J_iload_n cx dL_name_24 rfl 1 rfl ?_
          refine J_imul cx dL_name_25 ?_
          refine J_top (v' := .int (nI (10 * nm))) (congrArg Value.int (pk_mul 10 nm)) ?_
          refine J_iconst cx (v := nI 1) dL_name_26 (by decide) ?_
          refine J_iadd cx dL_name_27 ?_
          refine J_top (v' := .int (nI ((10 * nm) + 1))) (congrArg Value.int (nI_add (10 * nm) 1)) ?_
          refine J_aload_n cx dL_name_28 rfl 2 rfl ?_
          refine J_iload_n cx dL_name_29 rfl 3 rfl ?_
          refine J_iconst cx (v := nI 1) dL_name_30 (by decide) ?_
          refine J_iadd cx dL_name_31 ?_
          refine J_top (v' := .int (nI (i + 1))) (congrArg Value.int (nI_add i 1)) ?_
          refine J_iload cx dL_name_32 0 rfl ?_
          refine J_iadd cx dL_name_34 ?_
          refine J_top (v' := .int (nI ((i + 1) + (mm - 1)))) (congrArg Value.int (nI_add (i + 1) (mm - 1))) ?_
          refine J_iconst cx (v := nI 2) dL_name_35 (by decide) ?_
          refine J_callSi cx kL_101 (As := [.ref (g 10), .int (nI ((i + 1) + (mm - 1))), .int (nI 2)]) (tL_in l D g A ws ((i + 1) + (mm - 1)) 2 (by omega) (by omega) (by omega)) ⟨rfl, rfl, by decide, by decide⟩ ⟨by decide, by decide⟩ rfl rfl (Nat.le_of_ble_eq_true rfl) dL_name_36 ?_
          intro _ _ hr; cases hr
          have hin_4 := inN_lt (g := g) (i := ((i + 1) + (mm - 1))) (n := 2) (by omega)
          refine J_iadd cx dL_name_39 ?_
          refine J_top (v' := .int (nI (((10 * nm) + 1) + (inN g ((i + 1) + (mm - 1)) 2)))) (congrArg Value.int (nI_add ((10 * nm) + 1) (inN g ((i + 1) + (mm - 1)) 2))) ?_
          refine J_istore_n cx (L' := [(3, .int (nI (((10 * nm) + 1) + (inN g ((i + 1) + (mm - 1)) 2)))), (4, .int (nI (mm - 1))), (0, .ref (g 10)), (1, .int (nI i)), (2, .int (nI ab))]) dL_name_40 rfl (by decide) rfl ?_
          refine J_iinc cx (v := ((nI (mm - 1)) + (-1))) (L' := [(4, .int ((nI (mm - 1)) + (-1))), (3, .int (nI (((10 * nm) + 1) + (inN g ((i + 1) + (mm - 1)) 2)))), (0, .ref (g 10)), (1, .int (nI i)), (2, .int (nI ab))]) dL_name_41 1 rfl (congrArg ((nI (mm - 1)) + ·) (show Int32.ofInt (-1) = (-1 : Int32) from by decide)) (by decide) rfl ?_
          refine J_goto cx (tgt := 10) dL_name_44 (by decide) ?_
          refine J_L [0, 1, 2, 3, 4] rfl ?_
          exact ih (mm - 1) _ (by omega) (by omega) (by rw [← hb, show mm = (mm - 1) + 1 from by omega]; exact (if_pos c_3).symm) (by omega)
  refine J_L [0, 1, 2, 3, 4] rfl ?_
  exact LP _ (inN g i 3 + 1) _ (by omega) hab rfl (Nat.lt_succ_self _)
def rmU (d : Nat) : Room := { frames := 1 + d, cells := 0, slots := 0, locals := 60 + d * 25 }
set_option maxHeartbeats 4000000 in
set_option maxRecDepth 100000 in
theorem tL_isUnder (l : Launch) (D : va_G) (g : Nat → ClassId) (A : Nat → Prop) (ws : va_W) : ∀ (d k o : Nat), k < 10 ^ d → k < 2147483648 → o < 2147483648 → CtI l D g A yL_isUnder cL_isUnder 2 .boolean (rmU d) [.int (nI k), .int (nI o)] ws (zb (und d k o)) ws := by
  intro d; induction d with
  | zero => 
    intro k o hk hk2 ho
    refine metJ (by decide) (Nat.le_of_ble_eq_true rfl) ?_
    intro p e s m args below meth c _ _ cx
    refine J_iload_n cx dL_isUnder_0 rfl 0 rfl ?_
    refine J_iload_n cx dL_isUnder_1 rfl 1 rfl ?_
    refine J_icmp_eq cx (tgt := 21) dL_isUnder_2 (by decide) (fun c_1 => ?_) (fun c_1 => ?_)
    · have c_1 := (nat_ic_eq (by omega) (by omega)).mp c_1
      have c_1d := decide_eq_true c_1
      refine J_iconst cx (v := nI 1) dL_isUnder_21 (by decide) ?_
      refine J_goto cx (tgt := 26) dL_isUnder_22 (by decide) ?_
      exact J_zret cx rfl (u := ()) (rfl) (by first | (rw [show und 0 k o = true from by simp [und, *]]; rfl) | (rw [show und 0 k o = false from by simp [und, *]]; rfl)) rfl (Nat.le_of_ble_eq_true rfl) (Nat.le_of_ble_eq_true rfl) dL_isUnder_26
    · have c_1 := (nat_ic_eq_f (by omega) (by omega)).mp c_1
      have c_1d := decide_eq_false c_1
      refine J_iload_n cx dL_isUnder_5 rfl 0 rfl ?_
      refine J_iload_n cx dL_isUnder_6 rfl 1 rfl ?_
      refine J_icmp_le cx (tgt := 25) dL_isUnder_7 (by decide) (fun c_2 => ?_) (fun c_2 => ?_)
      · have c_2 := (nat_ic_le (by omega) (by omega)).mp c_2
        have c_2d := decide_eq_true c_2
        refine J_iconst cx (v := nI 0) dL_isUnder_25 (by decide) ?_
        exact J_zret cx rfl (u := ()) (rfl) (by first | (rw [show und 0 k o = true from by simp [und, *]]; rfl) | (rw [show und 0 k o = false from by simp [und, *]]; rfl)) rfl (Nat.le_of_ble_eq_true rfl) (Nat.le_of_ble_eq_true rfl) dL_isUnder_26
      · have c_2 := (nat_ic_le_f (by omega) (by omega)).mp c_2
        have c_2d := decide_eq_false (Nat.not_le.mpr c_2)
        exfalso; simp at hk; omega
  | succ d ihd => 
    intro k o hk hk2 ho
    refine metJ (by decide) (Nat.le_of_ble_eq_true rfl) ?_
    intro p e s m args below meth c _ _ cx
    refine J_iload_n cx dL_isUnder_0 rfl 0 rfl ?_
    refine J_iload_n cx dL_isUnder_1 rfl 1 rfl ?_
    refine J_icmp_eq cx (tgt := 21) dL_isUnder_2 (by decide) (fun c_1 => ?_) (fun c_1 => ?_)
    · have c_1 := (nat_ic_eq (by omega) (by omega)).mp c_1
      have c_1d := decide_eq_true c_1
      refine J_iconst cx (v := nI 1) dL_isUnder_21 (by decide) ?_
      refine J_goto cx (tgt := 26) dL_isUnder_22 (by decide) ?_
      exact J_zret cx rfl (u := ()) (rfl) (by first | (rw [show und (d + 1) k o = und d (k / 10) o from if_pos (by omega)]; simp [*]; try rfl; done) | (rw [und_le (by omega)]; simp [*]; try rfl; done) | (rw [und_le (by omega), show (k == o) = false from by simp; omega]; rfl)) rfl (Nat.le_of_ble_eq_true rfl) (Nat.le_of_ble_eq_true rfl) dL_isUnder_26
    · have c_1 := (nat_ic_eq_f (by omega) (by omega)).mp c_1
      have c_1d := decide_eq_false c_1
      refine J_iload_n cx dL_isUnder_5 rfl 0 rfl ?_
      refine J_iload_n cx dL_isUnder_6 rfl 1 rfl ?_
      refine J_icmp_le cx (tgt := 25) dL_isUnder_7 (by decide) (fun c_2 => ?_) (fun c_2 => ?_)
      · have c_2 := (nat_ic_le (by omega) (by omega)).mp c_2
        have c_2d := decide_eq_true c_2
        refine J_iconst cx (v := nI 0) dL_isUnder_25 (by decide) ?_
        exact J_zret cx rfl (u := ()) (rfl) (by first | (rw [show und (d + 1) k o = und d (k / 10) o from if_pos (by omega)]; simp [*]; try rfl; done) | (rw [und_le (by omega)]; simp [*]; try rfl; done) | (rw [und_le (by omega), show (k == o) = false from by simp; omega]; rfl)) rfl (Nat.le_of_ble_eq_true rfl) (Nat.le_of_ble_eq_true rfl) dL_isUnder_26
      · have c_2 := (nat_ic_le_f (by omega) (by omega)).mp c_2
        have c_2d := decide_eq_false (Nat.not_le.mpr c_2)
        refine J_iload_n cx dL_isUnder_10 rfl 0 rfl ?_
        refine J_bipush cx (v := nI 10) dL_isUnder_11 (by decide) ?_
        refine J_idiv cx dL_isUnder_13 (by decide) ?_
        refine J_top (v' := .int (nI (k / 10))) (congrArg Value.int (pk_div (by omega) (by decide) (by decide))) ?_
        refine J_iload_n cx dL_isUnder_14 rfl 1 rfl ?_
        refine J_callSi cx kL_105 (As := [.int (nI (k / 10)), .int (nI o)]) (ihd (k / 10) o (by omega) (by omega) (by omega)) ⟨rfl, rfl, by simp only [rmU]; omega, by simp only [rmU]; omega⟩ ⟨by simp only [rmU]; omega, by simp only [rmU]; omega⟩ rfl rfl (Nat.le_of_ble_eq_true rfl) dL_isUnder_15 ?_
        intro _ _ hr; cases hr
        refine J_ifz_eq cx (tgt := 25) dL_isUnder_18 (by decide) (fun c_3 => ?_) (fun c_3 => ?_)
        · refine J_iconst cx (v := nI 0) dL_isUnder_25 (by decide) ?_
          exact J_zret cx rfl (u := ()) (rfl) (by first | (rw [show und (d + 1) k o = und d (k / 10) o from if_pos (by omega)]; simp [*]; try rfl; done) | (rw [und_le (by omega)]; simp [*]; try rfl; done) | (rw [und_le (by omega), show (k == o) = false from by simp; omega]; rfl)) rfl (Nat.le_of_ble_eq_true rfl) (Nat.le_of_ble_eq_true rfl) dL_isUnder_26
        · refine J_iconst cx (v := nI 1) dL_isUnder_21 (by decide) ?_
          refine J_goto cx (tgt := 26) dL_isUnder_22 (by decide) ?_
          exact J_zret cx rfl (u := ()) (rfl) (by first | (rw [show und (d + 1) k o = und d (k / 10) o from if_pos (by omega)]; simp [*]; try rfl; done) | (rw [und_le (by omega)]; simp [*]; try rfl; done) | (rw [und_le (by omega), show (k == o) = false from by simp; omega]; rfl)) rfl (Nat.le_of_ble_eq_true rfl) (Nat.le_of_ble_eq_true rfl) dL_isUnder_26
