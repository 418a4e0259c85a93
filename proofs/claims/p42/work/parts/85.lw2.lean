set_option maxHeartbeats 4000000 in
set_option maxRecDepth 100000 in
theorem tL_isOff (l : Launch) (D : va_G) (g : Nat → ClassId) (A : Nat → Prop) (an : Nat) (N : Nat → Int32) (κ : CS) (wr : va_W) (i : Nat) (on : Int32) (hN : NT N κ) (hi : i < κ.2.2.1 0) (hn : κ.2.2.1 0 ≤ 40) : CtI l D g A yL_isOff cL_isOff 4 .boolean ({ frames := 0, cells := 0, slots := 0, locals := 0 } : Room) [.ref an, .int (nI i), .int on] (iA g an 700 N :: wr) (zb (offB κ i on)) (iA g an 700 N :: wr) := by
  refine metJ (by decide) (Nat.le_of_ble_eq_true rfl) ?_
  intro p e s m args below meth c _ _ cx
  refine J_aload_n cx dL_isOff_0 rfl 0 rfl ?_
  refine J_bipush cx (v := nI 20) dL_isOff_1 (by decide) ?_
  refine J_bipush cx (v := nI 14) dL_isOff_3 (by decide) ?_
  refine J_iload_n cx dL_isOff_5 rfl 1 rfl ?_
  refine J_imul cx dL_isOff_6 ?_
  refine J_top (v' := .int (nI (14 * i))) (congrArg Value.int (pk_mul 14 i)) ?_
  refine J_iadd cx dL_isOff_7 ?_
  refine J_top (v' := .int (nI (20 + (14 * i)))) (congrArg Value.int (nI_add 20 (14 * i))) ?_
  refine J_iald cx (j := (10 + 14 * i + 10)) (f := N) 0 rfl (congrArg nI (by omega)) (by omega) (by decide) dL_isOff_8 ?_
  refine J_top (v' := .int (κ.1 9 i)) (congrArg Value.int (hN.c10 (by omega))) ?_
  refine J_istore_n cx (L' := [(3, .int (κ.1 9 i)), (0, .ref an), (1, .int (nI i)), (2, .int on)]) dL_isOff_9 rfl (by decide) rfl ?_
  refine J_iload_n cx dL_isOff_10 rfl 0 rfl ?_
  refine J_if_lt cx (tgt := 23) dL_isOff_11 (by decide) (fun c_1 => ?_) (fun c_1 => ?_)
  · have c_1d := decide_eq_true c_1
    refine J_iconst cx (v := nI 0) dL_isOff_23 (by decide) ?_
    exact J_zret cx rfl (u := ()) (rfl) (by simp [offB, zb, c_1, c_1d]; try rfl) rfl (Nat.le_of_ble_eq_true rfl) (Nat.le_of_ble_eq_true rfl) dL_isOff_24
  · have c_1d := decide_eq_false c_1
    refine J_iload_n cx dL_isOff_14 rfl 0 rfl ?_
    refine J_iload_n cx dL_isOff_15 rfl 3 rfl ?_
    refine J_icmp_gt cx (tgt := 23) dL_isOff_16 (by decide) (fun c_2 => ?_) (fun c_2 => ?_)
    · have c_2d := decide_eq_true c_2
      refine J_iconst cx (v := nI 0) dL_isOff_23 (by decide) ?_
      exact J_zret cx rfl (u := ()) (rfl) (by simp [offB, zb, c_1, c_1d, c_2, c_2d]; try rfl) rfl (Nat.le_of_ble_eq_true rfl) (Nat.le_of_ble_eq_true rfl) dL_isOff_24
    · have c_2d := decide_eq_false c_2
      refine J_iconst cx (v := nI 1) dL_isOff_19 (by decide) ?_
      refine J_goto cx (tgt := 24) dL_isOff_20 (by decide) ?_
      exact J_zret cx rfl (u := ()) (rfl) (by simp [offB, zb, c_1, c_1d, c_2, c_2d]; try rfl) rfl (Nat.le_of_ble_eq_true rfl) (Nat.le_of_ble_eq_true rfl) dL_isOff_24
set_option maxHeartbeats 4000000 in
set_option maxRecDepth 100000 in
theorem tL_isValid (l : Launch) (D : va_G) (g : Nat → ClassId) (A : Nat → Prop) (an : Nat) (N : Nat → Int32) (κ : CS) (wr : va_W) (i : Nat) (on : Int32) (hN : NT N κ) (hi : i < κ.2.2.1 0) (hn : κ.2.2.1 0 ≤ 40) : CtI l D g A yL_isValid cL_isValid 3 .boolean ({ frames := 0, cells := 0, slots := 0, locals := 0 } : Room) [.ref an, .int (nI i), .int on] (iA g an 700 N :: wr) (zb (validB κ i on)) (iA g an 700 N :: wr) := by
  refine metJ (by decide) (Nat.le_of_ble_eq_true rfl) ?_
  intro p e s m args below meth c _ _ cx
  refine J_aload_n cx dL_isValid_0 rfl 0 rfl ?_
  refine J_bipush cx (v := nI 14) dL_isValid_1 (by decide) ?_
  refine J_bipush cx (v := nI 14) dL_isValid_3 (by decide) ?_
  refine J_iload_n cx dL_isValid_5 rfl 1 rfl ?_
  refine J_imul cx dL_isValid_6 ?_
  refine J_top (v' := .int (nI (14 * i))) (congrArg Value.int (pk_mul 14 i)) ?_
  refine J_iadd cx dL_isValid_7 ?_
  refine J_top (v' := .int (nI (14 + (14 * i)))) (congrArg Value.int (nI_add 14 (14 * i))) ?_
  refine J_iald cx (j := (10 + 14 * i + 4)) (f := N) 0 rfl (congrArg nI (by omega)) (by omega) (by decide) dL_isValid_8 ?_
  refine J_top (v' := .int (κ.1 2 i)) (congrArg Value.int (hN.c4 (by omega))) ?_
  refine J_iload_n cx dL_isValid_9 rfl 2 rfl ?_
  refine J_icmp_gt cx (tgt := 30) dL_isValid_10 (by decide) (fun c_1 => ?_) (fun c_1 => ?_)
  · have c_1d := decide_eq_true c_1
    refine J_iconst cx (v := nI 0) dL_isValid_30 (by decide) ?_
    exact J_zret cx rfl (u := ()) (rfl) (by rw [← vaB_eq]; simp [vaB, zb, c_1, c_1d]; try rfl) rfl (Nat.le_of_ble_eq_true rfl) (Nat.le_of_ble_eq_true rfl) dL_isValid_31
  · have c_1d := decide_eq_false c_1
    refine J_iload_n cx dL_isValid_13 rfl 2 rfl ?_
    refine J_aload_n cx dL_isValid_14 rfl 0 rfl ?_
    refine J_bipush cx (v := nI 15) dL_isValid_15 (by decide) ?_
    refine J_bipush cx (v := nI 14) dL_isValid_17 (by decide) ?_
    refine J_iload_n cx dL_isValid_19 rfl 1 rfl ?_
    refine J_imul cx dL_isValid_20 ?_
    refine J_top (v' := .int (nI (14 * i))) (congrArg Value.int (pk_mul 14 i)) ?_
    refine J_iadd cx dL_isValid_21 ?_
    refine J_top (v' := .int (nI (15 + (14 * i)))) (congrArg Value.int (nI_add 15 (14 * i))) ?_
    refine J_iald cx (j := (10 + 14 * i + 5)) (f := N) 0 rfl (congrArg nI (by omega)) (by omega) (by decide) dL_isValid_22 ?_
    refine J_top (v' := .int (κ.1 3 i)) (congrArg Value.int (hN.c5 (by omega))) ?_
    refine J_icmp_gt cx (tgt := 30) dL_isValid_23 (by decide) (fun c_2 => ?_) (fun c_2 => ?_)
    · have c_2d := decide_eq_true c_2
      refine J_iconst cx (v := nI 0) dL_isValid_30 (by decide) ?_
      exact J_zret cx rfl (u := ()) (rfl) (by rw [← vaB_eq]; simp [vaB, zb, c_1, c_1d, c_2, c_2d]; try rfl) rfl (Nat.le_of_ble_eq_true rfl) (Nat.le_of_ble_eq_true rfl) dL_isValid_31
    · have c_2d := decide_eq_false c_2
      refine J_iconst cx (v := nI 1) dL_isValid_26 (by decide) ?_
      refine J_goto cx (tgt := 31) dL_isValid_27 (by decide) ?_
      exact J_zret cx rfl (u := ()) (rfl) (by rw [← vaB_eq]; simp [vaB, zb, c_1, c_1d, c_2, c_2d]; try rfl) rfl (Nat.le_of_ble_eq_true rfl) (Nat.le_of_ble_eq_true rfl) dL_isValid_31
set_option maxHeartbeats 4000000 in
set_option maxRecDepth 100000 in
theorem tL_isNext (l : Launch) (D : va_G) (g : Nat → ClassId) (A : Nat → Prop) (an : Nat) (N : Nat → Int32) (κ : CS) (wr : va_W) (i k : Nat) (hN : NT N κ) (hi : i < κ.2.2.1 0) (hk : k < κ.2.2.1 0) (hn : κ.2.2.1 0 ≤ 40) : CtI l D g A yL_isNext cL_isNext 3 .boolean ({ frames := 0, cells := 0, slots := 0, locals := 0 } : Room) [.ref an, .int (nI i), .int (nI k)] (iA g an 700 N :: wr) (zb (candB κ i k)) (iA g an 700 N :: wr) := by
  refine metJ (by decide) (Nat.le_of_ble_eq_true rfl) ?_
  intro p e s m args below meth c _ _ cx
  refine J_iload_n cx dL_isNext_0 rfl 1 rfl ?_
  refine J_iload_n cx dL_isNext_1 rfl 2 rfl ?_
  refine J_icmp_eq cx (tgt := 51) dL_isNext_2 (by decide) (fun c_1 => ?_) (fun c_1 => ?_)
  · have c_1 := (nat_ic_eq (by omega) (by omega)).mp c_1
    have c_1d := decide_eq_true c_1
    refine J_iconst cx (v := nI 0) dL_isNext_51 (by decide) ?_
    exact J_zret cx rfl (u := ()) (rfl) (by have e9 : (k = i) = (i = k) := propext eq_comm; simp [candB, zb, e9, c_1d]; try rfl) rfl (Nat.le_of_ble_eq_true rfl) (Nat.le_of_ble_eq_true rfl) dL_isNext_52
  · have c_1 := (nat_ic_eq_f (by omega) (by omega)).mp c_1
    have c_1d := decide_eq_false c_1
    refine J_aload_n cx dL_isNext_5 rfl 0 rfl ?_
    refine J_bipush cx (v := nI 10) dL_isNext_6 (by decide) ?_
    refine J_bipush cx (v := nI 14) dL_isNext_8 (by decide) ?_
    refine J_iload_n cx dL_isNext_10 rfl 2 rfl ?_
    refine J_imul cx dL_isNext_11 ?_
    refine J_top (v' := .int (nI (14 * k))) (congrArg Value.int (pk_mul 14 k)) ?_
    refine J_iadd cx dL_isNext_12 ?_
    refine J_top (v' := .int (nI (10 + (14 * k)))) (congrArg Value.int (nI_add 10 (14 * k))) ?_
    refine J_iald cx (j := (10 + 14 * k)) (f := N) 0 rfl (congrArg nI (by omega)) (by omega) (by decide) dL_isNext_13 ?_
    refine J_top (v' := .int (κ.1 0 k)) (congrArg Value.int (hN.c0 (by omega))) ?_
    refine J_aload_n cx dL_isNext_14 rfl 0 rfl ?_
    refine J_bipush cx (v := nI 12) dL_isNext_15 (by decide) ?_
    refine J_bipush cx (v := nI 14) dL_isNext_17 (by decide) ?_
    refine J_iload_n cx dL_isNext_19 rfl 1 rfl ?_
    refine J_imul cx dL_isNext_20 ?_
    refine J_top (v' := .int (nI (14 * i))) (congrArg Value.int (pk_mul 14 i)) ?_
    refine J_iadd cx dL_isNext_21 ?_
    refine J_top (v' := .int (nI (12 + (14 * i)))) (congrArg Value.int (nI_add 12 (14 * i))) ?_
    refine J_iald cx (j := (10 + 14 * i + 2)) (f := N) 0 rfl (congrArg nI (by omega)) (by omega) (by decide) dL_isNext_22 ?_
    refine J_top (v' := .int (κ.1 4 i)) (congrArg Value.int (hN.c2 (by omega))) ?_
    refine J_icmp_ne cx (tgt := 51) dL_isNext_23 (by decide) (fun c_2 => ?_) (fun c_2 => ?_)
    · have c_2d := decide_eq_false c_2
      refine J_iconst cx (v := nI 0) dL_isNext_51 (by decide) ?_
      exact J_zret cx rfl (u := ()) (rfl) (by have e9 : (k = i) = (i = k) := propext eq_comm; simp [candB, zb, e9, c_1, c_1d, c_2, c_2d]; try rfl) rfl (Nat.le_of_ble_eq_true rfl) (Nat.le_of_ble_eq_true rfl) dL_isNext_52
    · have c_2d := decide_eq_true c_2
      refine J_aload_n cx dL_isNext_26 rfl 0 rfl ?_
      refine J_bipush cx (v := nI 11) dL_isNext_27 (by decide) ?_
      refine J_bipush cx (v := nI 14) dL_isNext_29 (by decide) ?_
      refine J_iload_n cx dL_isNext_31 rfl 2 rfl ?_
      refine J_imul cx dL_isNext_32 ?_
      refine J_top (v' := .int (nI (14 * k))) (congrArg Value.int (pk_mul 14 k)) ?_
      refine J_iadd cx dL_isNext_33 ?_
      refine J_top (v' := .int (nI (11 + (14 * k)))) (congrArg Value.int (nI_add 11 (14 * k))) ?_
      refine J_iald cx (j := (10 + 14 * k + 1)) (f := N) 0 rfl (congrArg nI (by omega)) (by omega) (by decide) dL_isNext_34 ?_
      refine J_top (v' := .int (κ.1 1 k)) (congrArg Value.int (hN.c1 (by omega))) ?_
      refine J_aload_n cx dL_isNext_35 rfl 0 rfl ?_
      refine J_bipush cx (v := nI 13) dL_isNext_36 (by decide) ?_
      refine J_bipush cx (v := nI 14) dL_isNext_38 (by decide) ?_
      refine J_iload_n cx dL_isNext_40 rfl 1 rfl ?_
      refine J_imul cx dL_isNext_41 ?_
      refine J_top (v' := .int (nI (14 * i))) (congrArg Value.int (pk_mul 14 i)) ?_
      refine J_iadd cx dL_isNext_42 ?_
      refine J_top (v' := .int (nI (13 + (14 * i)))) (congrArg Value.int (nI_add 13 (14 * i))) ?_
      refine J_iald cx (j := (10 + 14 * i + 3)) (f := N) 0 rfl (congrArg nI (by omega)) (by omega) (by decide) dL_isNext_43 ?_
      refine J_top (v' := .int (κ.1 5 i)) (congrArg Value.int (hN.c3 (by omega))) ?_
      refine J_icmp_ne cx (tgt := 51) dL_isNext_44 (by decide) (fun c_3 => ?_) (fun c_3 => ?_)
      · have c_3d := decide_eq_false c_3
        refine J_iconst cx (v := nI 0) dL_isNext_51 (by decide) ?_
        exact J_zret cx rfl (u := ()) (rfl) (by have e9 : (k = i) = (i = k) := propext eq_comm; simp [candB, zb, e9, c_1, c_1d, c_2d, c_3, c_3d]; try rfl) rfl (Nat.le_of_ble_eq_true rfl) (Nat.le_of_ble_eq_true rfl) dL_isNext_52
      · have c_3d := decide_eq_true c_3
        refine J_iconst cx (v := nI 1) dL_isNext_47 (by decide) ?_
        refine J_goto cx (tgt := 52) dL_isNext_48 (by decide) ?_
        exact J_zret cx rfl (u := ()) (rfl) (by have e9 : (k = i) = (i = k) := propext eq_comm; simp [candB, zb, e9, c_1, c_1d, c_2d, c_3d]; try rfl) rfl (Nat.le_of_ble_eq_true rfl) (Nat.le_of_ble_eq_true rfl) dL_isNext_52
set_option maxHeartbeats 4000000 in
set_option maxRecDepth 100000 in
theorem tL_many (l : Launch) (D : va_G) (g : Nat → ClassId) (A : Nat → Prop) (an : Nat) (N : Nat → Int32) (κ : CS) (wr : va_W) (col : Nat) (v : Int32) (hN : NT N κ) (hcol : col < 14) (hn : κ.2.2.1 0 ≤ 40) : CtI l D g A yL_many cL_many 5 .int ({ frames := 0, cells := 0, slots := 0, locals := 0 } : Room) [.ref an, .int (nI col), .int v] (iA g an 700 N :: wr) (nI (cnt (mnB N col v) (κ.2.2.1 0))) (iA g an 700 N :: wr) := by
  refine metJ (by decide) (Nat.le_of_ble_eq_true rfl) ?_
  intro p e s m args below meth c _ _ cx
  refine J_iconst cx (v := nI 0) dL_many_0 (by decide) ?_
  refine J_istore_n cx (L' := [(3, .int (nI 0)), (0, .ref an), (1, .int (nI col)), (2, .int v)]) dL_many_1 rfl (by decide) rfl ?_
  refine J_iconst cx (v := nI 0) dL_many_2 (by decide) ?_
  refine J_istore cx (L' := [(4, .int (nI 0)), (3, .int (nI 0)), (0, .ref an), (1, .int (nI col)), (2, .int v)]) dL_many_3 (by decide) rfl ?_
  have LP : ∀ (fu : Nat) (k : Nat), (k ≤ κ.2.2.1 0) → κ.2.2.1 0 - k < fu → J p l e ({ frames := 0, cells := 0, slots := 0, locals := 0 } : Room) s m args below meth c D A 5 (MQ below (va_Qi (fun (r : Int32) (_ : Unit) => r = (nI (cnt (mnB N col v) (κ.2.2.1 0)))) (fun _ => PO D A (iA g an 700 N :: wr)) A) args s 0 0 A) 0 0 (iA g an 700 N :: wr) [(3, .int (nI (cnt (mnB N col v) k))), (4, .int (nI k)), (0, .ref an), (1, .int (nI col)), (2, .int v)] 5 [] := by
    intro fu; induction fu with
    | zero => intro k hk hfu; exact absurd hfu (Nat.not_lt_zero _)
    | succ fu ih =>
      intro k hk hfu
      refine J_iload cx dL_many_5 1 rfl ?_
      refine J_aload_n cx dL_many_7 rfl 2 rfl ?_
      refine J_iconst cx (v := nI 0) dL_many_8 (by decide) ?_
      refine J_iald cx (j := 0) (f := N) 0 rfl rfl (by omega) (by decide) dL_many_9 ?_
      refine J_top (v' := .int (nI (κ.2.2.1 0))) (congrArg Value.int hN.n0) ?_
      refine J_icmp_ge cx (tgt := 43) dL_many_10 (by decide) (fun c_1 => ?_) (fun c_1 => ?_)
      · have c_1 := (nat_ic_ge (by omega) (by omega)).mp c_1
        have c_1d := decide_eq_true c_1
        refine J_iload_n cx dL_many_43 rfl 0 rfl ?_
        exact J_iret cx rfl (u := ()) (by rw [show k = κ.2.2.1 0 from by omega]) rfl (Nat.le_of_ble_eq_true rfl) (Nat.le_of_ble_eq_true rfl) dL_many_44
      · have c_1 := (nat_ic_ge_f (by omega) (by omega)).mp c_1
        have c_1d := decide_eq_false (Nat.not_le.mpr c_1)
        refine J_iload_n cx dL_many_13 rfl 0 rfl ?_
        refine J_aload_n cx dL_many_14 rfl 2 rfl ?_
        refine J_bipush cx (v := nI 10) dL_many_15 (by decide) ?_
        refine J_bipush cx (v := nI 14) dL_many_17 (by decide) ?_
        refine J_iload cx dL_many_19 1 rfl ?_
        refine J_imul cx dL_many_21 ?_
        refine J_top (v' := .int (nI (14 * k))) (congrArg Value.int (pk_mul 14 k)) ?_
        refine J_iadd cx dL_many_22 ?_
        refine J_top (v' := .int (nI (10 + (14 * k)))) (congrArg Value.int (nI_add 10 (14 * k))) ?_
        refine J_iload_n cx dL_many_23 rfl 3 rfl ?_
        refine J_iadd cx dL_many_24 ?_
        refine J_top (v' := .int (nI ((10 + (14 * k)) + col))) (congrArg Value.int (nI_add (10 + (14 * k)) col)) ?_
        refine J_iald cx (j := (10 + 14 * k + col)) (f := N) 0 rfl (congrArg nI (by omega)) (by omega) (by decide) dL_many_25 ?_
        refine J_iload_n cx dL_many_26 rfl 4 rfl ?_
        refine J_icmp_ne cx (tgt := 34) dL_many_27 (by decide) (fun c_2 => ?_) (fun c_2 => ?_)
        · have c_2d := decide_eq_false c_2
          refine J_iconst cx (v := nI 0) dL_many_34 (by decide) ?_
          refine J_iadd cx dL_many_35 ?_
          refine J_top (v' := .int (nI ((cnt (mnB N col v) k) + 0))) (congrArg Value.int (nI_add (cnt (mnB N col v) k) 0)) ?_
          refine J_top (v' := .int (nI (cnt (mnB N col v) (k + 1)))) (congrArg (fun z => Value.int (nI z)) (cnt_f (by simp [mnB, hk, c_1, c_1d, c_2, c_2d]))) ?_
          refine J_istore_n cx (L' := [(3, .int (nI (cnt (mnB N col v) (k + 1)))), (4, .int (nI k)), (0, .ref an), (1, .int (nI col)), (2, .int v)]) dL_many_36 rfl (by decide) rfl ?_
          refine J_iinc cx (v := (nI (k + 1))) (L' := [(4, .int (nI (k + 1))), (3, .int (nI (cnt (mnB N col v) (k + 1)))), (0, .ref an), (1, .int (nI col)), (2, .int v)]) dL_many_37 1 rfl (by exact nI_add k 1) (by decide) rfl ?_
          refine J_goto cx (tgt := 5) dL_many_40 (by decide) ?_
          refine J_L [1, 0, 2, 3, 4] rfl ?_
          exact ih (k + 1) (by omega) (by omega)
        · have c_2d := decide_eq_true c_2
          refine J_iconst cx (v := nI 1) dL_many_30 (by decide) ?_
          refine J_goto cx (tgt := 35) dL_many_31 (by decide) ?_
          refine J_iadd cx dL_many_35 ?_
          refine J_top (v' := .int (nI ((cnt (mnB N col v) k) + 1))) (congrArg Value.int (nI_add (cnt (mnB N col v) k) 1)) ?_
          refine J_top (v' := .int (nI (cnt (mnB N col v) (k + 1)))) (congrArg (fun z => Value.int (nI z)) (cnt_t (by simp [mnB, hk, c_1, c_1d, c_2d]))) ?_
          refine J_istore_n cx (L' := [(3, .int (nI (cnt (mnB N col v) (k + 1)))), (4, .int (nI k)), (0, .ref an), (1, .int (nI col)), (2, .int v)]) dL_many_36 rfl (by decide) rfl ?_
          refine J_iinc cx (v := (nI (k + 1))) (L' := [(4, .int (nI (k + 1))), (3, .int (nI (cnt (mnB N col v) (k + 1)))), (0, .ref an), (1, .int (nI col)), (2, .int v)]) dL_many_37 1 rfl (by exact nI_add k 1) (by decide) rfl ?_
          refine J_goto cx (tgt := 5) dL_many_40 (by decide) ?_
          refine J_L [1, 0, 2, 3, 4] rfl ?_
          exact ih (k + 1) (by omega) (by omega)
  refine J_L [1, 0, 2, 3, 4] rfl ?_
  exact LP _ 0 (by omega) (Nat.lt_succ_self _)
set_option maxHeartbeats 4000000 in
set_option maxRecDepth 100000 in
theorem tL_hasIssued (l : Launch) (D : va_G) (g : Nat → ClassId) (A : Nat → Prop) (an : Nat) (N : Nat → Int32) (κ : CS) (wr : va_W) (ky : Int32) (hN : NT N κ) (hn : κ.2.2.1 0 ≤ 40) : CtI l D g A yL_hasIssued cL_hasIssued 4 .boolean ({ frames := 1, cells := 0, slots := 0, locals := 24 } : Room) [.ref an, .int ky] (iA g an 700 N :: wr) (zb (anyN (issB κ ky) (κ.2.2.1 0))) (iA g an 700 N :: wr) := by
  have hkb := cnt_le (kyB κ ky) (κ.2.2.1 0)
  refine metJ (by decide) (Nat.le_of_ble_eq_true rfl) ?_
  intro p e s m args below meth c _ _ cx
  refine J_aload_n cx dL_hasIssued_0 rfl 0 rfl ?_
  refine J_iconst cx (v := nI 3) dL_hasIssued_1 (by decide) ?_
  refine J_iload_n cx dL_hasIssued_2 rfl 1 rfl ?_
  refine J_callSi cx kL_113 (As := [.ref an, .int (nI 3), .int ky]) (tL_many l D g A an N κ wr 3 ky hN (by decide) hn) ⟨rfl, rfl, by decide, by decide⟩ ⟨by decide, by decide⟩ rfl rfl (Nat.le_of_ble_eq_true rfl) dL_hasIssued_3 ?_
  intro _ _ hr; cases hr
  refine J_top (v' := .int (nI (cnt (kyB κ ky) (κ.2.2.1 0)))) (congrArg (fun z => Value.int (nI z)) (cnt_congr (fun c hc => by unfold mnB kyB; rw [hN.c3 hc]))) ?_
  refine J_istore_n cx (L' := [(2, .int (nI (cnt (kyB κ ky) (κ.2.2.1 0)))), (0, .ref an), (1, .int ky)]) dL_hasIssued_6 rfl (by decide) rfl ?_
  refine J_iconst cx (v := nI 0) dL_hasIssued_7 (by decide) ?_
  refine J_istore_n cx (L' := [(3, .int (nI 0)), (2, .int (nI (cnt (kyB κ ky) (κ.2.2.1 0)))), (0, .ref an), (1, .int ky)]) dL_hasIssued_8 rfl (by decide) rfl ?_
  have LP : ∀ (fu : Nat) (k : Nat), (k ≤ κ.2.2.1 0) → κ.2.2.1 0 - k < fu → J p l e ({ frames := 1, cells := 0, slots := 0, locals := 24 } : Room) s m args below meth c D A 4 (MQ below (va_Qi (fun (r : Int32) (_ : Unit) => r = (zb (anyN (issB κ ky) (κ.2.2.1 0)))) (fun _ => PO D A (iA g an 700 N :: wr)) A) args s 0 0 A) 0 0 (iA g an 700 N :: wr) [(3, .int (nI k)), (2, .int (nI (cnt (kyB κ ky) (κ.2.2.1 0) - cnt (kyR κ ky) k))), (0, .ref an), (1, .int ky)] 9 [] := by
    intro fu; induction fu with
    | zero => intro k hk hfu; exact absurd hfu (Nat.not_lt_zero _)
    | succ fu ih =>
      intro k hk hfu
      refine J_iload_n cx dL_hasIssued_9 rfl 0 rfl ?_
      refine J_aload_n cx dL_hasIssued_10 rfl 2 rfl ?_
      refine J_iconst cx (v := nI 0) dL_hasIssued_11 (by decide) ?_
      refine J_iald cx (j := 0) (f := N) 0 rfl rfl (by omega) (by decide) dL_hasIssued_12 ?_
      refine J_top (v' := .int (nI (κ.2.2.1 0))) (congrArg Value.int hN.n0) ?_
      refine J_icmp_ge cx (tgt := 58) dL_hasIssued_13 (by decide) (fun c_1 => ?_) (fun c_1 => ?_)
      · have c_1 := (nat_ic_ge (by omega) (by omega)).mp c_1
        have c_1d := decide_eq_true c_1
        refine J_iload_n cx dL_hasIssued_58 rfl 1 rfl ?_
        refine J_if_le cx (tgt := 66) dL_hasIssued_59 (by decide) (fun c_2 => ?_) (fun c_2 => ?_)
        · have c_2 := (nat_if_le (by omega)).mp c_2
          refine J_iconst cx (v := nI 0) dL_hasIssued_66 (by decide) ?_
          exact J_zret cx rfl (u := ()) (rfl) (by have e9 := c_2; rw [show k = κ.2.2.1 0 from by omega] at e9; rw [iss_cnt, decide_eq_false (by omega)]; rfl) rfl (Nat.le_of_ble_eq_true rfl) (Nat.le_of_ble_eq_true rfl) dL_hasIssued_67
        · have c_2 := (nat_if_le_f (by omega)).mp c_2
          refine J_iconst cx (v := nI 1) dL_hasIssued_62 (by decide) ?_
          refine J_goto cx (tgt := 67) dL_hasIssued_63 (by decide) ?_
          exact J_zret cx rfl (u := ()) (rfl) (by have e9 := c_2; rw [show k = κ.2.2.1 0 from by omega] at e9; rw [iss_cnt, decide_eq_true (by omega)]; rfl) rfl (Nat.le_of_ble_eq_true rfl) (Nat.le_of_ble_eq_true rfl) dL_hasIssued_67
      · have c_1 := (nat_ic_ge_f (by omega) (by omega)).mp c_1
        have c_1d := decide_eq_false (Nat.not_le.mpr c_1)
        have hk1 := kyR_le κ ky (show k + 1 ≤ κ.2.2.1 0 by omega); have hk2 : cnt (kyR κ ky) (k + 1) = cnt (kyR κ ky) k + (if kyR κ ky k then 1 else 0) := rfl
        refine J_iload_n cx dL_hasIssued_16 rfl 1 rfl ?_
        refine J_aload_n cx dL_hasIssued_17 rfl 2 rfl ?_
        refine J_bipush cx (v := nI 10) dL_hasIssued_18 (by decide) ?_
        refine J_bipush cx (v := nI 14) dL_hasIssued_20 (by decide) ?_
        refine J_iload_n cx dL_hasIssued_22 rfl 0 rfl ?_
        refine J_imul cx dL_hasIssued_23 ?_
        refine J_top (v' := .int (nI (14 * k))) (congrArg Value.int (pk_mul 14 k)) ?_
        refine J_iadd cx dL_hasIssued_24 ?_
        refine J_top (v' := .int (nI (10 + (14 * k)))) (congrArg Value.int (nI_add 10 (14 * k))) ?_
        refine J_iconst cx (v := nI 3) dL_hasIssued_25 (by decide) ?_
        refine J_iadd cx dL_hasIssued_26 ?_
        refine J_top (v' := .int (nI ((10 + (14 * k)) + 3))) (congrArg Value.int (nI_add (10 + (14 * k)) 3)) ?_
        refine J_iald cx (j := (10 + 14 * k + 3)) (f := N) 0 rfl (congrArg nI (by omega)) (by omega) (by decide) dL_hasIssued_27 ?_
        refine J_top (v' := .int (κ.1 5 k)) (congrArg Value.int (hN.c3 (by omega))) ?_
        refine J_iload_n cx dL_hasIssued_28 rfl 3 rfl ?_
        refine J_icmp_ne cx (tgt := 49) dL_hasIssued_29 (by decide) (fun c_3 => ?_) (fun c_3 => ?_)
        · have c_3d := decide_eq_false c_3
          refine J_iconst cx (v := nI 0) dL_hasIssued_49 (by decide) ?_
          refine J_isub cx dL_hasIssued_50 ?_
          refine J_top (v' := .int (nI ((cnt (kyB κ ky) (κ.2.2.1 0) - cnt (kyR κ ky) k) - 0))) (congrArg Value.int (pk_sub (by omega))) ?_
          refine J_top (v' := .int (nI (cnt (kyB κ ky) (κ.2.2.1 0) - cnt (kyR κ ky) (k + 1)))) (congrArg (fun z => Value.int (nI z)) (by rw [← cnt_f (show kyR κ ky k = false from by simp [kyR, kyB, hk, c_1, c_1d, c_3, c_3d])]; omega)) ?_
          refine J_istore_n cx (L' := [(2, .int (nI (cnt (kyB κ ky) (κ.2.2.1 0) - cnt (kyR κ ky) (k + 1)))), (3, .int (nI k)), (0, .ref an), (1, .int ky)]) dL_hasIssued_51 rfl (by decide) rfl ?_
          refine J_iinc cx (v := (nI (k + 1))) (L' := [(3, .int (nI (k + 1))), (2, .int (nI (cnt (kyB κ ky) (κ.2.2.1 0) - cnt (kyR κ ky) (k + 1)))), (0, .ref an), (1, .int ky)]) dL_hasIssued_52 1 rfl (by exact nI_add k 1) (by decide) rfl ?_
          refine J_goto cx (tgt := 9) dL_hasIssued_55 (by decide) ?_
          refine J_L [0, 1, 2, 3] rfl ?_
          exact ih (k + 1) (by omega) (by omega)
        · have c_3d := decide_eq_true c_3
          refine J_aload_n cx dL_hasIssued_32 rfl 2 rfl ?_
          refine J_bipush cx (v := nI 23) dL_hasIssued_33 (by decide) ?_
          refine J_bipush cx (v := nI 14) dL_hasIssued_35 (by decide) ?_
          refine J_iload_n cx dL_hasIssued_37 rfl 0 rfl ?_
          refine J_imul cx dL_hasIssued_38 ?_
          refine J_top (v' := .int (nI (14 * k))) (congrArg Value.int (pk_mul 14 k)) ?_
          refine J_iadd cx dL_hasIssued_39 ?_
          refine J_top (v' := .int (nI (23 + (14 * k)))) (congrArg Value.int (nI_add 23 (14 * k))) ?_
          refine J_iald cx (j := (10 + 14 * k + 13)) (f := N) 0 rfl (congrArg nI (by omega)) (by omega) (by decide) dL_hasIssued_40 ?_
          refine J_top (v' := .int (zb (κ.2.1 1 k))) (congrArg Value.int (hN.c13 (by omega))) ?_
          refine J_iconst cx (v := nI 1) dL_hasIssued_41 (by decide) ?_
          refine J_icmp_ne cx (tgt := 49) dL_hasIssued_42 (by decide) (fun c_4 => ?_) (fun c_4 => ?_)
          · have c_4 := (zb1n _).mp c_4
            refine J_iconst cx (v := nI 0) dL_hasIssued_49 (by decide) ?_
            refine J_isub cx dL_hasIssued_50 ?_
            refine J_top (v' := .int (nI ((cnt (kyB κ ky) (κ.2.2.1 0) - cnt (kyR κ ky) k) - 0))) (congrArg Value.int (pk_sub (by omega))) ?_
            refine J_top (v' := .int (nI (cnt (kyB κ ky) (κ.2.2.1 0) - cnt (kyR κ ky) (k + 1)))) (congrArg (fun z => Value.int (nI z)) (by rw [← cnt_f (show kyR κ ky k = false from by simp [kyR, kyB, hk, c_1, c_1d, c_3d, c_4])]; omega)) ?_
            refine J_istore_n cx (L' := [(2, .int (nI (cnt (kyB κ ky) (κ.2.2.1 0) - cnt (kyR κ ky) (k + 1)))), (3, .int (nI k)), (0, .ref an), (1, .int ky)]) dL_hasIssued_51 rfl (by decide) rfl ?_
            refine J_iinc cx (v := (nI (k + 1))) (L' := [(3, .int (nI (k + 1))), (2, .int (nI (cnt (kyB κ ky) (κ.2.2.1 0) - cnt (kyR κ ky) (k + 1)))), (0, .ref an), (1, .int ky)]) dL_hasIssued_52 1 rfl (by exact nI_add k 1) (by decide) rfl ?_
            refine J_goto cx (tgt := 9) dL_hasIssued_55 (by decide) ?_
            refine J_L [0, 1, 2, 3] rfl ?_
            exact ih (k + 1) (by omega) (by omega)
          · have c_4 := (zb1 _).mp c_4
            have h9 : kyR κ ky k = true := by simp [kyR, kyB, hk, c_1, c_1d, c_3d, c_4]
            rw [if_pos h9] at hk2
            refine J_iconst cx (v := nI 1) dL_hasIssued_45 (by decide) ?_
            refine J_goto cx (tgt := 50) dL_hasIssued_46 (by decide) ?_
            refine J_isub cx dL_hasIssued_50 ?_
            refine J_top (v' := .int (nI ((cnt (kyB κ ky) (κ.2.2.1 0) - cnt (kyR κ ky) k) - 1))) (congrArg Value.int (pk_sub (by omega))) ?_
            refine J_top (v' := .int (nI (cnt (kyB κ ky) (κ.2.2.1 0) - cnt (kyR κ ky) (k + 1)))) (congrArg (fun z => Value.int (nI z)) (by rw [← cnt_t (show kyR κ ky k = true from by simp [kyR, kyB, hk, c_1, c_1d, c_3d, c_4])]; omega)) ?_
            refine J_istore_n cx (L' := [(2, .int (nI (cnt (kyB κ ky) (κ.2.2.1 0) - cnt (kyR κ ky) (k + 1)))), (3, .int (nI k)), (0, .ref an), (1, .int ky)]) dL_hasIssued_51 rfl (by decide) rfl ?_
            refine J_iinc cx (v := (nI (k + 1))) (L' := [(3, .int (nI (k + 1))), (2, .int (nI (cnt (kyB κ ky) (κ.2.2.1 0) - cnt (kyR κ ky) (k + 1)))), (0, .ref an), (1, .int ky)]) dL_hasIssued_52 1 rfl (by exact nI_add k 1) (by decide) rfl ?_
            refine J_goto cx (tgt := 9) dL_hasIssued_55 (by decide) ?_
            refine J_L [0, 1, 2, 3] rfl ?_
            exact ih (k + 1) (by omega) (by omega)
  refine J_L [0, 1, 2, 3] rfl ?_
  exact LP _ 0 (by omega) (Nat.lt_succ_self _)
set_option maxHeartbeats 4000000 in
set_option maxRecDepth 100000 in
theorem tL_pending (l : Launch) (D : va_G) (g : Nat → ClassId) (A : Nat → Prop) (an : Nat) (N : Nat → Int32) (κ : CS) (wr : va_W) (ky : Int32) (hN : NT N κ) (hn : κ.2.2.1 0 ≤ 40) : CtI l D g A yL_pending cL_pending 5 .int ({ frames := 0, cells := 0, slots := 0, locals := 0 } : Room) [.ref an, .int ky] (iA g an 700 N :: wr) (nI (cnt (pendB κ ky) (κ.2.2.1 0))) (iA g an 700 N :: wr) := by
  refine metJ (by decide) (Nat.le_of_ble_eq_true rfl) ?_
  intro p e s m args below meth c _ _ cx
  refine J_iconst cx (v := nI 0) dL_pending_0 (by decide) ?_
  refine J_istore_n cx (L' := [(2, .int (nI 0)), (0, .ref an), (1, .int ky)]) dL_pending_1 rfl (by decide) rfl ?_
  refine J_iconst cx (v := nI 0) dL_pending_2 (by decide) ?_
  refine J_istore_n cx (L' := [(3, .int (nI 0)), (2, .int (nI 0)), (0, .ref an), (1, .int ky)]) dL_pending_3 rfl (by decide) rfl ?_
  have LP : ∀ (fu : Nat) (k : Nat), (k ≤ κ.2.2.1 0) → κ.2.2.1 0 - k < fu → J p l e ({ frames := 0, cells := 0, slots := 0, locals := 0 } : Room) s m args below meth c D A 5 (MQ below (va_Qi (fun (r : Int32) (_ : Unit) => r = (nI (cnt (pendB κ ky) (κ.2.2.1 0)))) (fun _ => PO D A (iA g an 700 N :: wr)) A) args s 0 0 A) 0 0 (iA g an 700 N :: wr) [(2, .int (nI (cnt (pendB κ ky) k))), (3, .int (nI k)), (0, .ref an), (1, .int ky)] 4 [] := by
    intro fu; induction fu with
    | zero => intro k hk hfu; exact absurd hfu (Nat.not_lt_zero _)
    | succ fu ih =>
      intro k hk hfu
      refine J_iload_n cx dL_pending_4 rfl 1 rfl ?_
      refine J_aload_n cx dL_pending_5 rfl 2 rfl ?_
      refine J_iconst cx (v := nI 0) dL_pending_6 (by decide) ?_
      refine J_iald cx (j := 0) (f := N) 0 rfl rfl (by omega) (by decide) dL_pending_7 ?_
      refine J_top (v' := .int (nI (κ.2.2.1 0))) (congrArg Value.int hN.n0) ?_
      refine J_icmp_ge cx (tgt := 65) dL_pending_8 (by decide) (fun c_1 => ?_) (fun c_1 => ?_)
      · have c_1 := (nat_ic_ge (by omega) (by omega)).mp c_1
        have c_1d := decide_eq_true c_1
        refine J_iload_n cx dL_pending_65 rfl 0 rfl ?_
        exact J_iret cx rfl (u := ()) (by rw [show k = κ.2.2.1 0 from by omega]) rfl (Nat.le_of_ble_eq_true rfl) (Nat.le_of_ble_eq_true rfl) dL_pending_66
      · have c_1 := (nat_ic_ge_f (by omega) (by omega)).mp c_1
        have c_1d := decide_eq_false (Nat.not_le.mpr c_1)
        refine J_bipush cx (v := nI 10) dL_pending_11 (by decide) ?_
        refine J_bipush cx (v := nI 14) dL_pending_13 (by decide) ?_
        refine J_iload_n cx dL_pending_15 rfl 1 rfl ?_
        refine J_imul cx dL_pending_16 ?_
        refine J_top (v' := .int (nI (14 * k))) (congrArg Value.int (pk_mul 14 k)) ?_
        refine J_iadd cx dL_pending_17 ?_
        refine J_top (v' := .int (nI (10 + (14 * k)))) (congrArg Value.int (nI_add 10 (14 * k))) ?_
        refine J_istore cx (L' := [(4, .int (nI (10 + (14 * k)))), (2, .int (nI (cnt (pendB κ ky) k))), (3, .int (nI k)), (0, .ref an), (1, .int ky)]) dL_pending_18 (by decide) rfl ?_
        refine J_iload_n cx dL_pending_20 rfl 1 rfl ?_
        refine J_aload_n cx dL_pending_21 rfl 3 rfl ?_
        refine J_iload cx dL_pending_22 0 rfl ?_
        refine J_iconst cx (v := nI 3) dL_pending_24 (by decide) ?_
        refine J_iadd cx dL_pending_25 ?_
        refine J_top (v' := .int (nI ((10 + (14 * k)) + 3))) (congrArg Value.int (nI_add (10 + (14 * k)) 3)) ?_
        refine J_iald cx (j := (10 + 14 * k + 3)) (f := N) 0 rfl (congrArg nI (by omega)) (by omega) (by decide) dL_pending_26 ?_
        refine J_top (v' := .int (κ.1 5 k)) (congrArg Value.int (hN.c3 (by omega))) ?_
        refine J_iload_n cx dL_pending_27 rfl 4 rfl ?_
        refine J_icmp_ne cx (tgt := 56) dL_pending_28 (by decide) (fun c_2 => ?_) (fun c_2 => ?_)
        · have c_2d := decide_eq_false c_2
          refine J_iconst cx (v := nI 0) dL_pending_56 (by decide) ?_
          refine J_iadd cx dL_pending_57 ?_
          refine J_top (v' := .int (nI ((cnt (pendB κ ky) k) + 0))) (congrArg Value.int (nI_add (cnt (pendB κ ky) k) 0)) ?_
          refine J_top (v' := .int (nI (cnt (pendB κ ky) (k + 1)))) (congrArg (fun z => Value.int (nI z)) (cnt_f (by simp [pendB, pendF, hk, c_1, c_1d, c_2, c_2d]))) ?_
          refine J_istore_n cx (L' := [(2, .int (nI (cnt (pendB κ ky) (k + 1)))), (4, .int (nI (10 + (14 * k)))), (3, .int (nI k)), (0, .ref an), (1, .int ky)]) dL_pending_58 rfl (by decide) rfl ?_
          refine J_iinc cx (v := (nI (k + 1))) (L' := [(3, .int (nI (k + 1))), (2, .int (nI (cnt (pendB κ ky) (k + 1)))), (4, .int (nI (10 + (14 * k)))), (0, .ref an), (1, .int ky)]) dL_pending_59 2 rfl (by exact nI_add k 1) (by decide) rfl ?_
          refine J_goto cx (tgt := 4) dL_pending_62 (by decide) ?_
          refine J_L [1, 0, 3, 4] rfl ?_
          exact ih (k + 1) (by omega) (by omega)
        · have c_2d := decide_eq_true c_2
          refine J_aload_n cx dL_pending_31 rfl 3 rfl ?_
          refine J_iload cx dL_pending_32 0 rfl ?_
          refine J_bipush cx (v := nI 11) dL_pending_34 (by decide) ?_
          refine J_iadd cx dL_pending_36 ?_
          refine J_top (v' := .int (nI ((10 + (14 * k)) + 11))) (congrArg Value.int (nI_add (10 + (14 * k)) 11)) ?_
          refine J_iald cx (j := (10 + 14 * k + 11)) (f := N) 0 rfl (congrArg nI (by omega)) (by omega) (by decide) dL_pending_37 ?_
          refine J_top (v' := .int (zb (κ.2.1 3 k))) (congrArg Value.int (hN.c11 (by omega))) ?_
          refine J_iconst cx (v := nI 1) dL_pending_38 (by decide) ?_
          refine J_icmp_ne cx (tgt := 56) dL_pending_39 (by decide) (fun c_3 => ?_) (fun c_3 => ?_)
          · have c_3 := (zb1n _).mp c_3
            refine J_iconst cx (v := nI 0) dL_pending_56 (by decide) ?_
            refine J_iadd cx dL_pending_57 ?_
            refine J_top (v' := .int (nI ((cnt (pendB κ ky) k) + 0))) (congrArg Value.int (nI_add (cnt (pendB κ ky) k) 0)) ?_
            refine J_top (v' := .int (nI (cnt (pendB κ ky) (k + 1)))) (congrArg (fun z => Value.int (nI z)) (cnt_f (by simp [pendB, pendF, hk, c_1, c_1d, c_2d, c_3]))) ?_
            refine J_istore_n cx (L' := [(2, .int (nI (cnt (pendB κ ky) (k + 1)))), (4, .int (nI (10 + (14 * k)))), (3, .int (nI k)), (0, .ref an), (1, .int ky)]) dL_pending_58 rfl (by decide) rfl ?_
            refine J_iinc cx (v := (nI (k + 1))) (L' := [(3, .int (nI (k + 1))), (2, .int (nI (cnt (pendB κ ky) (k + 1)))), (4, .int (nI (10 + (14 * k)))), (0, .ref an), (1, .int ky)]) dL_pending_59 2 rfl (by exact nI_add k 1) (by decide) rfl ?_
            refine J_goto cx (tgt := 4) dL_pending_62 (by decide) ?_
            refine J_L [1, 0, 3, 4] rfl ?_
            exact ih (k + 1) (by omega) (by omega)
          · have c_3 := (zb1 _).mp c_3
            refine J_aload_n cx dL_pending_42 rfl 3 rfl ?_
            refine J_iload cx dL_pending_43 0 rfl ?_
            refine J_bipush cx (v := nI 10) dL_pending_45 (by decide) ?_
            refine J_iadd cx dL_pending_47 ?_
            refine J_top (v' := .int (nI ((10 + (14 * k)) + 10))) (congrArg Value.int (nI_add (10 + (14 * k)) 10)) ?_
            refine J_iald cx (j := (10 + 14 * k + 10)) (f := N) 0 rfl (congrArg nI (by omega)) (by omega) (by decide) dL_pending_48 ?_
            refine J_top (v' := .int (κ.1 9 k)) (congrArg Value.int (hN.c10 (by omega))) ?_
            refine J_if_ge cx (tgt := 56) dL_pending_49 (by decide) (fun c_4 => ?_) (fun c_4 => ?_)
            · have c_4d := decide_eq_true c_4
              have c_4c := decide_eq_false (Int32.not_lt.mpr c_4)
              refine J_iconst cx (v := nI 0) dL_pending_56 (by decide) ?_
              refine J_iadd cx dL_pending_57 ?_
              refine J_top (v' := .int (nI ((cnt (pendB κ ky) k) + 0))) (congrArg Value.int (nI_add (cnt (pendB κ ky) k) 0)) ?_
              refine J_top (v' := .int (nI (cnt (pendB κ ky) (k + 1)))) (congrArg (fun z => Value.int (nI z)) (cnt_f (by simp [pendB, pendF, hk, c_1, c_1d, c_2d, c_3, c_4, c_4d, c_4c]))) ?_
              refine J_istore_n cx (L' := [(2, .int (nI (cnt (pendB κ ky) (k + 1)))), (4, .int (nI (10 + (14 * k)))), (3, .int (nI k)), (0, .ref an), (1, .int ky)]) dL_pending_58 rfl (by decide) rfl ?_
              refine J_iinc cx (v := (nI (k + 1))) (L' := [(3, .int (nI (k + 1))), (2, .int (nI (cnt (pendB κ ky) (k + 1)))), (4, .int (nI (10 + (14 * k)))), (0, .ref an), (1, .int ky)]) dL_pending_59 2 rfl (by exact nI_add k 1) (by decide) rfl ?_
              refine J_goto cx (tgt := 4) dL_pending_62 (by decide) ?_
              refine J_L [1, 0, 3, 4] rfl ?_
              exact ih (k + 1) (by omega) (by omega)
            · have c_4d := decide_eq_false c_4
              have c_4c := decide_eq_true (Int32.not_le.mp c_4)
              refine J_iconst cx (v := nI 1) dL_pending_52 (by decide) ?_
              refine J_goto cx (tgt := 57) dL_pending_53 (by decide) ?_
              refine J_iadd cx dL_pending_57 ?_
              refine J_top (v' := .int (nI ((cnt (pendB κ ky) k) + 1))) (congrArg Value.int (nI_add (cnt (pendB κ ky) k) 1)) ?_
              refine J_top (v' := .int (nI (cnt (pendB κ ky) (k + 1)))) (congrArg (fun z => Value.int (nI z)) (cnt_t (by simp [pendB, pendF, hk, c_1, c_1d, c_2d, c_3, c_4, c_4d, c_4c]))) ?_
              refine J_istore_n cx (L' := [(2, .int (nI (cnt (pendB κ ky) (k + 1)))), (4, .int (nI (10 + (14 * k)))), (3, .int (nI k)), (0, .ref an), (1, .int ky)]) dL_pending_58 rfl (by decide) rfl ?_
              refine J_iinc cx (v := (nI (k + 1))) (L' := [(3, .int (nI (k + 1))), (2, .int (nI (cnt (pendB κ ky) (k + 1)))), (4, .int (nI (10 + (14 * k)))), (0, .ref an), (1, .int ky)]) dL_pending_59 2 rfl (by exact nI_add k 1) (by decide) rfl ?_
              refine J_goto cx (tgt := 4) dL_pending_62 (by decide) ?_
              refine J_L [1, 0, 3, 4] rfl ?_
              exact ih (k + 1) (by omega) (by omega)
  refine J_L [1, 0, 2, 3] rfl ?_
  exact LP _ 0 (by omega) (Nat.lt_succ_self _)
