theorem dfX0 : ∀ j, j < 11 → defaultValue (tyX0 j) = vp_V [.int (nI 0), .null, .null, .int (nI 0), .int (nI 0), .int (nI 0), .int (nI 0), .int (nI 0), .int (nI 0), .int (nI 0), .int (nI 0)] j := fun j hj => match j, hj with
  | 0, _ => rfl
  | 1, _ => rfl
  | 2, _ => rfl
  | 3, _ => rfl
  | 4, _ => rfl
  | 5, _ => rfl
  | 6, _ => rfl
  | 7, _ => rfl
  | 8, _ => rfl
  | 9, _ => rfl
  | 10, _ => rfl
  | j + 11, h => absurd h (by omega)
theorem dfX1 : ∀ j, j < 3 → defaultValue (tyX1 j) = vp_V [.null, .int (nI 0), .int (nI 0)] j := fun j hj => match j, hj with
  | 0, _ => rfl
  | 1, _ => rfl
  | 2, _ => rfl
  | j + 3, h => absurd h (by omega)
theorem dfX2 : ∀ j, j < 4 → defaultValue (tyX2 j) = vp_V [.int (nI 0), .int (nI 0), .null, .int (nI 0)] j := fun j hj => match j, hj with
  | 0, _ => rfl
  | 1, _ => rfl
  | 2, _ => rfl
  | 3, _ => rfl
  | j + 4, h => absurd h (by omega)
theorem dfX3 : ∀ j, j < 3 → defaultValue (tyX3 j) = vp_V [.null, .null, .int (nI 0)] j := fun j hj => match j, hj with
  | 0, _ => rfl
  | 1, _ => rfl
  | 2, _ => rfl
  | j + 3, h => absurd h (by omega)
theorem dfX4 : ∀ j, j < 4 → defaultValue (tyX4 j) = vp_V [.null, .null, .null, .int (nI 0)] j := fun j hj => match j, hj with
  | 0, _ => rfl
  | 1, _ => rfl
  | 2, _ => rfl
  | 3, _ => rfl
  | j + 4, h => absurd h (by omega)
theorem dfX5 : ∀ j, j < 3 → defaultValue (tyX5 j) = vp_V [.null, .null, .int (nI 0)] j := fun j hj => match j, hj with
  | 0, _ => rfl
  | 1, _ => rfl
  | 2, _ => rfl
  | j + 3, h => absurd h (by omega)
theorem dfX6 : ∀ j, j < 9 → defaultValue (tyX6 j) = vp_V [.null, .null, .null, .null, .null, .null, .int (nI 0), .int (nI 0), .int (nI 0)] j := fun j hj => match j, hj with
  | 0, _ => rfl
  | 1, _ => rfl
  | 2, _ => rfl
  | 3, _ => rfl
  | 4, _ => rfl
  | 5, _ => rfl
  | 6, _ => rfl
  | 7, _ => rfl
  | 8, _ => rfl
  | j + 9, h => absurd h (by omega)
set_option maxHeartbeats 4000000 in
set_option maxRecDepth 100000 in
theorem tX1_init (l : Launch) (D : va_G) (g : Nat → ClassId) (A : Nat → Prop) (a : Nat)  : Met l yX1_init (wsA yX1_init cX1_init 1 none) ({ frames := 1, cells := 1, slots := 7, locals := 24 } : Room) (va_Pc [.ref a] (PRE D g A [(a, .inr (3, [.null, .int (nI 0), .int (nI 0)]))])) (va_Qv (fun (u : Nat) => True) (fun u => PO D A ([(a, .inr (3, [.ref u, .int (nI 0), .int (nI 0)])), (u, .inl (g 3, 7, aR (fun _ => none)))])) A) 1 7 A := by
  refine metJ (by decide) (Nat.le_of_ble_eq_true rfl) ?_
  intro p e s m args below meth c _ hin cx
  refine J_aload_n cx dX1_init_0 rfl 0 rfl ?_
  refine J_objInit cx oX1_3 ⟨by decide, by decide⟩ dX1_init_1 ?_
  refine J_aload_n cx dX1_init_4 rfl 0 rfl ?_
  refine J_bipush cx (v := nI 7) dX1_init_5 (by decide) ?_
  refine J_newq cx lX1_9 (N' := 7) (by decide) (by decide) (by decide) ⟨by decide, by decide⟩ dX1_init_7 (fun q7 => ?_)
  refine J_ws (ws' := [(a, .inr (3, [.null, .int (nI 0), .int (nI 0)])), (q7, .inl (g 3, 7, aR (fun _ => none)))]) rfl ?_
  refine J_putF cx (ws' := [(a, .inr (3, [.ref q7, .int (nI 0), .int (nI 0)])), (q7, .inl (g 3, 7, aR (fun _ => none)))]) fX1_11 ⟨tyX1_ok, nmX1, tyX1_ok 0 (by decide)⟩ rfl hin rfl 0 rfl rfl rfl (Nat.le_of_ble_eq_true rfl) rfl dX1_init_10 ?_
  refine J_aload_n cx dX1_init_13 rfl 0 rfl ?_
  refine J_iconst cx (v := nI 0) dX1_init_14 (by decide) ?_
  refine J_put cx (ws' := [(a, .inr (3, [.ref q7, .int (nI 0), .int (nI 0)])), (q7, .inl (g 3, 7, aR (fun _ => none)))]) fX1_17 ⟨tyX1_ok, nmX1, tyX1_ok 1 (by decide)⟩ rfl 0 rfl rfl rfl (Nat.le_of_ble_eq_true rfl) rfl dX1_init_15 ?_
  refine J_aload_n cx dX1_init_18 rfl 0 rfl ?_
  refine J_iconst cx (v := nI 0) dX1_init_19 (by decide) ?_
  refine J_put cx (ws' := [(a, .inr (3, [.ref q7, .int (nI 0), .int (nI 0)])), (q7, .inl (g 3, 7, aR (fun _ => none)))]) fX1_21 ⟨tyX1_ok, nmX1, tyX1_ok 2 (by decide)⟩ rfl 0 rfl rfl rfl (Nat.le_of_ble_eq_true rfl) rfl dX1_init_20 ?_
  exact J_vret cx rfl (u := q7) trivial rfl (Nat.le_of_ble_eq_true rfl) (Nat.le_of_ble_eq_true rfl) dX1_init_23
set_option maxHeartbeats 4000000 in
set_option maxRecDepth 100000 in
theorem tX2_init (l : Launch) (D : va_G) (g : Nat → ClassId) (A : Nat → Prop) (a : Nat) (nm : Int32) (ky : Int32) : Met l yX2_init (wsA yX2_init cX2_init 3 none) ({ frames := 1, cells := 1, slots := 3, locals := 24 } : Room) (va_Pc [.ref a, .int nm, .int ky] (PRE D g A [(a, .inr (4, [.int (nI 0), .int (nI 0), .null, .int (nI 0)]))])) (va_Qv (fun (u : Nat) => True) (fun u => PO D A ([(a, .inr (4, [.int nm, .int ky, .ref u, .int (nI 0)])), (u, .inl (g 3, 3, aR (fun _ => none)))])) A) 1 3 A := by
  refine metJ (by decide) (Nat.le_of_ble_eq_true rfl) ?_
  intro p e s m args below meth c _ hin cx
  refine J_aload_n cx dX2_init_0 rfl 0 rfl ?_
  refine J_objInit cx oX2_3 ⟨by decide, by decide⟩ dX2_init_1 ?_
  refine J_aload_n cx dX2_init_4 rfl 0 rfl ?_
  refine J_iload_n cx dX2_init_5 rfl 1 rfl ?_
  refine J_putF cx (ws' := [(a, .inr (4, [.int nm, .int (nI 0), .null, .int (nI 0)]))]) fX2_9 ⟨tyX2_ok, nmX2, tyX2_ok 0 (by decide)⟩ rfl hin rfl 0 rfl rfl rfl (Nat.le_of_ble_eq_true rfl) rfl dX2_init_6 ?_
  refine J_aload_n cx dX2_init_9 rfl 0 rfl ?_
  refine J_iload_n cx dX2_init_10 rfl 2 rfl ?_
  refine J_putF cx (ws' := [(a, .inr (4, [.int nm, .int ky, .null, .int (nI 0)]))]) fX2_15 ⟨tyX2_ok, nmX2, tyX2_ok 1 (by decide)⟩ rfl hin rfl 0 rfl rfl rfl (Nat.le_of_ble_eq_true rfl) rfl dX2_init_11 ?_
  refine J_aload_n cx dX2_init_14 rfl 0 rfl ?_
  refine J_iconst cx (v := nI 3) dX2_init_15 (by decide) ?_
  refine J_newq cx lX2_18 (N' := 3) (by decide) (by decide) (by decide) ⟨by decide, by decide⟩ dX2_init_16 (fun q16 => ?_)
  refine J_ws (ws' := [(a, .inr (4, [.int nm, .int ky, .null, .int (nI 0)])), (q16, .inl (g 3, 3, aR (fun _ => none)))]) rfl ?_
  refine J_putF cx (ws' := [(a, .inr (4, [.int nm, .int ky, .ref q16, .int (nI 0)])), (q16, .inl (g 3, 3, aR (fun _ => none)))]) fX2_20 ⟨tyX2_ok, nmX2, tyX2_ok 2 (by decide)⟩ rfl hin rfl 0 rfl rfl rfl (Nat.le_of_ble_eq_true rfl) rfl dX2_init_19 ?_
  refine J_aload_n cx dX2_init_22 rfl 0 rfl ?_
  refine J_iconst cx (v := nI 0) dX2_init_23 (by decide) ?_
  refine J_put cx (ws' := [(a, .inr (4, [.int nm, .int ky, .ref q16, .int (nI 0)])), (q16, .inl (g 3, 3, aR (fun _ => none)))]) fX2_24 ⟨tyX2_ok, nmX2, tyX2_ok 3 (by decide)⟩ rfl 0 rfl rfl rfl (Nat.le_of_ble_eq_true rfl) rfl dX2_init_24 ?_
  exact J_vret cx rfl (u := q16) trivial rfl (Nat.le_of_ble_eq_true rfl) (Nat.le_of_ble_eq_true rfl) dX2_init_27
set_option maxHeartbeats 4000000 in
set_option maxRecDepth 100000 in
theorem tX0_init (l : Launch) (D : va_G) (g : Nat → ClassId) (A : Nat → Prop) (a : Nat) (nb : Int32) (sa : Nat) (ia : Nat) (fd : Int32) (ld : Int32) (ln : Int32) : Met l yX0_init (wsA yX0_init cX0_init 7 none) ({ frames := 1, cells := 0, slots := 0, locals := 24 } : Room) (va_Pc [.ref a, .int nb, .ref sa, .ref ia, .int fd, .int ld, .int ln] (PRE D g A [(a, .inr (2, [.int (nI 0), .null, .null, .int (nI 0), .int (nI 0), .int (nI 0), .int (nI 0), .int (nI 0), .int (nI 0), .int (nI 0), .int (nI 0)]))])) (va_Qv (fun (u : Unit) => True) (fun u => PO D A ([(a, .inr (2, [.int nb, .ref sa, .ref ia, .int fd, .int ld, .int ln, .int (nI 0), .int (nI 0), .int (nI 0), .int (nI 0), .int (-1)]))])) A) 0 0 A := by
  refine metJ (by decide) (Nat.le_of_ble_eq_true rfl) ?_
  intro p e s m args below meth c _ hin cx
  refine J_aload_n cx dX0_init_0 rfl 0 rfl ?_
  refine J_objInit cx oX0_3 ⟨by decide, by decide⟩ dX0_init_1 ?_
  refine J_aload_n cx dX0_init_4 rfl 0 rfl ?_
  refine J_iload_n cx dX0_init_5 rfl 1 rfl ?_
  refine J_putF cx (ws' := [(a, .inr (2, [.int nb, .null, .null, .int (nI 0), .int (nI 0), .int (nI 0), .int (nI 0), .int (nI 0), .int (nI 0), .int (nI 0), .int (nI 0)]))]) fX0_9 ⟨tyX0_ok, nmX0, tyX0_ok 0 (by decide)⟩ rfl hin rfl 0 rfl rfl rfl (Nat.le_of_ble_eq_true rfl) rfl dX0_init_6 ?_
  refine J_aload_n cx dX0_init_9 rfl 0 rfl ?_
  refine J_aload_n cx dX0_init_10 rfl 2 rfl ?_
  refine J_putF cx (ws' := [(a, .inr (2, [.int nb, .ref sa, .null, .int (nI 0), .int (nI 0), .int (nI 0), .int (nI 0), .int (nI 0), .int (nI 0), .int (nI 0), .int (nI 0)]))]) fX0_15 ⟨tyX0_ok, nmX0, tyX0_ok 1 (by decide)⟩ rfl hin rfl 0 rfl rfl rfl (Nat.le_of_ble_eq_true rfl) rfl dX0_init_11 ?_
  refine J_aload_n cx dX0_init_14 rfl 0 rfl ?_
  refine J_aload_n cx dX0_init_15 rfl 3 rfl ?_
  refine J_putF cx (ws' := [(a, .inr (2, [.int nb, .ref sa, .ref ia, .int (nI 0), .int (nI 0), .int (nI 0), .int (nI 0), .int (nI 0), .int (nI 0), .int (nI 0), .int (nI 0)]))]) fX0_19 ⟨tyX0_ok, nmX0, tyX0_ok 2 (by decide)⟩ rfl hin rfl 0 rfl rfl rfl (Nat.le_of_ble_eq_true rfl) rfl dX0_init_16 ?_
  refine J_aload_n cx dX0_init_19 rfl 0 rfl ?_
  refine J_iload cx dX0_init_20 4 rfl ?_
  refine J_putF cx (ws' := [(a, .inr (2, [.int nb, .ref sa, .ref ia, .int fd, .int (nI 0), .int (nI 0), .int (nI 0), .int (nI 0), .int (nI 0), .int (nI 0), .int (nI 0)]))]) fX0_22 ⟨tyX0_ok, nmX0, tyX0_ok 3 (by decide)⟩ rfl hin rfl 0 rfl rfl rfl (Nat.le_of_ble_eq_true rfl) rfl dX0_init_22 ?_
  refine J_aload_n cx dX0_init_25 rfl 0 rfl ?_
  refine J_iload cx dX0_init_26 5 rfl ?_
  refine J_putF cx (ws' := [(a, .inr (2, [.int nb, .ref sa, .ref ia, .int fd, .int ld, .int (nI 0), .int (nI 0), .int (nI 0), .int (nI 0), .int (nI 0), .int (nI 0)]))]) fX0_25 ⟨tyX0_ok, nmX0, tyX0_ok 4 (by decide)⟩ rfl hin rfl 0 rfl rfl rfl (Nat.le_of_ble_eq_true rfl) rfl dX0_init_28 ?_
  refine J_aload_n cx dX0_init_31 rfl 0 rfl ?_
  refine J_iload cx dX0_init_32 6 rfl ?_
  refine J_putF cx (ws' := [(a, .inr (2, [.int nb, .ref sa, .ref ia, .int fd, .int ld, .int ln, .int (nI 0), .int (nI 0), .int (nI 0), .int (nI 0), .int (nI 0)]))]) fX0_28 ⟨tyX0_ok, nmX0, tyX0_ok 5 (by decide)⟩ rfl hin rfl 0 rfl rfl rfl (Nat.le_of_ble_eq_true rfl) rfl dX0_init_34 ?_
  refine J_aload_n cx dX0_init_37 rfl 0 rfl ?_
  refine J_iconst cx (v := nI 0) dX0_init_38 (by decide) ?_
  refine J_put cx (ws' := [(a, .inr (2, [.int nb, .ref sa, .ref ia, .int fd, .int ld, .int ln, .int (nI 0), .int (nI 0), .int (nI 0), .int (nI 0), .int (nI 0)]))]) fX0_31 ⟨tyX0_ok, nmX0, tyX0_ok 6 (by decide)⟩ rfl 0 rfl rfl rfl (Nat.le_of_ble_eq_true rfl) rfl dX0_init_39 ?_
  refine J_aload_n cx dX0_init_42 rfl 0 rfl ?_
  refine J_iconst cx (v := nI 0) dX0_init_43 (by decide) ?_
  refine J_put cx (ws' := [(a, .inr (2, [.int nb, .ref sa, .ref ia, .int fd, .int ld, .int ln, .int (nI 0), .int (nI 0), .int (nI 0), .int (nI 0), .int (nI 0)]))]) fX0_34 ⟨tyX0_ok, nmX0, tyX0_ok 7 (by decide)⟩ rfl 0 rfl rfl rfl (Nat.le_of_ble_eq_true rfl) rfl dX0_init_44 ?_
  refine J_aload_n cx dX0_init_47 rfl 0 rfl ?_
  refine J_iconst cx (v := nI 0) dX0_init_48 (by decide) ?_
  refine J_put cx (ws' := [(a, .inr (2, [.int nb, .ref sa, .ref ia, .int fd, .int ld, .int ln, .int (nI 0), .int (nI 0), .int (nI 0), .int (nI 0), .int (nI 0)]))]) fX0_37 ⟨tyX0_ok, nmX0, tyX0_ok 8 (by decide)⟩ rfl 0 rfl (zb_nar false) (zb_fit false) (Nat.le_of_ble_eq_true rfl) rfl dX0_init_49 ?_
  refine J_aload_n cx dX0_init_52 rfl 0 rfl ?_
  refine J_iconst cx (v := nI 0) dX0_init_53 (by decide) ?_
  refine J_put cx (ws' := [(a, .inr (2, [.int nb, .ref sa, .ref ia, .int fd, .int ld, .int ln, .int (nI 0), .int (nI 0), .int (nI 0), .int (nI 0), .int (nI 0)]))]) fX0_41 ⟨tyX0_ok, nmX0, tyX0_ok 9 (by decide)⟩ rfl 0 rfl (zb_nar false) (zb_fit false) (Nat.le_of_ble_eq_true rfl) rfl dX0_init_54 ?_
  refine J_aload_n cx dX0_init_57 rfl 0 rfl ?_
  refine J_iconst cx (v := (-1)) dX0_init_58 (by decide) ?_
  refine J_put cx (ws' := [(a, .inr (2, [.int nb, .ref sa, .ref ia, .int fd, .int ld, .int ln, .int (nI 0), .int (nI 0), .int (nI 0), .int (nI 0), .int (-1)]))]) fX0_44 ⟨tyX0_ok, nmX0, tyX0_ok 10 (by decide)⟩ rfl 0 rfl rfl rfl (Nat.le_of_ble_eq_true rfl) rfl dX0_init_59 ?_
  exact J_vret cx rfl (u := ()) trivial rfl (Nat.le_of_ble_eq_true rfl) (Nat.le_of_ble_eq_true rfl) dX0_init_62
set_option maxHeartbeats 4000000 in
set_option maxRecDepth 100000 in
theorem tX3_init (l : Launch) (D : va_G) (g : Nat → ClassId) (A : Nat → Prop) (a : Nat)  : Met l yX3_init (wsA yX3_init cX3_init 1 none) ({ frames := 1, cells := 2, slots := 80, locals := 24 } : Room) (va_Pc [.ref a] (PRE D g A [(a, .inr (5, [.null, .null, .int (nI 0)]))])) (va_Qv (fun (u : Nat × Nat) => True) (fun u => PO D A ([(a, .inr (5, [.ref u.1, .ref u.2, .int (nI 0)])), (u.1, .inl (g 0, 40, .inl (fun _ => nI 0))), (u.2, .inl (g 1, 40, .inr (.inl (fun _ => 0))))])) A) 2 80 A := by
  refine metJ (by decide) (Nat.le_of_ble_eq_true rfl) ?_
  intro p e s m args below meth c _ hin cx
  refine J_aload_n cx dX3_init_0 rfl 0 rfl ?_
  refine J_objInit cx oX3_3 ⟨by decide, by decide⟩ dX3_init_1 ?_
  refine J_aload_n cx dX3_init_4 rfl 0 rfl ?_
  refine J_bipush cx (v := nI 40) dX3_init_5 (by decide) ?_
  refine J_newa cx (atype := .int) ac45 rfl 0 rfl (fun C h => by cases h) (N' := 40) (a0 := (40, .inl (fun _ => nI 0))) (fun cA => rfl) (by decide) (by decide) (by decide) ⟨by decide, by decide⟩ dX3_init_7 (fun q7 => ?_)
  refine J_ws (ws' := [(a, .inr (5, [.null, .null, .int (nI 0)])), (q7, .inl (g 0, 40, .inl (fun _ => nI 0)))]) rfl ?_
  refine J_putF cx (ws' := [(a, .inr (5, [.ref q7, .null, .int (nI 0)])), (q7, .inl (g 0, 40, .inl (fun _ => nI 0)))]) fX3_9 ⟨tyX3_ok, nmX3, tyX3_ok 0 (by decide)⟩ rfl hin rfl 0 rfl rfl rfl (Nat.le_of_ble_eq_true rfl) rfl dX3_init_9 ?_
  refine J_aload_n cx dX3_init_12 rfl 0 rfl ?_
  refine J_bipush cx (v := nI 40) dX3_init_13 (by decide) ?_
  refine J_newa cx (atype := .long) ac46 rfl 1 rfl (fun C h => by cases h) (N' := 40) (a0 := (40, .inr (.inl (fun _ => 0)))) (fun cA => rfl) (by decide) (by decide) (by decide) ⟨by decide, by decide⟩ dX3_init_15 (fun q15 => ?_)
  refine J_ws (ws' := [(a, .inr (5, [.ref q7, .null, .int (nI 0)])), (q7, .inl (g 0, 40, .inl (fun _ => nI 0))), (q15, .inl (g 1, 40, .inr (.inl (fun _ => 0))))]) rfl ?_
  refine J_putF cx (ws' := [(a, .inr (5, [.ref q7, .ref q15, .int (nI 0)])), (q7, .inl (g 0, 40, .inl (fun _ => nI 0))), (q15, .inl (g 1, 40, .inr (.inl (fun _ => 0))))]) fX3_15 ⟨tyX3_ok, nmX3, tyX3_ok 1 (by decide)⟩ rfl hin rfl 0 rfl rfl rfl (Nat.le_of_ble_eq_true rfl) rfl dX3_init_17 ?_
  refine J_aload_n cx dX3_init_20 rfl 0 rfl ?_
  refine J_iconst cx (v := nI 0) dX3_init_21 (by decide) ?_
  refine J_put cx (ws' := [(a, .inr (5, [.ref q7, .ref q15, .int (nI 0)])), (q7, .inl (g 0, 40, .inl (fun _ => nI 0))), (q15, .inl (g 1, 40, .inr (.inl (fun _ => 0))))]) fX3_19 ⟨tyX3_ok, nmX3, tyX3_ok 2 (by decide)⟩ rfl 0 rfl rfl rfl (Nat.le_of_ble_eq_true rfl) rfl dX3_init_22 ?_
  exact J_vret cx rfl (u := (q7, q15)) trivial rfl (Nat.le_of_ble_eq_true rfl) (Nat.le_of_ble_eq_true rfl) dX3_init_25
set_option maxHeartbeats 4000000 in
set_option maxRecDepth 100000 in
theorem tX5_init (l : Launch) (D : va_G) (g : Nat → ClassId) (A : Nat → Prop) (a : Nat)  : Met l yX5_init (wsA yX5_init cX5_init 1 none) ({ frames := 1, cells := 2, slots := 16, locals := 24 } : Room) (va_Pc [.ref a] (PRE D g A [(a, .inr (7, [.null, .null, .int (nI 0)]))])) (va_Qv (fun (u : Nat × Nat) => True) (fun u => PO D A ([(a, .inr (7, [.ref u.1, .ref u.2, .int (nI 0)])), (u.1, .inl (g 1, 8, .inr (.inl (fun _ => 0)))), (u.2, .inl (g 2, 8, .inl (fun _ => nI 0)))])) A) 2 16 A := by
  refine metJ (by decide) (Nat.le_of_ble_eq_true rfl) ?_
  intro p e s m args below meth c _ hin cx
  refine J_aload_n cx dX5_init_0 rfl 0 rfl ?_
  refine J_objInit cx oX5_1 ⟨by decide, by decide⟩ dX5_init_1 ?_
  refine J_aload_n cx dX5_init_4 rfl 0 rfl ?_
  refine J_bipush cx (v := nI 8) dX5_init_5 (by decide) ?_
  refine J_newa cx (atype := .long) ac46 rfl 1 rfl (fun C h => by cases h) (N' := 8) (a0 := (8, .inr (.inl (fun _ => 0)))) (fun cA => rfl) (by decide) (by decide) (by decide) ⟨by decide, by decide⟩ dX5_init_7 (fun q7 => ?_)
  refine J_ws (ws' := [(a, .inr (7, [.null, .null, .int (nI 0)])), (q7, .inl (g 1, 8, .inr (.inl (fun _ => 0))))]) rfl ?_
  refine J_putF cx (ws' := [(a, .inr (7, [.ref q7, .null, .int (nI 0)])), (q7, .inl (g 1, 8, .inr (.inl (fun _ => 0))))]) fX5_9 ⟨tyX5_ok, nmX5, tyX5_ok 0 (by decide)⟩ rfl hin rfl 0 rfl rfl rfl (Nat.le_of_ble_eq_true rfl) rfl dX5_init_9 ?_
  refine J_aload_n cx dX5_init_12 rfl 0 rfl ?_
  refine J_bipush cx (v := nI 8) dX5_init_13 (by decide) ?_
  refine J_newa cx (atype := .boolean) ac69 rfl 2 rfl (fun C h => by cases h) (N' := 8) (a0 := (8, .inl (fun _ => nI 0))) (fun cA => rfl) (by decide) (by decide) (by decide) ⟨by decide, by decide⟩ dX5_init_15 (fun q15 => ?_)
  refine J_ws (ws' := [(a, .inr (7, [.ref q7, .null, .int (nI 0)])), (q7, .inl (g 1, 8, .inr (.inl (fun _ => 0)))), (q15, .inl (g 2, 8, .inl (fun _ => nI 0)))]) rfl ?_
  refine J_putF cx (ws' := [(a, .inr (7, [.ref q7, .ref q15, .int (nI 0)])), (q7, .inl (g 1, 8, .inr (.inl (fun _ => 0)))), (q15, .inl (g 2, 8, .inl (fun _ => nI 0)))]) fX5_13 ⟨tyX5_ok, nmX5, tyX5_ok 1 (by decide)⟩ rfl hin rfl 0 rfl rfl rfl (Nat.le_of_ble_eq_true rfl) rfl dX5_init_17 ?_
  refine J_aload_n cx dX5_init_20 rfl 0 rfl ?_
  refine J_iconst cx (v := nI 0) dX5_init_21 (by decide) ?_
  refine J_put cx (ws' := [(a, .inr (7, [.ref q7, .ref q15, .int (nI 0)])), (q7, .inl (g 1, 8, .inr (.inl (fun _ => 0)))), (q15, .inl (g 2, 8, .inl (fun _ => nI 0)))]) fX5_17 ⟨tyX5_ok, nmX5, tyX5_ok 2 (by decide)⟩ rfl 0 rfl rfl rfl (Nat.le_of_ble_eq_true rfl) rfl dX5_init_22 ?_
  exact J_vret cx rfl (u := (q7, q15)) trivial rfl (Nat.le_of_ble_eq_true rfl) (Nat.le_of_ble_eq_true rfl) dX5_init_25
set_option maxHeartbeats 4000000 in
set_option maxRecDepth 100000 in
theorem tX4_init (l : Launch) (D : va_G) (g : Nat → ClassId) (A : Nat → Prop) (a : Nat)  : Met l yX4_init (wsA yX4_init cX4_init 1 none) ({ frames := 2, cells := 5, slots := 67, locals := 44 } : Room) (va_Pc [.ref a] (PRE D g A [(a, .inr (6, [.null, .null, .null, .int (nI 0)]))])) (va_Qv (fun (u : Nat × Nat × Nat × Nat × Nat) => True) (fun u => PO D A ([(a, .inr (6, [.ref u.1, .ref u.2.1, .ref u.2.2.1, .int (nI 0)])), (u.1, .inl (g 1, 40, .inr (.inl (fun _ => 0)))), (u.2.1, .inl (g 1, 8, .inr (.inl (fun _ => 0)))), (u.2.2.1, .inr (7, [.ref u.2.2.2.1, .ref u.2.2.2.2, .int (nI 0)])), (u.2.2.2.1, .inl (g 1, 8, .inr (.inl (fun _ => 0)))), (u.2.2.2.2, .inl (g 2, 8, .inl (fun _ => nI 0)))])) A) 5 67 A := by
  refine metJ (by decide) (Nat.le_of_ble_eq_true rfl) ?_
  intro p e s m args below meth c _ hin cx
  refine J_aload_n cx dX4_init_0 rfl 0 rfl ?_
  refine J_objInit cx oX4_3 ⟨by decide, by decide⟩ dX4_init_1 ?_
  refine J_aload_n cx dX4_init_4 rfl 0 rfl ?_
  refine J_bipush cx (v := nI 40) dX4_init_5 (by decide) ?_
  refine J_newa cx (atype := .long) ac46 rfl 1 rfl (fun C h => by cases h) (N' := 40) (a0 := (40, .inr (.inl (fun _ => 0)))) (fun cA => rfl) (by decide) (by decide) (by decide) ⟨by decide, by decide⟩ dX4_init_7 (fun q7 => ?_)
  refine J_ws (ws' := [(a, .inr (6, [.null, .null, .null, .int (nI 0)])), (q7, .inl (g 1, 40, .inr (.inl (fun _ => 0))))]) rfl ?_
  refine J_putF cx (ws' := [(a, .inr (6, [.ref q7, .null, .null, .int (nI 0)])), (q7, .inl (g 1, 40, .inr (.inl (fun _ => 0))))]) fX4_9 ⟨tyX4_ok, nmX4, tyX4_ok 0 (by decide)⟩ rfl hin rfl 0 rfl rfl rfl (Nat.le_of_ble_eq_true rfl) rfl dX4_init_9 ?_
  refine J_aload_n cx dX4_init_12 rfl 0 rfl ?_
  refine J_bipush cx (v := nI 8) dX4_init_13 (by decide) ?_
  refine J_newa cx (atype := .long) ac46 rfl 1 rfl (fun C h => by cases h) (N' := 8) (a0 := (8, .inr (.inl (fun _ => 0)))) (fun cA => rfl) (by decide) (by decide) (by decide) ⟨by decide, by decide⟩ dX4_init_15 (fun q15 => ?_)
  refine J_ws (ws' := [(a, .inr (6, [.ref q7, .null, .null, .int (nI 0)])), (q7, .inl (g 1, 40, .inr (.inl (fun _ => 0)))), (q15, .inl (g 1, 8, .inr (.inl (fun _ => 0))))]) rfl ?_
  refine J_putF cx (ws' := [(a, .inr (6, [.ref q7, .ref q15, .null, .int (nI 0)])), (q7, .inl (g 1, 40, .inr (.inl (fun _ => 0)))), (q15, .inl (g 1, 8, .inr (.inl (fun _ => 0))))]) fX4_15 ⟨tyX4_ok, nmX4, tyX4_ok 1 (by decide)⟩ rfl hin rfl 0 rfl rfl rfl (Nat.le_of_ble_eq_true rfl) rfl dX4_init_17 ?_
  refine J_aload_n cx dX4_init_20 rfl 0 rfl ?_
  refine J_new cx (ci := 7) (fs := [.null, .null, .int (nI 0)]) iwX5 tyX5_ok lX4_18 nX5 zX5 rfl dfX5 ⟨by decide, by decide⟩ dX4_init_21 (fun q21 => ?_)
  refine J_ws (ws' := [(a, .inr (6, [.ref q7, .ref q15, .null, .int (nI 0)])), (q7, .inl (g 1, 40, .inr (.inl (fun _ => 0)))), (q15, .inl (g 1, 8, .inr (.inl (fun _ => 0)))), (q21, .inr (7, [.null, .null, .int (nI 0)]))]) rfl ?_
  refine J_dup cx dX4_init_24 rfl ?_
  refine J_callCv cx kX4_20 (As := []) (frV (w := [(q21, .inr (7, [.null, .null, .int (nI 0)]))]) (wr := [(a, .inr (6, [.ref q7, .ref q15, .null, .int (nI 0)])), (q7, .inl (g 1, 40, .inr (.inl (fun _ => 0)))), (q15, .inl (g 1, 8, .inr (.inl (fun _ => 0))))]) (W' := fun (u : Nat × Nat) => [(q21, .inr (7, [.ref u.1, .ref u.2, .int (nI 0)])), (u.1, .inl (g 1, 8, .inr (.inl (fun _ => 0)))), (u.2, .inl (g 2, 8, .inl (fun _ => nI 0)))]) (W2 := fun (u : Nat × Nat) => [(a, .inr (6, [.ref q7, .ref q15, .null, .int (nI 0)])), (q7, .inl (g 1, 40, .inr (.inl (fun _ => 0)))), (q15, .inl (g 1, 8, .inr (.inl (fun _ => 0))))] ++ [(q21, .inr (7, [.ref u.1, .ref u.2, .int (nI 0)])), (u.1, .inl (g 1, 8, .inr (.inl (fun _ => 0)))), (u.2, .inl (g 2, 8, .inl (fun _ => nI 0)))]) (List.perm_append_comm (l₁ := ([(a, .inr (6, [.ref q7, .ref q15, .null, .int (nI 0)])), (q7, .inl (g 1, 40, .inr (.inl (fun _ => 0)))), (q15, .inl (g 1, 8, .inr (.inl (fun _ => 0))))] : va_W)) (l₂ := ([(q21, .inr (7, [.null, .null, .int (nI 0)]))] : va_W))) (fun _ => List.perm_append_comm) (tX5_init l D g _ q21 )) ⟨rfl, rfl, by decide, by decide⟩ ⟨by decide, by decide⟩ rfl rfl (Nat.le_of_ble_eq_true rfl) dX4_init_25 ?_
  intro u25 _
  obtain ⟨q_25, r_25⟩ := u25
  refine J_ws (ws' := [(a, .inr (6, [.ref q7, .ref q15, .null, .int (nI 0)])), (q7, .inl (g 1, 40, .inr (.inl (fun _ => 0)))), (q15, .inl (g 1, 8, .inr (.inl (fun _ => 0)))), (q21, .inr (7, [.ref q_25, .ref r_25, .int (nI 0)])), (q_25, .inl (g 1, 8, .inr (.inl (fun _ => 0)))), (r_25, .inl (g 2, 8, .inl (fun _ => nI 0)))]) rfl ?_
  refine J_putF cx (ws' := [(a, .inr (6, [.ref q7, .ref q15, .ref q21, .int (nI 0)])), (q7, .inl (g 1, 40, .inr (.inl (fun _ => 0)))), (q15, .inl (g 1, 8, .inr (.inl (fun _ => 0)))), (q21, .inr (7, [.ref q_25, .ref r_25, .int (nI 0)])), (q_25, .inl (g 1, 8, .inr (.inl (fun _ => 0)))), (r_25, .inl (g 2, 8, .inl (fun _ => nI 0)))]) fX4_21 ⟨tyX4_ok, nmX4, tyX4_ok 2 (by decide)⟩ rfl hin rfl 0 rfl rfl rfl (Nat.le_of_ble_eq_true rfl) rfl dX4_init_28 ?_
  refine J_aload_n cx dX4_init_31 rfl 0 rfl ?_
  refine J_iconst cx (v := nI 0) dX4_init_32 (by decide) ?_
  refine J_put cx (ws' := [(a, .inr (6, [.ref q7, .ref q15, .ref q21, .int (nI 0)])), (q7, .inl (g 1, 40, .inr (.inl (fun _ => 0)))), (q15, .inl (g 1, 8, .inr (.inl (fun _ => 0)))), (q21, .inr (7, [.ref q_25, .ref r_25, .int (nI 0)])), (q_25, .inl (g 1, 8, .inr (.inl (fun _ => 0)))), (r_25, .inl (g 2, 8, .inl (fun _ => nI 0)))]) fX4_25 ⟨tyX4_ok, nmX4, tyX4_ok 3 (by decide)⟩ rfl 0 rfl rfl rfl (Nat.le_of_ble_eq_true rfl) rfl dX4_init_33 ?_
  exact J_vret cx rfl (u := (q7, q15, q21, q_25, r_25)) trivial rfl (Nat.le_of_ble_eq_true rfl) (Nat.le_of_ble_eq_true rfl) dX4_init_36
