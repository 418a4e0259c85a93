set_option maxHeartbeats 4000000 in
set_option maxRecDepth 100000 in
theorem tL_fits (l : Launch) (D : va_G) (g : Nat → ClassId) (A : Nat → Prop) (an : Nat) (N : Nat → Int32) (κ : CS) (wr : va_W) (wa wn : Nat) (wy : Nat → Nat) (sz nx : Nat) (hN : NT N κ) (hI : InvM κ) (hnx : nx < κ.2.2.1 0) (hsz : sz ≤ wn) (hwn : wn < 2147483648) (hw : ∀ z, z < sz → wy z < κ.2.2.1 0) : CtI l D g A yL_fits cL_fits 7 .boolean ({ frames := 6, cells := 0, slots := 0, locals := 181 } : Room) [.ref an, .ref wa, .int (nI sz), .int (nI nx)] (iA g an 700 N :: iA g wa wn (fun i => nI (wy i)) :: wr) (zb (fitsB κ wy sz nx)) (iA g an 700 N :: iA g wa wn (fun i => nI (wy i)) :: wr) := by
  have hn := hI.1
  obtain ⟨b7, h72, h7⟩ := nm7 hI hnx
  obtain ⟨b8, h82, h8⟩ := nm8 hI hnx
  refine metJ (by decide) (Nat.le_of_ble_eq_true rfl) ?_
  intro p e s m args below meth c _ _ cx
  refine J_bipush cx (v := nI 10) dL_fits_0 (by decide) ?_
  refine J_bipush cx (v := nI 14) dL_fits_2 (by decide) ?_
  refine J_iload_n cx dL_fits_4 rfl 3 rfl ?_
  refine J_imul cx dL_fits_5 ?_
  refine J_top (v' := .int (nI (14 * nx))) (congrArg Value.int (pk_mul 14 nx)) ?_
  refine J_iadd cx dL_fits_6 ?_
  refine J_top (v' := .int (nI (10 + (14 * nx)))) (congrArg Value.int (nI_add 10 (14 * nx))) ?_
  refine J_istore cx (L' := [(4, .int (nI (10 + (14 * nx)))), (0, .ref an), (1, .ref wa), (2, .int (nI sz)), (3, .int (nI nx))]) dL_fits_7 (by decide) rfl ?_
  refine J_iconst cx (v := nI 0) dL_fits_9 (by decide) ?_
  refine J_istore cx (L' := [(5, .int (nI 0)), (4, .int (nI (10 + (14 * nx)))), (0, .ref an), (1, .ref wa), (2, .int (nI sz)), (3, .int (nI nx))]) dL_fits_10 (by decide) rfl ?_
  have LP : ∀ (fu : Nat) (k : Nat), (k ≤ sz) → (allN (fun k => okN κ nx (wy k)) k = true) → sz - k < fu → J p l e ({ frames := 6, cells := 0, slots := 0, locals := 181 } : Room) s m args below meth c D A 7 (MQ below (va_Qi (fun (r : Int32) (_ : Unit) => r = (zb (fitsB κ wy sz nx))) (fun _ => PO D A (iA g an 700 N :: iA g wa wn (fun i => nI (wy i)) :: wr)) A) args s 0 0 A) 0 0 (iA g an 700 N :: iA g wa wn (fun i => nI (wy i)) :: wr) [(5, .int (nI k)), (4, .int (nI (10 + 14 * nx))), (0, .ref an), (1, .ref wa), (2, .int (nI sz)), (3, .int (nI nx))] 12 [] := by
    intro fu; induction fu with
    | zero => intro k hk hb hfu; exact absurd hfu (Nat.not_lt_zero _)
    | succ fu ih =>
      intro k hk hb hfu
      refine J_iload cx dL_fits_12 0 rfl ?_
      refine J_iload_n cx dL_fits_14 rfl 4 rfl ?_
      refine J_icmp_ge cx (tgt := 90) dL_fits_15 (by decide) (fun c_1 => ?_) (fun c_1 => ?_)
      · have c_1 := (nat_ic_ge (by omega) (by omega)).mp c_1
        have c_1d := decide_eq_true c_1
        refine J_iconst cx (v := nI 1) dL_fits_90 (by decide) ?_
        exact J_zret cx rfl (u := ()) (rfl) (by rw [show sz = k from by omega]; unfold fitsB; rw [hb]; rfl) rfl (Nat.le_of_ble_eq_true rfl) (Nat.le_of_ble_eq_true rfl) dL_fits_91
      · have c_1 := (nat_ic_ge_f (by omega) (by omega)).mp c_1
        have c_1d := decide_eq_false (Nat.not_le.mpr c_1)
        have hwk := hw k (by omega)
        refine J_aload_n cx dL_fits_18 rfl 2 rfl ?_
        refine J_bipush cx (v := nI 10) dL_fits_19 (by decide) ?_
        refine J_bipush cx (v := nI 14) dL_fits_21 (by decide) ?_
        refine J_aload_n cx dL_fits_23 rfl 3 rfl ?_
        refine J_iload cx dL_fits_24 0 rfl ?_
        refine J_iald cx (j := k) (f := fun i => nI (wy i)) 1 rfl rfl (by omega) hwn dL_fits_26 ?_
        refine J_imul cx dL_fits_27 ?_
        refine J_top (v' := .int (nI (14 * (wy k)))) (congrArg Value.int (pk_mul 14 (wy k))) ?_
        refine J_iadd cx dL_fits_28 ?_
        refine J_top (v' := .int (nI (10 + (14 * (wy k))))) (congrArg Value.int (nI_add 10 (14 * (wy k)))) ?_
        refine J_iald cx (j := (10 + 14 * (wy k))) (f := N) 0 rfl (congrArg nI (by omega)) (by omega) (by decide) dL_fits_29 ?_
        refine J_top (v' := .int (κ.1 0 (wy k))) (congrArg Value.int (hN.c0 (by omega))) ?_
        obtain ⟨a9, ha1, ha2, ha⟩ := hI.2.1 (wy k) (hw k (by omega))
        refine J_top (v' := .int (nI a9)) (congrArg Value.int ha) ?_
        refine J_istore cx (L' := [(6, .int (nI a9)), (5, .int (nI k)), (4, .int (nI (10 + 14 * nx))), (0, .ref an), (1, .ref wa), (2, .int (nI sz)), (3, .int (nI nx))]) dL_fits_30 (by decide) rfl ?_
        refine J_aload_n cx dL_fits_32 rfl 3 rfl ?_
        refine J_iload cx dL_fits_33 2 rfl ?_
        refine J_bipush cx (v := nI 8) dL_fits_35 (by decide) ?_
        refine J_iadd cx dL_fits_37 ?_
        refine J_top (v' := .int (nI ((10 + 14 * nx) + 8))) (congrArg Value.int (nI_add (10 + 14 * nx) 8)) ?_
        refine J_iald cx (j := (10 + 14 * nx + 8)) (f := N) 0 rfl (congrArg nI (by omega)) (by omega) (by decide) dL_fits_38 ?_
        refine J_top (v' := .int (nI b7)) (congrArg Value.int ((hN.c8 hnx).trans h7)) ?_
        refine J_if_le cx (tgt := 57) dL_fits_39 (by decide) (fun c_2 => ?_) (fun c_2 => ?_)
        · have c_2 := (nat_if_le (by omega)).mp c_2
          refine J_aload_n cx dL_fits_57 rfl 3 rfl ?_
          refine J_iload cx dL_fits_58 2 rfl ?_
          refine J_bipush cx (v := nI 9) dL_fits_60 (by decide) ?_
          refine J_iadd cx dL_fits_62 ?_
          refine J_top (v' := .int (nI ((10 + 14 * nx) + 9))) (congrArg Value.int (nI_add (10 + 14 * nx) 9)) ?_
          refine J_iald cx (j := (10 + 14 * nx + 9)) (f := N) 0 rfl (congrArg nI (by omega)) (by omega) (by decide) dL_fits_63 ?_
          refine J_top (v' := .int (nI b8)) (congrArg Value.int ((hN.c9 hnx).trans h8)) ?_
          refine J_if_le cx (tgt := 84) dL_fits_64 (by decide) (fun c_3 => ?_) (fun c_3 => ?_)
          · have c_3 := (nat_if_le (by omega)).mp c_3
            refine J_iinc cx (v := (nI (k + 1))) (L' := [(5, .int (nI (k + 1))), (6, .int (nI a9)), (4, .int (nI (10 + 14 * nx))), (0, .ref an), (1, .ref wa), (2, .int (nI sz)), (3, .int (nI nx))]) dL_fits_84 1 rfl (by exact nI_add k 1) (by decide) rfl ?_
            refine J_goto cx (tgt := 12) dL_fits_87 (by decide) ?_
            refine J_L [0, 2, 3, 4, 5, 6] rfl ?_
            exact ih (k + 1) (by omega) (allN_t (by rw [okN_nI ha ha2 h7 h72 h8 h82]; simp [hk, hb, c_1, c_1d, c_2, c_3]) hb) (by omega)
          · have c_3 := (nat_if_le_f (by omega)).mp c_3
            have hp8 := Nat.ne_of_gt c_3
            refine J_iload cx dL_fits_67 0 rfl ?_
            refine J_aload_n cx dL_fits_69 rfl 3 rfl ?_
            refine J_iload cx dL_fits_70 2 rfl ?_
            refine J_bipush cx (v := nI 9) dL_fits_72 (by decide) ?_
            refine J_iadd cx dL_fits_74 ?_
            refine J_top (v' := .int (nI ((10 + 14 * nx) + 9))) (congrArg Value.int (nI_add (10 + 14 * nx) 9)) ?_
            refine J_iald cx (j := (10 + 14 * nx + 9)) (f := N) 0 rfl (congrArg nI (by omega)) (by omega) (by decide) dL_fits_75 ?_
            refine J_top (v' := .int (nI b8)) (congrArg Value.int ((hN.c9 hnx).trans h8)) ?_
            refine J_callSi cx kL_105 (As := [.int (nI a9), .int (nI b8)]) (tL_isUnder l D g A (iA g an 700 N :: iA g wa wn (fun i => nI (wy i)) :: wr) 4 a9 b8 (show a9 < 10000 by omega) (by omega) (by omega)) ⟨rfl, rfl, by decide, by decide⟩ ⟨by decide, by decide⟩ rfl rfl (Nat.le_of_ble_eq_true rfl) dL_fits_76 ?_
            intro _ _ hr; cases hr
            refine J_ifz_eq cx (tgt := 84) dL_fits_79 (by decide) (fun c_4 => ?_) (fun c_4 => ?_)
            · refine J_iinc cx (v := (nI (k + 1))) (L' := [(5, .int (nI (k + 1))), (6, .int (nI a9)), (4, .int (nI (10 + 14 * nx))), (0, .ref an), (1, .ref wa), (2, .int (nI sz)), (3, .int (nI nx))]) dL_fits_84 1 rfl (by exact nI_add k 1) (by decide) rfl ?_
              refine J_goto cx (tgt := 12) dL_fits_87 (by decide) ?_
              refine J_L [0, 2, 3, 4, 5, 6] rfl ?_
              exact ih (k + 1) (by omega) (allN_t (by rw [okN_nI ha ha2 h7 h72 h8 h82]; simp [hk, hb, c_1, c_1d, c_2, c_3, hp8, c_4]) hb) (by omega)
            · refine J_iconst cx (v := nI 0) dL_fits_82 (by decide) ?_
              exact J_zret cx rfl (u := ()) (rfl) (by unfold fitsB; rw [allN_f (k := k) (by omega) (by rw [okN_nI ha ha2 h7 h72 h8 h82]; simp [hk, hb, c_1, c_1d, c_2, c_3, hp8, c_4])]; rfl) rfl (Nat.le_of_ble_eq_true rfl) (Nat.le_of_ble_eq_true rfl) dL_fits_83
        · have c_2 := (nat_if_le_f (by omega)).mp c_2
          have hp7 := Nat.ne_of_gt c_2
          refine J_iload cx dL_fits_42 0 rfl ?_
          refine J_aload_n cx dL_fits_44 rfl 3 rfl ?_
          refine J_iload cx dL_fits_45 2 rfl ?_
          refine J_bipush cx (v := nI 8) dL_fits_47 (by decide) ?_
          refine J_iadd cx dL_fits_49 ?_
          refine J_top (v' := .int (nI ((10 + 14 * nx) + 8))) (congrArg Value.int (nI_add (10 + 14 * nx) 8)) ?_
          refine J_iald cx (j := (10 + 14 * nx + 8)) (f := N) 0 rfl (congrArg nI (by omega)) (by omega) (by decide) dL_fits_50 ?_
          refine J_top (v' := .int (nI b7)) (congrArg Value.int ((hN.c8 hnx).trans h7)) ?_
          refine J_callSi cx kL_105 (As := [.int (nI a9), .int (nI b7)]) (tL_isUnder l D g A (iA g an 700 N :: iA g wa wn (fun i => nI (wy i)) :: wr) 4 a9 b7 (show a9 < 10000 by omega) (by omega) (by omega)) ⟨rfl, rfl, by decide, by decide⟩ ⟨by decide, by decide⟩ rfl rfl (Nat.le_of_ble_eq_true rfl) dL_fits_51 ?_
          intro _ _ hr; cases hr
          refine J_ifz_eq cx (tgt := 82) dL_fits_54 (by decide) (fun c_5 => ?_) (fun c_5 => ?_)
          · refine J_iconst cx (v := nI 0) dL_fits_82 (by decide) ?_
            exact J_zret cx rfl (u := ()) (rfl) (by unfold fitsB; rw [allN_f (k := k) (by omega) (by rw [okN_nI ha ha2 h7 h72 h8 h82]; simp [hk, hb, c_1, c_1d, c_2, hp7, c_5])]; rfl) rfl (Nat.le_of_ble_eq_true rfl) (Nat.le_of_ble_eq_true rfl) dL_fits_83
          · refine J_aload_n cx dL_fits_57 rfl 3 rfl ?_
            refine J_iload cx dL_fits_58 2 rfl ?_
            refine J_bipush cx (v := nI 9) dL_fits_60 (by decide) ?_
            refine J_iadd cx dL_fits_62 ?_
            refine J_top (v' := .int (nI ((10 + 14 * nx) + 9))) (congrArg Value.int (nI_add (10 + 14 * nx) 9)) ?_
            refine J_iald cx (j := (10 + 14 * nx + 9)) (f := N) 0 rfl (congrArg nI (by omega)) (by omega) (by decide) dL_fits_63 ?_
            refine J_top (v' := .int (nI b8)) (congrArg Value.int ((hN.c9 hnx).trans h8)) ?_
            refine J_if_le cx (tgt := 84) dL_fits_64 (by decide) (fun c_6 => ?_) (fun c_6 => ?_)
            · have c_6 := (nat_if_le (by omega)).mp c_6
              refine J_iinc cx (v := (nI (k + 1))) (L' := [(5, .int (nI (k + 1))), (6, .int (nI a9)), (4, .int (nI (10 + 14 * nx))), (0, .ref an), (1, .ref wa), (2, .int (nI sz)), (3, .int (nI nx))]) dL_fits_84 1 rfl (by exact nI_add k 1) (by decide) rfl ?_
              refine J_goto cx (tgt := 12) dL_fits_87 (by decide) ?_
              refine J_L [0, 2, 3, 4, 5, 6] rfl ?_
              exact ih (k + 1) (by omega) (allN_t (by rw [okN_nI ha ha2 h7 h72 h8 h82]; simp [hk, hb, c_1, c_1d, c_2, hp7, c_5, c_6]) hb) (by omega)
            · have c_6 := (nat_if_le_f (by omega)).mp c_6
              have hp8 := Nat.ne_of_gt c_6
              refine J_iload cx dL_fits_67 0 rfl ?_
              refine J_aload_n cx dL_fits_69 rfl 3 rfl ?_
              refine J_iload cx dL_fits_70 2 rfl ?_
              refine J_bipush cx (v := nI 9) dL_fits_72 (by decide) ?_
              refine J_iadd cx dL_fits_74 ?_
              refine J_top (v' := .int (nI ((10 + 14 * nx) + 9))) (congrArg Value.int (nI_add (10 + 14 * nx) 9)) ?_
              refine J_iald cx (j := (10 + 14 * nx + 9)) (f := N) 0 rfl (congrArg nI (by omega)) (by omega) (by decide) dL_fits_75 ?_
              refine J_top (v' := .int (nI b8)) (congrArg Value.int ((hN.c9 hnx).trans h8)) ?_
              refine J_callSi cx kL_105 (As := [.int (nI a9), .int (nI b8)]) (tL_isUnder l D g A (iA g an 700 N :: iA g wa wn (fun i => nI (wy i)) :: wr) 4 a9 b8 (show a9 < 10000 by omega) (by omega) (by omega)) ⟨rfl, rfl, by decide, by decide⟩ ⟨by decide, by decide⟩ rfl rfl (Nat.le_of_ble_eq_true rfl) dL_fits_76 ?_
              intro _ _ hr; cases hr
              refine J_ifz_eq cx (tgt := 84) dL_fits_79 (by decide) (fun c_7 => ?_) (fun c_7 => ?_)
              · refine J_iinc cx (v := (nI (k + 1))) (L' := [(5, .int (nI (k + 1))), (6, .int (nI a9)), (4, .int (nI (10 + 14 * nx))), (0, .ref an), (1, .ref wa), (2, .int (nI sz)), (3, .int (nI nx))]) dL_fits_84 1 rfl (by exact nI_add k 1) (by decide) rfl ?_
                refine J_goto cx (tgt := 12) dL_fits_87 (by decide) ?_
                refine J_L [0, 2, 3, 4, 5, 6] rfl ?_
                exact ih (k + 1) (by omega) (allN_t (by rw [okN_nI ha ha2 h7 h72 h8 h82]; simp [hk, hb, c_1, c_1d, c_2, hp7, c_5, c_6, hp8, c_7]) hb) (by omega)
              · refine J_iconst cx (v := nI 0) dL_fits_82 (by decide) ?_
                exact J_zret cx rfl (u := ()) (rfl) (by unfold fitsB; rw [allN_f (k := k) (by omega) (by rw [okN_nI ha ha2 h7 h72 h8 h82]; simp [hk, hb, c_1, c_1d, c_2, hp7, c_5, c_6, hp8, c_7])]; rfl) rfl (Nat.le_of_ble_eq_true rfl) (Nat.le_of_ble_eq_true rfl) dL_fits_83
  refine J_L [0, 1, 2, 3, 4, 5] rfl ?_
  exact LP _ 0 (Nat.zero_le _) rfl (Nat.lt_succ_self _)
set_option maxHeartbeats 4000000 in
set_option maxRecDepth 100000 in
theorem tL_why (l : Launch) (D : va_G) (g : Nat → ClassId) (A : Nat → Prop) (an : Nat) (N : Nat → Int32) (κ : CS) (wr : va_W) (wa wn : Nat) (wy : Nat → Nat) (sz nx : Nat) (on : Int32) (hN : NT N κ) (hI : InvM κ) (hnx : nx < κ.2.2.1 0) (h1 : 1 ≤ sz) (hsz : sz ≤ wn) (hwn : wn < 2147483648) (hw : ∀ z, z < sz → wy z < κ.2.2.1 0) : CtI l D g A yL_why cL_why 7 .int ({ frames := 7, cells := 0, slots := 0, locals := 207 } : Room) [.ref an, .ref wa, .int (nI sz), .int (nI nx), .int on] (iA g an 700 N :: iA g wa wn (fun i => nI (wy i)) :: wr) (nI (refC κ wy sz nx on)) (iA g an 700 N :: iA g wa wn (fun i => nI (wy i)) :: wr) := by
  have hn := hI.1
  refine metJ (by decide) (Nat.le_of_ble_eq_true rfl) ?_
  intro p e s m args below meth c _ _ cx
  refine J_iconst cx (v := nI 0) dL_why_0 (by decide) ?_
  refine J_istore cx (L' := [(5, .int (nI 0)), (0, .ref an), (1, .ref wa), (2, .int (nI sz)), (3, .int (nI nx)), (4, .int on)]) dL_why_1 (by decide) rfl ?_
  refine J_iconst cx (v := nI 0) dL_why_3 (by decide) ?_
  refine J_istore cx (L' := [(6, .int (nI 0)), (5, .int (nI 0)), (0, .ref an), (1, .ref wa), (2, .int (nI sz)), (3, .int (nI nx)), (4, .int on)]) dL_why_4 (by decide) rfl ?_
  have LP : ∀ (fu : Nat) (k : Nat), (k ≤ sz) → sz - k < fu → J p l e ({ frames := 7, cells := 0, slots := 0, locals := 207 } : Room) s m args below meth c D A 7 (MQ below (va_Qi (fun (r : Int32) (_ : Unit) => r = (nI (refC κ wy sz nx on))) (fun _ => PO D A (iA g an 700 N :: iA g wa wn (fun i => nI (wy i)) :: wr)) A) args s 0 0 A) 0 0 (iA g an 700 N :: iA g wa wn (fun i => nI (wy i)) :: wr) [(6, .int (nI k)), (5, .int (zb (anyN (inW wy nx) k))), (0, .ref an), (1, .ref wa), (2, .int (nI sz)), (3, .int (nI nx)), (4, .int on)] 6 [] := by
    intro fu; induction fu with
    | zero => intro k hk hfu; exact absurd hfu (Nat.not_lt_zero _)
    | succ fu ih =>
      intro k hk hfu
      refine J_iload cx dL_why_6 0 rfl ?_
      refine J_iload_n cx dL_why_8 rfl 4 rfl ?_
      refine J_icmp_ge cx (tgt := 36) dL_why_9 (by decide) (fun c_1 => ?_) (fun c_1 => ?_)
      · have c_1 := (nat_ic_ge (by omega) (by omega)).mp c_1
        have c_1d := decide_eq_true c_1
        have hks : k = sz := by omega
        subst hks
        refine J_bipush cx (v := nI 10) dL_why_36 (by decide) ?_
        refine J_bipush cx (v := nI 14) dL_why_38 (by decide) ?_
        refine J_iload_n cx dL_why_40 rfl 5 rfl ?_
        refine J_imul cx dL_why_41 ?_
        refine J_top (v' := .int (nI (14 * nx))) (congrArg Value.int (pk_mul 14 nx)) ?_
        refine J_iadd cx dL_why_42 ?_
        refine J_top (v' := .int (nI (10 + (14 * nx)))) (congrArg Value.int (nI_add 10 (14 * nx))) ?_
        refine J_istore cx (L' := [(6, .int (nI (10 + (14 * nx)))), (5, .int (zb (anyN (inW wy nx) k))), (0, .ref an), (1, .ref wa), (2, .int (nI k)), (3, .int (nI nx)), (4, .int on)]) dL_why_43 (by decide) rfl ?_
        refine J_iload cx dL_why_45 1 rfl ?_
        refine J_ifz_eq cx (tgt := 55) dL_why_47 (by decide) (fun c_2 => ?_) (fun c_2 => ?_)
        · refine J_aload_n cx dL_why_55 rfl 2 rfl ?_
          refine J_iload_n cx dL_why_56 rfl 5 rfl ?_
          refine J_iload cx dL_why_57 6 rfl ?_
          refine J_callSi cx kL_120 (As := [.ref an, .int (nI nx), .int on]) (tL_isValid l D g A an N κ (iA g wa wn (fun i => nI (wy i)) :: wr) nx on hN (by omega) (by omega)) ⟨rfl, rfl, by decide, by decide⟩ ⟨by decide, by decide⟩ rfl rfl (Nat.le_of_ble_eq_true rfl) dL_why_59 ?_
          intro _ _ hr; cases hr
          refine J_ifz_ne cx (tgt := 70) dL_why_62 (by decide) (fun c_3 => ?_) (fun c_3 => ?_)
          · refine J_aload_n cx dL_why_70 rfl 2 rfl ?_
            refine J_iload_n cx dL_why_71 rfl 5 rfl ?_
            refine J_iload cx dL_why_72 6 rfl ?_
            refine J_callSi cx kL_123 (As := [.ref an, .int (nI nx), .int on]) (tL_isOff l D g A an N κ (iA g wa wn (fun i => nI (wy i)) :: wr) nx on hN (by omega) (by omega)) ⟨rfl, rfl, by decide, by decide⟩ ⟨by decide, by decide⟩ rfl rfl (Nat.le_of_ble_eq_true rfl) dL_why_74 ?_
            intro _ _ hr; cases hr
            refine J_ifz_eq cx (tgt := 85) dL_why_77 (by decide) (fun c_4 => ?_) (fun c_4 => ?_)
            · refine J_aload_n cx dL_why_85 rfl 2 rfl ?_
              refine J_iload cx dL_why_86 0 rfl ?_
              refine J_bipush cx (v := nI 6) dL_why_88 (by decide) ?_
              refine J_iadd cx dL_why_90 ?_
              refine J_top (v' := .int (nI ((10 + (14 * nx)) + 6))) (congrArg Value.int (nI_add (10 + (14 * nx)) 6)) ?_
              refine J_iald cx (j := (10 + 14 * nx + 6)) (f := N) 0 rfl (congrArg nI (by omega)) (by omega) (by decide) dL_why_91 ?_
              refine J_top (v' := .int (zb (κ.2.1 0 nx))) (congrArg Value.int (hN.c6 (by omega))) ?_
              refine J_ifz_ne cx (tgt := 100) dL_why_92 (by decide) (fun c_5 => ?_) (fun c_5 => ?_)
              · refine J_aload_n cx dL_why_100 rfl 2 rfl ?_
                refine J_iload cx dL_why_101 0 rfl ?_
                refine J_bipush cx (v := nI 7) dL_why_103 (by decide) ?_
                refine J_iadd cx dL_why_105 ?_
                refine J_top (v' := .int (nI ((10 + (14 * nx)) + 7))) (congrArg Value.int (nI_add (10 + (14 * nx)) 7)) ?_
                refine J_iald cx (j := (10 + 14 * nx + 7)) (f := N) 0 rfl (congrArg nI (by omega)) (by omega) (by decide) dL_why_106 ?_
                refine J_top (v' := .int (κ.1 6 nx)) (congrArg Value.int ((hN.c7 hnx).trans (lenI_t c_5))) ?_
                refine J_iload_n cx dL_why_107 rfl 4 rfl ?_
                refine J_iconst cx (v := nI 1) dL_why_108 (by decide) ?_
                refine J_isub cx dL_why_109 ?_
                refine J_top (v' := .int (nI (k - 1))) (congrArg Value.int (pk_sub (by omega))) ?_
                refine J_icmp_ge cx (tgt := 118) dL_why_110 (by decide) (fun c_6 => ?_) (fun c_6 => ?_)
                · have c_6d := decide_eq_true c_6
                  have c_6c := decide_eq_false (Int32.not_lt.mpr c_6)
                  refine J_aload_n cx dL_why_118 rfl 2 rfl ?_
                  refine J_aload_n cx dL_why_119 rfl 3 rfl ?_
                  refine J_iload_n cx dL_why_120 rfl 4 rfl ?_
                  refine J_iload_n cx dL_why_121 rfl 5 rfl ?_
                  refine J_callSi cx kL_126 (As := [.ref an, .ref wa, .int (nI k), .int (nI nx)]) (tL_fits l D g A an N κ wr wa wn wy k nx hN hI (by omega) (by omega) hwn hw) ⟨rfl, rfl, by decide, by decide⟩ ⟨by decide, by decide⟩ rfl rfl (Nat.le_of_ble_eq_true rfl) dL_why_122 ?_
                  intro _ _ hr; cases hr
                  refine J_ifz_eq cx (tgt := 133) dL_why_125 (by decide) (fun c_7 => ?_) (fun c_7 => ?_)
                  · refine J_bipush cx (v := nI 110) dL_why_133 (by decide) ?_
                    exact J_iret cx rfl (u := ()) (by simp only [refC, Bool.and_true, Bool.true_and, Bool.and_false, Bool.false_and, Bool.or_true, Bool.true_or, Bool.or_false, Bool.false_or, Bool.not_true, Bool.not_false, if_true, if_false, Bool.false_eq_true, decide_true, decide_false, ite_true, ite_false, ne_eq, not_true_eq_false, not_false_eq_true, hk, c_1, c_1d, c_2, c_3, c_4, c_5, c_6, c_6d, c_6c, c_7]; try rfl) rfl (Nat.le_of_ble_eq_true rfl) (Nat.le_of_ble_eq_true rfl) dL_why_135
                  · refine J_bipush cx (v := nI 111) dL_why_128 (by decide) ?_
                    refine J_goto cx (tgt := 135) dL_why_130 (by decide) ?_
                    exact J_iret cx rfl (u := ()) (by simp only [refC, Bool.and_true, Bool.true_and, Bool.and_false, Bool.false_and, Bool.or_true, Bool.true_or, Bool.or_false, Bool.false_or, Bool.not_true, Bool.not_false, if_true, if_false, Bool.false_eq_true, decide_true, decide_false, ite_true, ite_false, ne_eq, not_true_eq_false, not_false_eq_true, hk, c_1, c_1d, c_2, c_3, c_4, c_5, c_6, c_6d, c_6c, c_7]; try rfl) rfl (Nat.le_of_ble_eq_true rfl) (Nat.le_of_ble_eq_true rfl) dL_why_135
                · have c_6d := decide_eq_false c_6
                  have c_6c := decide_eq_true (Int32.not_le.mp c_6)
                  refine J_bipush cx (v := nI 108) dL_why_113 (by decide) ?_
                  refine J_goto cx (tgt := 135) dL_why_115 (by decide) ?_
                  exact J_iret cx rfl (u := ()) (by simp only [refC, Bool.and_true, Bool.true_and, Bool.and_false, Bool.false_and, Bool.or_true, Bool.true_or, Bool.or_false, Bool.false_or, Bool.not_true, Bool.not_false, if_true, if_false, Bool.false_eq_true, decide_true, decide_false, ite_true, ite_false, ne_eq, not_true_eq_false, not_false_eq_true, hk, c_1, c_1d, c_2, c_3, c_4, c_5, c_6, c_6d, c_6c]; try rfl) rfl (Nat.le_of_ble_eq_true rfl) (Nat.le_of_ble_eq_true rfl) dL_why_135
              · refine J_bipush cx (v := nI 97) dL_why_95 (by decide) ?_
                refine J_goto cx (tgt := 135) dL_why_97 (by decide) ?_
                exact J_iret cx rfl (u := ()) (by simp only [refC, Bool.and_true, Bool.true_and, Bool.and_false, Bool.false_and, Bool.or_true, Bool.true_or, Bool.or_false, Bool.false_or, Bool.not_true, Bool.not_false, if_true, if_false, Bool.false_eq_true, decide_true, decide_false, ite_true, ite_false, ne_eq, not_true_eq_false, not_false_eq_true, hk, c_1, c_1d, c_2, c_3, c_4, c_5]; try rfl) rfl (Nat.le_of_ble_eq_true rfl) (Nat.le_of_ble_eq_true rfl) dL_why_135
            · refine J_bipush cx (v := nI 114) dL_why_80 (by decide) ?_
              refine J_goto cx (tgt := 135) dL_why_82 (by decide) ?_
              exact J_iret cx rfl (u := ()) (by simp only [refC, Bool.and_true, Bool.true_and, Bool.and_false, Bool.false_and, Bool.or_true, Bool.true_or, Bool.or_false, Bool.false_or, Bool.not_true, Bool.not_false, if_true, if_false, Bool.false_eq_true, decide_true, decide_false, ite_true, ite_false, ne_eq, not_true_eq_false, not_false_eq_true, hk, c_1, c_1d, c_2, c_3, c_4]; try rfl) rfl (Nat.le_of_ble_eq_true rfl) (Nat.le_of_ble_eq_true rfl) dL_why_135
          · refine J_bipush cx (v := nI 116) dL_why_65 (by decide) ?_
            refine J_goto cx (tgt := 135) dL_why_67 (by decide) ?_
            exact J_iret cx rfl (u := ()) (by simp only [refC, Bool.and_true, Bool.true_and, Bool.and_false, Bool.false_and, Bool.or_true, Bool.true_or, Bool.or_false, Bool.false_or, Bool.not_true, Bool.not_false, if_true, if_false, Bool.false_eq_true, decide_true, decide_false, ite_true, ite_false, ne_eq, not_true_eq_false, not_false_eq_true, hk, c_1, c_1d, c_2, c_3]; try rfl) rfl (Nat.le_of_ble_eq_true rfl) (Nat.le_of_ble_eq_true rfl) dL_why_135
        · refine J_bipush cx (v := nI 120) dL_why_50 (by decide) ?_
          refine J_goto cx (tgt := 135) dL_why_52 (by decide) ?_
          exact J_iret cx rfl (u := ()) (by simp only [refC, Bool.and_true, Bool.true_and, Bool.and_false, Bool.false_and, Bool.or_true, Bool.true_or, Bool.or_false, Bool.false_or, Bool.not_true, Bool.not_false, if_true, if_false, Bool.false_eq_true, decide_true, decide_false, ite_true, ite_false, ne_eq, not_true_eq_false, not_false_eq_true, hk, c_1, c_1d, c_2]; try rfl) rfl (Nat.le_of_ble_eq_true rfl) (Nat.le_of_ble_eq_true rfl) dL_why_135
      · have c_1 := (nat_ic_ge_f (by omega) (by omega)).mp c_1
        have c_1d := decide_eq_false (Nat.not_le.mpr c_1)
        have hwk := hw k (by omega)
        refine J_iload cx dL_why_12 1 rfl ?_
        refine J_aload_n cx dL_why_14 rfl 3 rfl ?_
        refine J_iload cx dL_why_15 0 rfl ?_
        refine J_iald cx (j := k) (f := fun i => nI (wy i)) 1 rfl rfl (by omega) hwn dL_why_17 ?_
        refine J_iload_n cx dL_why_18 rfl 5 rfl ?_
        refine J_icmp_ne cx (tgt := 26) dL_why_19 (by decide) (fun c_8 => ?_) (fun c_8 => ?_)
        · have c_8 := (nat_ic_ne (by omega) (by omega)).mp c_8
          have c_8d := decide_eq_false c_8
          refine J_iconst cx (v := nI 0) dL_why_26 (by decide) ?_
          refine J_ior cx dL_why_27 ?_
          refine J_top (v' := .int (zb ((anyN (inW wy nx) k) || false))) (congrArg Value.int (zb_or (anyN (inW wy nx) k) false)) ?_
          refine J_top (v' := .int (zb (anyN (inW wy nx) (k + 1)))) (congrArg (fun z => Value.int (zb z)) (any_f (by simp [inW, hk, c_1, c_1d, c_8, c_8d]))) ?_
          refine J_istore cx (L' := [(5, .int (zb (anyN (inW wy nx) (k + 1)))), (6, .int (nI k)), (0, .ref an), (1, .ref wa), (2, .int (nI sz)), (3, .int (nI nx)), (4, .int on)]) dL_why_28 (by decide) rfl ?_
          refine J_iinc cx (v := (nI (k + 1))) (L' := [(6, .int (nI (k + 1))), (5, .int (zb (anyN (inW wy nx) (k + 1)))), (0, .ref an), (1, .ref wa), (2, .int (nI sz)), (3, .int (nI nx)), (4, .int on)]) dL_why_30 1 rfl (by exact nI_add k 1) (by decide) rfl ?_
          refine J_goto cx (tgt := 6) dL_why_33 (by decide) ?_
          refine J_L [0, 1, 2, 3, 4, 5, 6] rfl ?_
          exact ih (k + 1) (by omega) (by omega)
        · have c_8 := (nat_ic_ne_f (by omega) (by omega)).mp c_8
          have c_8d := decide_eq_true c_8
          refine J_iconst cx (v := nI 1) dL_why_22 (by decide) ?_
          refine J_goto cx (tgt := 27) dL_why_23 (by decide) ?_
          refine J_ior cx dL_why_27 ?_
          refine J_top (v' := .int (zb ((anyN (inW wy nx) k) || true))) (congrArg Value.int (zb_or (anyN (inW wy nx) k) true)) ?_
          refine J_top (v' := .int (zb (anyN (inW wy nx) (k + 1)))) (congrArg (fun z => Value.int (zb z)) (any_t (by simp [inW, hk, c_1, c_1d, c_8d]))) ?_
          refine J_istore cx (L' := [(5, .int (zb (anyN (inW wy nx) (k + 1)))), (6, .int (nI k)), (0, .ref an), (1, .ref wa), (2, .int (nI sz)), (3, .int (nI nx)), (4, .int on)]) dL_why_28 (by decide) rfl ?_
          refine J_iinc cx (v := (nI (k + 1))) (L' := [(6, .int (nI (k + 1))), (5, .int (zb (anyN (inW wy nx) (k + 1)))), (0, .ref an), (1, .ref wa), (2, .int (nI sz)), (3, .int (nI nx)), (4, .int on)]) dL_why_30 1 rfl (by exact nI_add k 1) (by decide) rfl ?_
          refine J_goto cx (tgt := 6) dL_why_33 (by decide) ?_
          refine J_L [0, 1, 2, 3, 4, 5, 6] rfl ?_
          exact ih (k + 1) (by omega) (by omega)
  refine J_L [0, 1, 2, 3, 4, 5, 6] rfl ?_
  exact LP _ 0 (Nat.zero_le _) (Nat.lt_succ_self _)
