set_option maxHeartbeats 4000000 in
set_option maxRecDepth 100000 in
theorem tL_ranked (l : Launch) (D : va_G) (g : Nat → ClassId) (A : Nat → Prop) (an : Nat) (N : Nat → Int32) (κ : CS) (wr : va_W) (i rk : Nat) (hN : NT N κ) (hi : i < κ.2.2.1 0) (hr : rk < 100) (hn : κ.2.2.1 0 ≤ 40) : CtI l D g A yL_ranked cL_ranked 5 .int ({ frames := 1, cells := 0, slots := 0, locals := 22 } : Room) [.ref an, .int (nI i), .int (nI rk)] (iA g an 700 N :: wr) (rkI κ i rk) (iA g an 700 N :: wr) := by
  refine metJ (by decide) (Nat.le_of_ble_eq_true rfl) ?_
  intro p e s m args below meth c _ _ cx
  refine J_iload_n cx dL_ranked_0 rfl 2 rfl ?_
  refine J_istore_n cx (L' := [(3, .int (nI rk)), (0, .ref an), (1, .int (nI i)), (2, .int (nI rk))]) dL_ranked_1 rfl (by decide) rfl ?_
  refine J_iconst cx (v := nI 0) dL_ranked_2 (by decide) ?_
  refine J_istore cx (L' := [(4, .int (nI 0)), (3, .int (nI rk)), (0, .ref an), (1, .int (nI i)), (2, .int (nI rk))]) dL_ranked_3 (by decide) rfl ?_
  have LP : ∀ (fu : Nat) (k : Nat), (k ≤ κ.2.2.1 0) → (cnt (candB κ i) k ≤ rk) → κ.2.2.1 0 - k < fu → J p l e ({ frames := 1, cells := 0, slots := 0, locals := 22 } : Room) s m args below meth c D A 5 (MQ below (va_Qi (fun (r : Int32) (_ : Unit) => r = (rkI κ i rk)) (fun _ => PO D A (iA g an 700 N :: wr)) A) args s 0 0 A) 0 0 (iA g an 700 N :: wr) [(4, .int (nI k)), (3, .int (nI (rk - cnt (candB κ i) k))), (0, .ref an), (1, .int (nI i)), (2, .int (nI rk))] 5 [] := by
    intro fu; induction fu with
    | zero => intro k hk hcr hfu; exact absurd hfu (Nat.not_lt_zero _)
    | succ fu ih =>
      intro k hk hcr hfu
      refine J_iload cx dL_ranked_5 0 rfl ?_
      refine J_aload_n cx dL_ranked_7 rfl 2 rfl ?_
      refine J_iconst cx (v := nI 0) dL_ranked_8 (by decide) ?_
      refine J_iald cx (j := 0) (f := N) 0 rfl rfl (by omega) (by decide) dL_ranked_9 ?_
      refine J_top (v' := .int (nI (κ.2.2.1 0))) (congrArg Value.int hN.n0) ?_
      refine J_icmp_ge cx (tgt := 44) dL_ranked_10 (by decide) (fun c_1 => ?_) (fun c_1 => ?_)
      · have c_1 := (nat_ic_ge (by omega) (by omega)).mp c_1
        have c_1d := decide_eq_true c_1
        refine J_iconst cx (v := (-1)) dL_ranked_44 (by decide) ?_
        exact J_iret cx rfl (u := ()) (rk_none hn hr (by rw [show κ.2.2.1 0 = k from by omega]; exact hcr)).symm rfl (Nat.le_of_ble_eq_true rfl) (Nat.le_of_ble_eq_true rfl) dL_ranked_45
      · have c_1 := (nat_ic_ge_f (by omega) (by omega)).mp c_1
        have c_1d := decide_eq_false (Nat.not_le.mpr c_1)
        refine J_iload_n cx dL_ranked_13 rfl 1 rfl ?_
        refine J_aload_n cx dL_ranked_14 rfl 2 rfl ?_
        refine J_iload_n cx dL_ranked_15 rfl 3 rfl ?_
        refine J_iload cx dL_ranked_16 0 rfl ?_
        refine J_callSi cx kL_116 (As := [.ref an, .int (nI i), .int (nI k)]) (tL_isNext l D g A an N κ wr i k hN (by omega) (by omega) (by omega)) ⟨rfl, rfl, by decide, by decide⟩ ⟨by decide, by decide⟩ rfl rfl (Nat.le_of_ble_eq_true rfl) dL_ranked_18 ?_
        intro _ _ hr; cases hr
        refine J_ifz_eq cx (tgt := 28) dL_ranked_21 (by decide) (fun c_2 => ?_) (fun c_2 => ?_)
        · refine J_iconst cx (v := nI 0) dL_ranked_28 (by decide) ?_
          refine J_isub cx dL_ranked_29 ?_
          refine J_top (v' := .int (nI (rk - cnt (candB κ i) (k + 1)))) (congrArg Value.int (by rw [← cnt_f c_2]; exact pk_sub (Nat.zero_le _))) ?_
          have hcf : cnt (candB κ i) (k + 1) = cnt (candB κ i) k := (cnt_f c_2).symm
          refine J_istore_n cx (L' := [(3, .int (nI (rk - cnt (candB κ i) (k + 1)))), (4, .int (nI k)), (0, .ref an), (1, .int (nI i)), (2, .int (nI rk))]) dL_ranked_30 rfl (by decide) rfl ?_
          refine J_iload_n cx dL_ranked_31 rfl 0 rfl ?_
          refine J_if_ge cx (tgt := 38) dL_ranked_32 (by decide) (fun _ => ?_) (fun h => absurd (nI_pos' (by omega)) h)
          refine J_iinc cx (v := (nI (k + 1))) (L' := [(4, .int (nI (k + 1))), (3, .int (nI (rk - cnt (candB κ i) (k + 1)))), (0, .ref an), (1, .int (nI i)), (2, .int (nI rk))]) dL_ranked_38 1 rfl (by exact nI_add k 1) (by decide) rfl ?_
          refine J_goto cx (tgt := 5) dL_ranked_41 (by decide) ?_
          refine J_L [0, 1, 2, 3, 4] rfl ?_
          exact ih (k + 1) (by omega) (by omega) (by omega)
        · refine J_iconst cx (v := nI 1) dL_ranked_24 (by decide) ?_
          refine J_goto cx (tgt := 29) dL_ranked_25 (by decide) ?_
          refine J_isub cx dL_ranked_29 ?_
          have hct : cnt (candB κ i) (k + 1) = cnt (candB κ i) k + 1 := (cnt_t c_2).symm
          rcases Nat.eq_or_lt_of_le hcr with hq | hq
          · refine J_top (v' := .int (-1)) (congrArg Value.int (by rw [show rk - cnt (candB κ i) k = 0 from by omega]; decide)) ?_
            refine J_istore_n cx (L' := [(3, .int (-1)), (4, .int (nI k)), (0, .ref an), (1, .int (nI i)), (2, .int (nI rk))]) dL_ranked_30 rfl (by decide) rfl ?_
            refine J_iload_n cx dL_ranked_31 rfl 0 rfl ?_
            refine J_if_ge cx (tgt := 38) dL_ranked_32 (by decide) (fun h => absurd h (by decide)) (fun _ => ?_)
            refine J_iload cx dL_ranked_35 1 rfl ?_
            exact J_iret cx rfl (u := ()) (rk_hit hn hr (by omega) c_2 hq).symm rfl (Nat.le_of_ble_eq_true rfl) (Nat.le_of_ble_eq_true rfl) dL_ranked_37
          · refine J_top (v' := .int (nI (rk - cnt (candB κ i) (k + 1)))) (congrArg Value.int (by rw [hct, pk_sub (by omega)]; congr 1)) ?_
            refine J_istore_n cx (L' := [(3, .int (nI (rk - cnt (candB κ i) (k + 1)))), (4, .int (nI k)), (0, .ref an), (1, .int (nI i)), (2, .int (nI rk))]) dL_ranked_30 rfl (by decide) rfl ?_
            refine J_iload_n cx dL_ranked_31 rfl 0 rfl ?_
            refine J_if_ge cx (tgt := 38) dL_ranked_32 (by decide) (fun _ => ?_) (fun h => absurd (nI_pos' (by omega)) h)
            refine J_iinc cx (v := (nI (k + 1))) (L' := [(4, .int (nI (k + 1))), (3, .int (nI (rk - cnt (candB κ i) (k + 1)))), (0, .ref an), (1, .int (nI i)), (2, .int (nI rk))]) dL_ranked_38 1 rfl (by exact nI_add k 1) (by decide) rfl ?_
            refine J_goto cx (tgt := 5) dL_ranked_41 (by decide) ?_
            refine J_L [0, 1, 2, 3, 4] rfl ?_
            exact ih (k + 1) (by omega) (by omega) (by omega)
  refine J_L [0, 1, 2, 3, 4] rfl ?_
  exact LP _ 0 (by omega) (Nat.zero_le _) (Nat.lt_succ_self _)
set_option maxHeartbeats 4000000 in
set_option maxRecDepth 100000 in
theorem tL_makes (l : Launch) (D : va_G) (g : Nat → ClassId) (A : Nat → Prop) (an : Nat) (N : Nat → Int32) (wr : va_W) (n : Nat) (nm ky bn bk ds ln : Int32) (h0 : N 0 = nI n) (hn4 : n < 40) : CtI l D g A yL_makes cL_makes 8 .int ({ frames := 0, cells := 0, slots := 0, locals := 0 } : Room) [.ref an, .int nm, .int ky, .int bn, .int bk, .int ds, .int ln] (iA g an 700 N :: wr) (nI n) (iA g an 700 (mkN N n nm ky bn bk ds ln) :: wr) := by
  refine metJ (by decide) (Nat.le_of_ble_eq_true rfl) ?_
  intro p e s m args below meth c _ _ cx
  refine J_bipush cx (v := nI 10) dL_makes_0 (by decide) ?_
  refine J_bipush cx (v := nI 14) dL_makes_2 (by decide) ?_
  refine J_aload_n cx dL_makes_4 rfl 0 rfl ?_
  refine J_iconst cx (v := nI 0) dL_makes_5 (by decide) ?_
  refine J_iald cx (j := 0) (f := N) 0 rfl rfl (by omega) (by decide) dL_makes_6 ?_
  refine J_top (v' := .int (nI n)) (congrArg Value.int h0) ?_
  refine J_imul cx dL_makes_7 ?_
  refine J_top (v' := .int (nI (14 * n))) (congrArg Value.int (pk_mul 14 n)) ?_
  refine J_iadd cx dL_makes_8 ?_
  refine J_top (v' := .int (nI (10 + (14 * n)))) (congrArg Value.int (nI_add 10 (14 * n))) ?_
  refine J_istore cx (L' := [(7, .int (nI (10 + (14 * n)))), (0, .ref an), (1, .int nm), (2, .int ky), (3, .int bn), (4, .int bk), (5, .int ds), (6, .int ln)]) dL_makes_9 (by decide) rfl ?_
  refine J_aload_n cx dL_makes_11 rfl 1 rfl ?_
  refine J_iload cx dL_makes_12 0 rfl ?_
  refine J_iload_n cx dL_makes_14 rfl 2 rfl ?_
  refine J_iast cx (ws' := (iA g an 700 (upd N (10 + 14 * n) nm) :: wr)) (j := (10 + 14 * n)) 0 rfl (congrArg nI (by omega)) (by omega) (by decide) rfl dL_makes_15 ?_
  refine J_aload_n cx dL_makes_16 rfl 1 rfl ?_
  refine J_iload cx dL_makes_17 0 rfl ?_
  refine J_iconst cx (v := nI 1) dL_makes_19 (by decide) ?_
  refine J_iadd cx dL_makes_20 ?_
  refine J_top (v' := .int (nI ((10 + (14 * n)) + 1))) (congrArg Value.int (nI_add (10 + (14 * n)) 1)) ?_
  refine J_iload_n cx dL_makes_21 rfl 3 rfl ?_
  refine J_iast cx (ws' := (iA g an 700 (upd (upd N (10 + 14 * n) nm) (10 + 14 * n + 1) ky) :: wr)) (j := (10 + 14 * n + 1)) 0 rfl (congrArg nI (by omega)) (by omega) (by decide) rfl dL_makes_22 ?_
  refine J_aload_n cx dL_makes_23 rfl 1 rfl ?_
  refine J_iload cx dL_makes_24 0 rfl ?_
  refine J_iconst cx (v := nI 2) dL_makes_26 (by decide) ?_
  refine J_iadd cx dL_makes_27 ?_
  refine J_top (v' := .int (nI ((10 + (14 * n)) + 2))) (congrArg Value.int (nI_add (10 + (14 * n)) 2)) ?_
  refine J_iload_n cx dL_makes_28 rfl 4 rfl ?_
  refine J_iast cx (ws' := (iA g an 700 (upd (upd (upd N (10 + 14 * n) nm) (10 + 14 * n + 1) ky) (10 + 14 * n + 2) bn) :: wr)) (j := (10 + 14 * n + 2)) 0 rfl (congrArg nI (by omega)) (by omega) (by decide) rfl dL_makes_29 ?_
  refine J_aload_n cx dL_makes_30 rfl 1 rfl ?_
  refine J_iload cx dL_makes_31 0 rfl ?_
  refine J_iconst cx (v := nI 3) dL_makes_33 (by decide) ?_
  refine J_iadd cx dL_makes_34 ?_
  refine J_top (v' := .int (nI ((10 + (14 * n)) + 3))) (congrArg Value.int (nI_add (10 + (14 * n)) 3)) ?_
  refine J_iload cx dL_makes_35 5 rfl ?_
  refine J_iast cx (ws' := (iA g an 700 (upd (upd (upd (upd N (10 + 14 * n) nm) (10 + 14 * n + 1) ky) (10 + 14 * n + 2) bn) (10 + 14 * n + 3) bk) :: wr)) (j := (10 + 14 * n + 3)) 0 rfl (congrArg nI (by omega)) (by omega) (by decide) rfl dL_makes_37 ?_
  refine J_aload_n cx dL_makes_38 rfl 1 rfl ?_
  refine J_iload cx dL_makes_39 0 rfl ?_
  refine J_iconst cx (v := nI 4) dL_makes_41 (by decide) ?_
  refine J_iadd cx dL_makes_42 ?_
  refine J_top (v' := .int (nI ((10 + (14 * n)) + 4))) (congrArg Value.int (nI_add (10 + (14 * n)) 4)) ?_
  refine J_aload_n cx dL_makes_43 rfl 1 rfl ?_
  refine J_iconst cx (v := nI 2) dL_makes_44 (by decide) ?_
  refine J_iald cx (j := 2) (f := upd (upd (upd (upd N (10 + 14 * n) nm) (10 + 14 * n + 1) ky) (10 + 14 * n + 2) bn) (10 + 14 * n + 3) bk) 0 rfl rfl (by omega) (by decide) dL_makes_45 ?_
  refine J_top (v' := .int (N 2)) (congrArg Value.int ((pk_un (by omega)).trans ((pk_un (by omega)).trans ((pk_un (by omega)).trans (pk_un (by omega)))))) ?_
  refine J_iast cx (ws' := (iA g an 700 (upd (upd (upd (upd (upd N (10 + 14 * n) nm) (10 + 14 * n + 1) ky) (10 + 14 * n + 2) bn) (10 + 14 * n + 3) bk) (10 + 14 * n + 4) (N 2)) :: wr)) (j := (10 + 14 * n + 4)) 0 rfl (congrArg nI (by omega)) (by omega) (by decide) rfl dL_makes_46 ?_
  refine J_aload_n cx dL_makes_47 rfl 1 rfl ?_
  refine J_iload cx dL_makes_48 0 rfl ?_
  refine J_iconst cx (v := nI 5) dL_makes_50 (by decide) ?_
  refine J_iadd cx dL_makes_51 ?_
  refine J_top (v' := .int (nI ((10 + (14 * n)) + 5))) (congrArg Value.int (nI_add (10 + (14 * n)) 5)) ?_
  refine J_aload_n cx dL_makes_52 rfl 1 rfl ?_
  refine J_iconst cx (v := nI 2) dL_makes_53 (by decide) ?_
  refine J_iald cx (j := 2) (f := upd (upd (upd (upd (upd N (10 + 14 * n) nm) (10 + 14 * n + 1) ky) (10 + 14 * n + 2) bn) (10 + 14 * n + 3) bk) (10 + 14 * n + 4) (N 2)) 0 rfl rfl (by omega) (by decide) dL_makes_54 ?_
  refine J_top (v' := .int (N 2)) (congrArg Value.int ((pk_un (by omega)).trans ((pk_un (by omega)).trans ((pk_un (by omega)).trans ((pk_un (by omega)).trans (pk_un (by omega))))))) ?_
  refine J_iload cx dL_makes_55 6 rfl ?_
  refine J_iadd cx dL_makes_57 ?_
  refine J_iconst cx (v := nI 1) dL_makes_58 (by decide) ?_
  refine J_isub cx dL_makes_59 ?_
  refine J_iast cx (ws' := (iA g an 700 (upd (upd (upd (upd (upd (upd N (10 + 14 * n) nm) (10 + 14 * n + 1) ky) (10 + 14 * n + 2) bn) (10 + 14 * n + 3) bk) (10 + 14 * n + 4) (N 2)) (10 + 14 * n + 5) (((N 2) + ds) - (nI 1))) :: wr)) (j := (10 + 14 * n + 5)) 0 rfl (congrArg nI (by omega)) (by omega) (by decide) rfl dL_makes_60 ?_
  refine J_aload_n cx dL_makes_61 rfl 1 rfl ?_
  refine J_iload cx dL_makes_62 0 rfl ?_
  refine J_bipush cx (v := nI 6) dL_makes_64 (by decide) ?_
  refine J_iadd cx dL_makes_66 ?_
  refine J_top (v' := .int (nI ((10 + (14 * n)) + 6))) (congrArg Value.int (nI_add (10 + (14 * n)) 6)) ?_
  refine J_iload cx dL_makes_67 7 rfl ?_
  refine J_if_ge cx (tgt := 76) dL_makes_69 (by decide) (fun c_1 => ?_) (fun c_1 => ?_)
  · have c_1d := decide_eq_true c_1
    have c_1c := decide_eq_false (Int32.not_lt.mpr c_1)
    have c_1 : ¬ ln < 0 := Int32.not_lt.mpr c_1
    refine J_iconst cx (v := nI 1) dL_makes_76 (by decide) ?_
    refine J_iast cx (ws' := (iA g an 700 (upd (upd (upd (upd (upd (upd (upd N (10 + 14 * n) nm) (10 + 14 * n + 1) ky) (10 + 14 * n + 2) bn) (10 + 14 * n + 3) bk) (10 + 14 * n + 4) (N 2)) (10 + 14 * n + 5) (((N 2) + ds) - (nI 1))) (10 + 14 * n + 6) (nI 1)) :: wr)) (j := (10 + 14 * n + 6)) 0 rfl (congrArg nI (by omega)) (by omega) (by decide) rfl dL_makes_77 ?_
    refine J_aload_n cx dL_makes_78 rfl 1 rfl ?_
    refine J_iload cx dL_makes_79 0 rfl ?_
    refine J_bipush cx (v := nI 7) dL_makes_81 (by decide) ?_
    refine J_iadd cx dL_makes_83 ?_
    refine J_top (v' := .int (nI ((10 + (14 * n)) + 7))) (congrArg Value.int (nI_add (10 + (14 * n)) 7)) ?_
    refine J_iload cx dL_makes_84 7 rfl ?_
    refine J_iast cx (ws' := (iA g an 700 (upd (upd (upd (upd (upd (upd (upd (upd N (10 + 14 * n) nm) (10 + 14 * n + 1) ky) (10 + 14 * n + 2) bn) (10 + 14 * n + 3) bk) (10 + 14 * n + 4) (N 2)) (10 + 14 * n + 5) (((N 2) + ds) - (nI 1))) (10 + 14 * n + 6) (nI 1)) (10 + 14 * n + 7) ln) :: wr)) (j := (10 + 14 * n + 7)) 0 rfl (congrArg nI (by omega)) (by omega) (by decide) rfl dL_makes_86 ?_
    refine J_aload_n cx dL_makes_87 rfl 1 rfl ?_
    refine J_iload cx dL_makes_88 0 rfl ?_
    refine J_bipush cx (v := nI 10) dL_makes_90 (by decide) ?_
    refine J_iadd cx dL_makes_92 ?_
    refine J_top (v' := .int (nI ((10 + (14 * n)) + 10))) (congrArg Value.int (nI_add (10 + (14 * n)) 10)) ?_
    refine J_iconst cx (v := (-1)) dL_makes_93 (by decide) ?_
    refine J_iast cx (ws' := (iA g an 700 (upd (upd (upd (upd (upd (upd (upd (upd (upd N (10 + 14 * n) nm) (10 + 14 * n + 1) ky) (10 + 14 * n + 2) bn) (10 + 14 * n + 3) bk) (10 + 14 * n + 4) (N 2)) (10 + 14 * n + 5) (((N 2) + ds) - (nI 1))) (10 + 14 * n + 6) (nI 1)) (10 + 14 * n + 7) ln) (10 + 14 * n + 10) (-1)) :: wr)) (j := (10 + 14 * n + 10)) 0 rfl (congrArg nI (by omega)) (by omega) (by decide) rfl dL_makes_94 ?_
    refine J_aload_n cx dL_makes_95 rfl 1 rfl ?_
    refine J_iconst cx (v := nI 0) dL_makes_96 (by decide) ?_
    refine J_dup2 cx dL_makes_97 rfl rfl ?_
    refine J_iald cx (j := 0) (f := upd (upd (upd (upd (upd (upd (upd (upd (upd N (10 + 14 * n) nm) (10 + 14 * n + 1) ky) (10 + 14 * n + 2) bn) (10 + 14 * n + 3) bk) (10 + 14 * n + 4) (N 2)) (10 + 14 * n + 5) (((N 2) + ds) - (nI 1))) (10 + 14 * n + 6) (nI 1)) (10 + 14 * n + 7) ln) (10 + 14 * n + 10) (-1)) 0 rfl rfl (by omega) (by decide) dL_makes_98 ?_
    refine J_top (v' := .int (nI n)) (congrArg Value.int ((pk_un (by omega)).trans ((pk_un (by omega)).trans ((pk_un (by omega)).trans ((pk_un (by omega)).trans ((pk_un (by omega)).trans ((pk_un (by omega)).trans ((pk_un (by omega)).trans ((pk_un (by omega)).trans ((pk_un (by omega)).trans h0)))))))))) ?_
    refine J_iconst cx (v := nI 1) dL_makes_99 (by decide) ?_
    refine J_iadd cx dL_makes_100 ?_
    refine J_top (v' := .int (nI (n + 1))) (congrArg Value.int (nI_add n 1)) ?_
    refine J_iast cx (ws' := (iA g an 700 (upd (upd (upd (upd (upd (upd (upd (upd (upd (upd N (10 + 14 * n) nm) (10 + 14 * n + 1) ky) (10 + 14 * n + 2) bn) (10 + 14 * n + 3) bk) (10 + 14 * n + 4) (N 2)) (10 + 14 * n + 5) (((N 2) + ds) - (nI 1))) (10 + 14 * n + 6) (nI 1)) (10 + 14 * n + 7) ln) (10 + 14 * n + 10) (-1)) 0 (nI (n + 1))) :: wr)) (j := 0) 0 rfl rfl (by omega) (by decide) rfl dL_makes_101 ?_
    refine J_aload_n cx dL_makes_102 rfl 1 rfl ?_
    refine J_iconst cx (v := nI 0) dL_makes_103 (by decide) ?_
    refine J_iald cx (j := 0) (f := upd (upd (upd (upd (upd (upd (upd (upd (upd (upd N (10 + 14 * n) nm) (10 + 14 * n + 1) ky) (10 + 14 * n + 2) bn) (10 + 14 * n + 3) bk) (10 + 14 * n + 4) (N 2)) (10 + 14 * n + 5) (((N 2) + ds) - (nI 1))) (10 + 14 * n + 6) (nI 1)) (10 + 14 * n + 7) ln) (10 + 14 * n + 10) (-1)) 0 (nI (n + 1))) 0 rfl rfl (by omega) (by decide) dL_makes_104 ?_
    refine J_top (v' := .int (nI (n + 1))) (congrArg Value.int up_eq) ?_
    refine J_iconst cx (v := nI 1) dL_makes_105 (by decide) ?_
    refine J_isub cx dL_makes_106 ?_
    refine J_top (v' := .int (nI ((n + 1) - 1))) (congrArg Value.int (pk_sub (by omega))) ?_
    exact J_iret cx rfl (u := ()) rfl (by unfold mkN; rw [if_neg c_1]) (Nat.le_of_ble_eq_true rfl) (Nat.le_of_ble_eq_true rfl) dL_makes_107
  · have c_1d := decide_eq_false c_1
    have c_1c := decide_eq_true (Int32.not_le.mp c_1)
    have c_1 : ln < 0 := Int32.not_le.mp c_1
    refine J_iconst cx (v := nI 0) dL_makes_72 (by decide) ?_
    refine J_goto cx (tgt := 77) dL_makes_73 (by decide) ?_
    refine J_iast cx (ws' := (iA g an 700 (upd (upd (upd (upd (upd (upd (upd N (10 + 14 * n) nm) (10 + 14 * n + 1) ky) (10 + 14 * n + 2) bn) (10 + 14 * n + 3) bk) (10 + 14 * n + 4) (N 2)) (10 + 14 * n + 5) (((N 2) + ds) - (nI 1))) (10 + 14 * n + 6) (nI 0)) :: wr)) (j := (10 + 14 * n + 6)) 0 rfl (congrArg nI (by omega)) (by omega) (by decide) rfl dL_makes_77 ?_
    refine J_aload_n cx dL_makes_78 rfl 1 rfl ?_
    refine J_iload cx dL_makes_79 0 rfl ?_
    refine J_bipush cx (v := nI 7) dL_makes_81 (by decide) ?_
    refine J_iadd cx dL_makes_83 ?_
    refine J_top (v' := .int (nI ((10 + (14 * n)) + 7))) (congrArg Value.int (nI_add (10 + (14 * n)) 7)) ?_
    refine J_iload cx dL_makes_84 7 rfl ?_
    refine J_iast cx (ws' := (iA g an 700 (upd (upd (upd (upd (upd (upd (upd (upd N (10 + 14 * n) nm) (10 + 14 * n + 1) ky) (10 + 14 * n + 2) bn) (10 + 14 * n + 3) bk) (10 + 14 * n + 4) (N 2)) (10 + 14 * n + 5) (((N 2) + ds) - (nI 1))) (10 + 14 * n + 6) (nI 0)) (10 + 14 * n + 7) ln) :: wr)) (j := (10 + 14 * n + 7)) 0 rfl (congrArg nI (by omega)) (by omega) (by decide) rfl dL_makes_86 ?_
    refine J_aload_n cx dL_makes_87 rfl 1 rfl ?_
    refine J_iload cx dL_makes_88 0 rfl ?_
    refine J_bipush cx (v := nI 10) dL_makes_90 (by decide) ?_
    refine J_iadd cx dL_makes_92 ?_
    refine J_top (v' := .int (nI ((10 + (14 * n)) + 10))) (congrArg Value.int (nI_add (10 + (14 * n)) 10)) ?_
    refine J_iconst cx (v := (-1)) dL_makes_93 (by decide) ?_
    refine J_iast cx (ws' := (iA g an 700 (upd (upd (upd (upd (upd (upd (upd (upd (upd N (10 + 14 * n) nm) (10 + 14 * n + 1) ky) (10 + 14 * n + 2) bn) (10 + 14 * n + 3) bk) (10 + 14 * n + 4) (N 2)) (10 + 14 * n + 5) (((N 2) + ds) - (nI 1))) (10 + 14 * n + 6) (nI 0)) (10 + 14 * n + 7) ln) (10 + 14 * n + 10) (-1)) :: wr)) (j := (10 + 14 * n + 10)) 0 rfl (congrArg nI (by omega)) (by omega) (by decide) rfl dL_makes_94 ?_
    refine J_aload_n cx dL_makes_95 rfl 1 rfl ?_
    refine J_iconst cx (v := nI 0) dL_makes_96 (by decide) ?_
    refine J_dup2 cx dL_makes_97 rfl rfl ?_
    refine J_iald cx (j := 0) (f := upd (upd (upd (upd (upd (upd (upd (upd (upd N (10 + 14 * n) nm) (10 + 14 * n + 1) ky) (10 + 14 * n + 2) bn) (10 + 14 * n + 3) bk) (10 + 14 * n + 4) (N 2)) (10 + 14 * n + 5) (((N 2) + ds) - (nI 1))) (10 + 14 * n + 6) (nI 0)) (10 + 14 * n + 7) ln) (10 + 14 * n + 10) (-1)) 0 rfl rfl (by omega) (by decide) dL_makes_98 ?_
    refine J_top (v' := .int (nI n)) (congrArg Value.int ((pk_un (by omega)).trans ((pk_un (by omega)).trans ((pk_un (by omega)).trans ((pk_un (by omega)).trans ((pk_un (by omega)).trans ((pk_un (by omega)).trans ((pk_un (by omega)).trans ((pk_un (by omega)).trans ((pk_un (by omega)).trans h0)))))))))) ?_
    refine J_iconst cx (v := nI 1) dL_makes_99 (by decide) ?_
    refine J_iadd cx dL_makes_100 ?_
    refine J_top (v' := .int (nI (n + 1))) (congrArg Value.int (nI_add n 1)) ?_
    refine J_iast cx (ws' := (iA g an 700 (upd (upd (upd (upd (upd (upd (upd (upd (upd (upd N (10 + 14 * n) nm) (10 + 14 * n + 1) ky) (10 + 14 * n + 2) bn) (10 + 14 * n + 3) bk) (10 + 14 * n + 4) (N 2)) (10 + 14 * n + 5) (((N 2) + ds) - (nI 1))) (10 + 14 * n + 6) (nI 0)) (10 + 14 * n + 7) ln) (10 + 14 * n + 10) (-1)) 0 (nI (n + 1))) :: wr)) (j := 0) 0 rfl rfl (by omega) (by decide) rfl dL_makes_101 ?_
    refine J_aload_n cx dL_makes_102 rfl 1 rfl ?_
    refine J_iconst cx (v := nI 0) dL_makes_103 (by decide) ?_
    refine J_iald cx (j := 0) (f := upd (upd (upd (upd (upd (upd (upd (upd (upd (upd N (10 + 14 * n) nm) (10 + 14 * n + 1) ky) (10 + 14 * n + 2) bn) (10 + 14 * n + 3) bk) (10 + 14 * n + 4) (N 2)) (10 + 14 * n + 5) (((N 2) + ds) - (nI 1))) (10 + 14 * n + 6) (nI 0)) (10 + 14 * n + 7) ln) (10 + 14 * n + 10) (-1)) 0 (nI (n + 1))) 0 rfl rfl (by omega) (by decide) dL_makes_104 ?_
    refine J_top (v' := .int (nI (n + 1))) (congrArg Value.int up_eq) ?_
    refine J_iconst cx (v := nI 1) dL_makes_105 (by decide) ?_
    refine J_isub cx dL_makes_106 ?_
    refine J_top (v' := .int (nI ((n + 1) - 1))) (congrArg Value.int (pk_sub (by omega))) ?_
    exact J_iret cx rfl (u := ()) rfl (by unfold mkN; rw [if_pos c_1]) (Nat.le_of_ble_eq_true rfl) (Nat.le_of_ble_eq_true rfl) dL_makes_107
set_option maxHeartbeats 4000000 in
set_option maxRecDepth 100000 in
theorem tL_root (l : Launch) (D : va_G) (g : Nat → ClassId) (A : Nat → Prop) (an : Nat) (N : Nat → Int32) (wr : va_W) (n k : Nat) (nm ds ln : Int32) (h0 : N 0 = nI n) (h1 : N 1 = nI k) (hn4 : n < 40) : CtI l D g A yL_root cL_root 5 .int ({ frames := 1, cells := 0, slots := 0, locals := 27 } : Room) [.ref an, .int nm, .int ds, .int ln] (iA g an 700 N :: wr) (nI n) (iA g an 700 (rtN N n k nm ds ln) :: wr) := by
  refine metJ (by decide) (Nat.le_of_ble_eq_true rfl) ?_
  intro p e s m args below meth c _ _ cx
  refine J_aload_n cx dL_root_0 rfl 0 rfl ?_
  refine J_iconst cx (v := nI 1) dL_root_1 (by decide) ?_
  refine J_dup2 cx dL_root_2 rfl rfl ?_
  refine J_iald cx (j := 1) (f := N) 0 rfl rfl (by omega) (by decide) dL_root_3 ?_
  refine J_top (v' := .int (nI k)) (congrArg Value.int h1) ?_
  refine J_iconst cx (v := nI 1) dL_root_4 (by decide) ?_
  refine J_iadd cx dL_root_5 ?_
  refine J_top (v' := .int (nI (k + 1))) (congrArg Value.int (nI_add k 1)) ?_
  refine J_iast cx (ws' := (iA g an 700 (upd N 1 (nI (k + 1))) :: wr)) (j := 1) 0 rfl rfl (by omega) (by decide) rfl dL_root_6 ?_
  refine J_aload_n cx dL_root_7 rfl 0 rfl ?_
  refine J_iload_n cx dL_root_8 rfl 1 rfl ?_
  refine J_aload_n cx dL_root_9 rfl 0 rfl ?_
  refine J_iconst cx (v := nI 1) dL_root_10 (by decide) ?_
  refine J_iald cx (j := 1) (f := upd N 1 (nI (k + 1))) 0 rfl rfl (by omega) (by decide) dL_root_11 ?_
  refine J_top (v' := .int (nI (k + 1))) (congrArg Value.int up_eq) ?_
  refine J_iload_n cx dL_root_12 rfl 1 rfl ?_
  refine J_aload_n cx dL_root_13 rfl 0 rfl ?_
  refine J_iconst cx (v := nI 1) dL_root_14 (by decide) ?_
  refine J_iald cx (j := 1) (f := upd N 1 (nI (k + 1))) 0 rfl rfl (by omega) (by decide) dL_root_15 ?_
  refine J_top (v' := .int (nI (k + 1))) (congrArg Value.int up_eq) ?_
  refine J_iload_n cx dL_root_16 rfl 2 rfl ?_
  refine J_iload_n cx dL_root_17 rfl 3 rfl ?_
  refine J_callSi cx kL_109 (As := [.ref an, .int nm, .int (nI (k + 1)), .int nm, .int (nI (k + 1)), .int ds, .int ln]) (tL_makes l D g A an (upd N 1 (nI (k + 1))) wr n nm (nI (k + 1)) nm (nI (k + 1)) ds ln ((pk_un (by decide)).trans h0) hn4) ⟨rfl, rfl, by decide, by decide⟩ ⟨by decide, by decide⟩ rfl rfl (Nat.le_of_ble_eq_true rfl) dL_root_18 ?_
  intro _ _ hr; cases hr
  refine J_istore cx (L' := [(4, .int (nI n)), (0, .ref an), (1, .int nm), (2, .int ds), (3, .int ln)]) dL_root_21 (by decide) rfl ?_
  refine J_aload_n cx dL_root_23 rfl 1 rfl ?_
  refine J_bipush cx (v := nI 10) dL_root_24 (by decide) ?_
  refine J_bipush cx (v := nI 14) dL_root_26 (by decide) ?_
  refine J_iload cx dL_root_28 0 rfl ?_
  refine J_imul cx dL_root_30 ?_
  refine J_top (v' := .int (nI (14 * n))) (congrArg Value.int (pk_mul 14 n)) ?_
  refine J_iadd cx dL_root_31 ?_
  refine J_top (v' := .int (nI (10 + (14 * n)))) (congrArg Value.int (nI_add 10 (14 * n))) ?_
  refine J_bipush cx (v := nI 13) dL_root_32 (by decide) ?_
  refine J_iadd cx dL_root_34 ?_
  refine J_top (v' := .int (nI ((10 + (14 * n)) + 13))) (congrArg Value.int (nI_add (10 + (14 * n)) 13)) ?_
  refine J_iconst cx (v := nI 1) dL_root_35 (by decide) ?_
  refine J_iast cx (ws' := (iA g an 700 (upd (mkN (upd N 1 (nI (k + 1))) n nm (nI (k + 1)) nm (nI (k + 1)) ds ln) (10 + 14 * n + 13) (nI 1)) :: wr)) (j := (10 + 14 * n + 13)) 0 rfl (congrArg nI (by omega)) (by omega) (by decide) rfl dL_root_36 ?_
  refine J_iload cx dL_root_37 0 rfl ?_
  exact J_iret cx rfl (u := ()) rfl rfl (Nat.le_of_ble_eq_true rfl) (Nat.le_of_ble_eq_true rfl) dL_root_39
set_option maxHeartbeats 4000000 in
set_option maxRecDepth 100000 in
theorem tL_child (l : Launch) (D : va_G) (g : Nat → ClassId) (A : Nat → Prop) (an : Nat) (N : Nat → Int32) (wr : va_W) (n k ci : Nat) (nm ds ln : Int32) (h0 : N 0 = nI n) (h1 : N 1 = nI k) (hn4 : n < 40) (hc4 : ci < 40) : CtI l D g A yL_child cL_child 5 .int ({ frames := 1, cells := 0, slots := 0, locals := 27 } : Room) [.ref an, .int (nI (10 + 14 * ci)), .int nm, .int ds, .int ln] (iA g an 700 N :: wr) (nI n) (iA g an 700 (chN N n k ci nm ds ln) :: wr) := by
  refine metJ (by decide) (Nat.le_of_ble_eq_true rfl) ?_
  intro p e s m args below meth c _ _ cx
  refine J_aload_n cx dL_child_0 rfl 0 rfl ?_
  refine J_iconst cx (v := nI 1) dL_child_1 (by decide) ?_
  refine J_dup2 cx dL_child_2 rfl rfl ?_
  refine J_iald cx (j := 1) (f := N) 0 rfl rfl (by omega) (by decide) dL_child_3 ?_
  refine J_top (v' := .int (nI k)) (congrArg Value.int h1) ?_
  refine J_iconst cx (v := nI 1) dL_child_4 (by decide) ?_
  refine J_iadd cx dL_child_5 ?_
  refine J_top (v' := .int (nI (k + 1))) (congrArg Value.int (nI_add k 1)) ?_
  refine J_iast cx (ws' := (iA g an 700 (upd N 1 (nI (k + 1))) :: wr)) (j := 1) 0 rfl rfl (by omega) (by decide) rfl dL_child_6 ?_
  refine J_aload_n cx dL_child_7 rfl 0 rfl ?_
  refine J_iload_n cx dL_child_8 rfl 2 rfl ?_
  refine J_aload_n cx dL_child_9 rfl 0 rfl ?_
  refine J_iconst cx (v := nI 1) dL_child_10 (by decide) ?_
  refine J_iald cx (j := 1) (f := upd N 1 (nI (k + 1))) 0 rfl rfl (by omega) (by decide) dL_child_11 ?_
  refine J_top (v' := .int (nI (k + 1))) (congrArg Value.int up_eq) ?_
  refine J_aload_n cx dL_child_12 rfl 0 rfl ?_
  refine J_iload_n cx dL_child_13 rfl 1 rfl ?_
  refine J_iald cx (j := (10 + 14 * ci)) (f := upd N 1 (nI (k + 1))) 0 rfl rfl (by omega) (by decide) dL_child_14 ?_
  refine J_top (v' := .int (N (10 + 14 * ci))) (congrArg Value.int (pk_un (by omega))) ?_
  refine J_aload_n cx dL_child_15 rfl 0 rfl ?_
  refine J_iload_n cx dL_child_16 rfl 1 rfl ?_
  refine J_iconst cx (v := nI 1) dL_child_17 (by decide) ?_
  refine J_iadd cx dL_child_18 ?_
  refine J_top (v' := .int (nI ((10 + 14 * ci) + 1))) (congrArg Value.int (nI_add (10 + 14 * ci) 1)) ?_
  refine J_iald cx (j := (10 + 14 * ci + 1)) (f := upd N 1 (nI (k + 1))) 0 rfl (congrArg nI (by omega)) (by omega) (by decide) dL_child_19 ?_
  refine J_top (v' := .int (N (10 + 14 * ci + 1))) (congrArg Value.int (pk_un (by omega))) ?_
  refine J_iload_n cx dL_child_20 rfl 3 rfl ?_
  refine J_iload cx dL_child_21 4 rfl ?_
  refine J_callSi cx kL_109 (As := [.ref an, .int nm, .int (nI (k + 1)), .int (N (10 + 14 * ci)), .int (N (10 + 14 * ci + 1)), .int ds, .int ln]) (tL_makes l D g A an (upd N 1 (nI (k + 1))) wr n nm (nI (k + 1)) (N (10 + 14 * ci)) (N (10 + 14 * ci + 1)) ds ln ((pk_un (by decide)).trans h0) hn4) ⟨rfl, rfl, by decide, by decide⟩ ⟨by decide, by decide⟩ rfl rfl (Nat.le_of_ble_eq_true rfl) dL_child_23 ?_
  intro _ _ hr; cases hr
  exact J_iret cx rfl (u := ()) rfl rfl (Nat.le_of_ble_eq_true rfl) (Nat.le_of_ble_eq_true rfl) dL_child_26
