def rmK (d : Nat) : Room := { frames := 8 + d, cells := 0, slots := 0, locals := 233 + d * 26 }
set_option maxHeartbeats 4000000 in
set_option maxRecDepth 100000 in
theorem tL_chains (l : Launch) (D : va_G) (g : Nat → ClassId) (A : Nat → Prop) (an : Nat) (N : Nat → Int32) (κ : CS) (wr : va_W) (wa oa : Nat) (on : Int32) (hN : NT N κ) (hI : InvM κ) : ∀ (d laid : Nat) (wy oy : Nat → Nat), (1 ≤ laid) → (laid + d = 8) → (laid ≤ 7) → (∀ z, z < laid → wy z < κ.2.2.1 0) → (oy 1 ≤ 7) → CtV l D g A yL_chains cL_chains 7 (rmK d) [.ref an, .ref wa, .int (nI laid), .int on, .ref oa] (iA g an 700 N :: iA g wa 12 (fun i => nI (wy i)) :: iA g oa 12 (fun i => nI (oy i)) :: wr) (iA g an 700 N :: iA g wa 12 (fun i => nI (((ckK κ on d laid (wy, oy)).1) i)) :: iA g oa 12 (fun i => nI (((ckK κ on d laid (wy, oy)).2) i)) :: wr) := by
  have hn := hI.1
  intro d; induction d with
  | zero => 
    intro laid wy oy h1 h8 h7 hw ho
    exact absurd h8 (by omega)
  | succ d ihd => 
    intro laid wy oy h1 h8 h7 hw ho
    refine metJ (by decide) (Nat.le_of_ble_eq_true rfl) ?_
    intro p e s m args below meth c _ _ cx
    refine J_aload_n cx dL_chains_0 rfl 1 rfl ?_
    refine J_iload_n cx dL_chains_1 rfl 2 rfl ?_
    refine J_iconst cx (v := nI 1) dL_chains_2 (by decide) ?_
    refine J_isub cx dL_chains_3 ?_
    refine J_top (v' := .int (nI (laid - 1))) (congrArg Value.int (pk_sub (by omega))) ?_
    refine J_iald cx (j := (laid - 1)) (f := fun i => nI (wy i)) 1 rfl rfl (by omega) (by decide) dL_chains_4 ?_
    have hel := hw (laid - 1) (by omega)
    refine J_istore cx (L' := [(5, .int (nI (wy (laid - 1)))), (0, .ref an), (1, .ref wa), (2, .int (nI laid)), (3, .int on), (4, .ref oa)]) dL_chains_5 (by decide) rfl ?_
    have LP : ∀ (fu : Nat) (k : Nat) (w9 : Nat → Nat) (o9 : Nat → Nat), (k ≤ κ.2.2.1 0) → (ckL (fun k z => if candB κ (wy (laid - 1)) k && decide (refC κ z.1 laid k on = 111) then ckK κ on d (laid + 1) (upn z.1 laid k, z.2) else z) (κ.2.2.1 0 - k) k (w9, o9) = ckK κ on (d + 1) laid (wy, oy)) → (∀ z, z < laid → w9 z = wy z) → (o9 1 ≤ 7) → κ.2.2.1 0 - k < fu → J p l e (rmK (d + 1)) s m args below meth c D A 7 (MQ below (va_Qv (fun (_ : Unit) => True) (fun _ => PO D A (iA g an 700 N :: iA g wa 12 (fun i => nI (((ckK κ on (d + 1) laid (wy, oy)).1) i)) :: iA g oa 12 (fun i => nI (((ckK κ on (d + 1) laid (wy, oy)).2) i)) :: wr)) A) args s 0 0 A) 0 0 (iA g an 700 N :: iA g wa 12 (fun i => nI (w9 i)) :: iA g oa 12 (fun i => nI (o9 i)) :: wr) [(6, .int (nI k)), (5, .int (nI (wy (laid - 1)))), (0, .ref an), (1, .ref wa), (2, .int (nI laid)), (3, .int on), (4, .ref oa)] 92 [] := by
      intro fu; induction fu with
      | zero => intro k w9 o9 hk heq hpr ho9 hfu; exact absurd hfu (Nat.not_lt_zero _)
      | succ fu ih =>
        intro k w9 o9 hk heq hpr ho9 hfu
        refine J_iload cx dL_chains_92 0 rfl ?_
        refine J_aload_n cx dL_chains_94 rfl 2 rfl ?_
        refine J_iconst cx (v := nI 0) dL_chains_95 (by decide) ?_
        refine J_iald cx (j := 0) (f := N) 0 rfl rfl (by omega) (by decide) dL_chains_96 ?_
        refine J_top (v' := .int (nI (κ.2.2.1 0))) (congrArg Value.int hN.n0) ?_
        refine J_icmp_ge cx (tgt := 147) dL_chains_97 (by decide) (fun c_1 => ?_) (fun c_1 => ?_)
        · have c_1 := (nat_ic_ge (by omega) (by omega)).mp c_1
          have c_1d := decide_eq_true c_1
          have e9 := ckL_e (by omega) heq
          exact J_vret cx rfl (u := ()) trivial (by rw [← e9]) (Nat.le_of_ble_eq_true rfl) (Nat.le_of_ble_eq_true rfl) dL_chains_147
        · have c_1 := (nat_ic_ge_f (by omega) (by omega)).mp c_1
          have c_1d := decide_eq_false (Nat.not_le.mpr c_1)
          refine J_aload_n cx dL_chains_100 rfl 2 rfl ?_
          refine J_iload cx dL_chains_101 1 rfl ?_
          refine J_iload cx dL_chains_103 0 rfl ?_
          refine J_callSi cx kL_116 (As := [.ref an, .int (nI (wy (laid - 1))), .int (nI k)]) (tL_isNext l D g A an N κ (iA g wa 12 (fun i => nI (w9 i)) :: iA g oa 12 (fun i => nI (o9 i)) :: wr) (wy (laid - 1)) k hN (by omega) (by omega) hI.1) ⟨rfl, rfl, by simp only [rmK]; omega, by simp only [rmK]; omega⟩ ⟨by simp only [rmK]; omega, by simp only [rmK]; omega⟩ rfl rfl (Nat.le_of_ble_eq_true rfl) dL_chains_105 ?_
          intro _ _ hr; cases hr
          refine J_ifz_eq cx (tgt := 141) dL_chains_108 (by decide) (fun c_2 => ?_) (fun c_2 => ?_)
          · refine J_iinc cx (v := (nI (k + 1))) (L' := [(6, .int (nI (k + 1))), (5, .int (nI (wy (laid - 1)))), (0, .ref an), (1, .ref wa), (2, .int (nI laid)), (3, .int on), (4, .ref oa)]) dL_chains_141 0 rfl (by exact nI_add k 1) (by decide) rfl ?_
            refine J_goto cx (tgt := 92) dL_chains_144 (by decide) ?_
            refine J_L [0, 1, 2, 3, 4, 5, 6] rfl ?_
            exact ih (k + 1) w9 o9 (by omega) (ckL_s (by omega) (by simp [c_1, c_1d, c_2]) heq) hpr ho9 (by omega)
          · refine J_aload_n cx dL_chains_111 rfl 2 rfl ?_
            refine J_aload_n cx dL_chains_112 rfl 3 rfl ?_
            refine J_iload_n cx dL_chains_113 rfl 4 rfl ?_
            refine J_iload cx dL_chains_114 0 rfl ?_
            refine J_iload_n cx dL_chains_116 rfl 5 rfl ?_
            refine J_callSi cx kL_130 (As := [.ref an, .ref wa, .int (nI laid), .int (nI k), .int on]) (tL_why l D g A an N κ (iA g oa 12 (fun i => nI (o9 i)) :: wr) wa 12 w9 laid k on hN hI (by omega) h1 (by omega) (by decide) (fun z hz => by rw [hpr z hz]; exact hw z hz)) ⟨rfl, rfl, by simp only [rmK]; omega, by simp only [rmK]; omega⟩ ⟨by simp only [rmK]; omega, by simp only [rmK]; omega⟩ rfl rfl (Nat.le_of_ble_eq_true rfl) dL_chains_117 ?_
            intro _ _ hr; cases hr
            have hrl := refC_le κ w9 laid k on
            refine J_bipush cx (v := nI 111) dL_chains_120 (by decide) ?_
            refine J_icmp_ne cx (tgt := 141) dL_chains_122 (by decide) (fun c_3 => ?_) (fun c_3 => ?_)
            · have c_3 := (nat_ic_ne (by omega) (by omega)).mp c_3
              have c_3d := decide_eq_false c_3
              refine J_iinc cx (v := (nI (k + 1))) (L' := [(6, .int (nI (k + 1))), (5, .int (nI (wy (laid - 1)))), (0, .ref an), (1, .ref wa), (2, .int (nI laid)), (3, .int on), (4, .ref oa)]) dL_chains_141 0 rfl (by exact nI_add k 1) (by decide) rfl ?_
              refine J_goto cx (tgt := 92) dL_chains_144 (by decide) ?_
              refine J_L [0, 1, 2, 3, 4, 5, 6] rfl ?_
              exact ih (k + 1) w9 o9 (by omega) (ckL_s (by omega) (by simp [c_1, c_1d, c_2, c_3, c_3d]) heq) hpr ho9 (by omega)
            · have c_3 := (nat_ic_ne_f (by omega) (by omega)).mp c_3
              have c_3d := decide_eq_true c_3
              have hsz := refC_sz hI (show k < κ.2.2.1 0 by omega) (show laid ≤ 40 by omega) c_3
              refine J_aload_n cx dL_chains_125 rfl 3 rfl ?_
              refine J_iload_n cx dL_chains_126 rfl 4 rfl ?_
              refine J_iload cx dL_chains_127 0 rfl ?_
              refine J_iast cx (ws' := (iA g an 700 N :: iA g wa 12 (fun i => nI ((upn w9 laid k) i)) :: iA g oa 12 (fun i => nI (o9 i)) :: wr)) (j := laid) 1 rfl rfl (by omega) (by decide) (by rw [upn_nI]; rfl) dL_chains_129 ?_
              refine J_aload_n cx dL_chains_130 rfl 2 rfl ?_
              refine J_aload_n cx dL_chains_131 rfl 3 rfl ?_
              refine J_iload_n cx dL_chains_132 rfl 4 rfl ?_
              refine J_iconst cx (v := nI 1) dL_chains_133 (by decide) ?_
              refine J_iadd cx dL_chains_134 ?_
              refine J_top (v' := .int (nI (laid + 1))) (congrArg Value.int (nI_add laid 1)) ?_
              refine J_iload_n cx dL_chains_135 rfl 5 rfl ?_
              refine J_aload cx dL_chains_136 6 rfl ?_
              refine J_callSv cx kL_134 (As := [.ref an, .ref wa, .int (nI (laid + 1)), .int on, .ref oa]) (ihd (laid + 1) (upn w9 laid k) o9 (by omega) (by omega) (by omega) (fun z hz => by by_cases q : z = laid; (· rw [q, upn_eq]; omega); (· rw [upn_ne q, hpr z (by omega)]; exact hw z (by omega))) ho9) ⟨rfl, rfl, by simp only [rmK]; omega, by simp only [rmK]; omega⟩ ⟨by simp only [rmK]; omega, by simp only [rmK]; omega⟩ rfl rfl (Nat.le_of_ble_eq_true rfl) dL_chains_138 ?_
              intro _ _
              refine J_iinc cx (v := (nI (k + 1))) (L' := [(6, .int (nI (k + 1))), (5, .int (nI (wy (laid - 1)))), (0, .ref an), (1, .ref wa), (2, .int (nI laid)), (3, .int on), (4, .ref oa)]) dL_chains_141 0 rfl (by exact nI_add k 1) (by decide) rfl ?_
              refine J_goto cx (tgt := 92) dL_chains_144 (by decide) ?_
              refine J_L [0, 1, 2, 3, 4, 5, 6] rfl ?_
              exact ih (k + 1) _ _ (by omega) (ckL_s (by omega) (by show (if _ then _ else _) = _; rw [if_pos (by simp [c_1, c_1d, c_2, c_3d])]) heq) (fun z hz => by rw [ckK_pre κ on d (laid + 1) _ z (by omega)]; show upn w9 laid k z = _; rw [upn_ne (by omega)]; exact hpr z hz) (ckK_1 κ on d (laid + 1) _ (by omega) ho9) (by omega)
    have LC : ∀ (fu : Nat) (kc : Nat), (kc ≤ laid) → (ckO κ wy oy laid = cpN wy (upn (upn oy 0 (oy 0 + 1)) 1 laid) laid) → laid - kc < fu → J p l e (rmK (d + 1)) s m args below meth c D A 7 (MQ below (va_Qv (fun (_ : Unit) => True) (fun _ => PO D A (iA g an 700 N :: iA g wa 12 (fun i => nI (((ckK κ on (d + 1) laid (wy, oy)).1) i)) :: iA g oa 12 (fun i => nI (((ckK κ on (d + 1) laid (wy, oy)).2) i)) :: wr)) A) args s 0 0 A) 0 0 (iA g an 700 N :: iA g wa 12 (fun i => nI (wy i)) :: iA g oa 12 (fun i => nI ((cpN wy (upn (upn oy 0 (oy 0 + 1)) 1 laid) kc) i)) :: wr) [(6, .int (nI kc)), (5, .int (nI (wy (laid - 1)))), (0, .ref an), (1, .ref wa), (2, .int (nI laid)), (3, .int on), (4, .ref oa)] 66 [] := by
      intro fu; induction fu with
      | zero => intro kc hkc hok hfu; exact absurd hfu (Nat.not_lt_zero _)
      | succ fu ihc =>
        intro kc hkc hok hfu
        refine J_iload cx dL_chains_66 0 rfl ?_
        refine J_iload_n cx dL_chains_68 rfl 4 rfl ?_
        refine J_icmp_ge cx (tgt := 89) dL_chains_69 (by decide) (fun c_4 => ?_) (fun c_4 => ?_)
        · have c_4 := (nat_ic_ge (by omega) (by omega)).mp c_4
          have c_4d := decide_eq_true c_4
          refine J_iconst cx (v := nI 0) dL_chains_89 (by decide) ?_
          refine J_istore cx (L' := [(6, .int (nI 0)), (5, .int (nI (wy (laid - 1)))), (0, .ref an), (1, .ref wa), (2, .int (nI laid)), (3, .int on), (4, .ref oa)]) dL_chains_90 (by decide) rfl ?_
          refine J_L [0, 1, 2, 3, 4, 5, 6] rfl ?_
          exact LP _ 0 wy _ (Nat.zero_le _) (by show ckL _ _ _ (wy, cpN wy (upn (upn oy 0 (oy 0 + 1)) 1 laid) kc) = ckL _ _ _ (wy, ckO κ wy oy laid); rw [show ckO κ wy oy laid = cpN wy (upn (upn oy 0 (oy 0 + 1)) 1 laid) kc from (by rw [show kc = laid from by omega]; exact hok)]; rfl) (fun _ _ => rfl) (by rw [cpN_1, upn_eq]; exact h7) (Nat.lt_succ_self _)
        · have c_4 := (nat_ic_ge_f (by omega) (by omega)).mp c_4
          have c_4d := decide_eq_false (Nat.not_le.mpr c_4)
          refine J_aload cx dL_chains_72 6 rfl ?_
          refine J_iconst cx (v := nI 2) dL_chains_74 (by decide) ?_
          refine J_iload cx dL_chains_75 0 rfl ?_
          refine J_iadd cx dL_chains_77 ?_
          refine J_top (v' := .int (nI (2 + kc))) (congrArg Value.int (nI_add 2 kc)) ?_
          refine J_aload_n cx dL_chains_78 rfl 3 rfl ?_
          refine J_iload cx dL_chains_79 0 rfl ?_
          refine J_iald cx (j := kc) (f := fun i => nI (wy i)) 1 rfl rfl (by omega) (by decide) dL_chains_81 ?_
          refine J_iast cx (ws' := (iA g an 700 N :: iA g wa 12 (fun i => nI (wy i)) :: iA g oa 12 (fun i => nI ((upn (cpN wy (upn (upn oy 0 (oy 0 + 1)) 1 laid) kc) (2 + kc) (wy kc)) i)) :: wr)) (j := (2 + kc)) 2 rfl rfl (by omega) (by decide) (by rw [upn_nI]; rfl) dL_chains_82 ?_
          refine J_ws (ws' := (iA g an 700 N :: iA g wa 12 (fun i => nI (wy i)) :: iA g oa 12 (fun i => nI ((cpN wy (upn (upn oy 0 (oy 0 + 1)) 1 laid) (kc + 1)) i)) :: wr)) rfl ?_
          refine J_iinc cx (v := (nI (kc + 1))) (L' := [(6, .int (nI (kc + 1))), (5, .int (nI (wy (laid - 1)))), (0, .ref an), (1, .ref wa), (2, .int (nI laid)), (3, .int on), (4, .ref oa)]) dL_chains_83 0 rfl (by exact nI_add kc 1) (by decide) rfl ?_
          refine J_goto cx (tgt := 66) dL_chains_86 (by decide) ?_
          refine J_L [0, 1, 2, 3, 4, 5, 6] rfl ?_
          exact ihc (kc + 1) (by omega) hok (by omega)
    refine J_aload_n cx dL_chains_7 rfl 1 rfl ?_
    refine J_bipush cx (v := nI 23) dL_chains_8 (by decide) ?_
    refine J_bipush cx (v := nI 14) dL_chains_10 (by decide) ?_
    refine J_iload cx dL_chains_12 0 rfl ?_
    refine J_imul cx dL_chains_14 ?_
    refine J_top (v' := .int (nI (14 * (wy (laid - 1))))) (congrArg Value.int (pk_mul 14 (wy (laid - 1)))) ?_
    refine J_iadd cx dL_chains_15 ?_
    refine J_top (v' := .int (nI (23 + (14 * (wy (laid - 1)))))) (congrArg Value.int (nI_add 23 (14 * (wy (laid - 1))))) ?_
    refine J_iald cx (j := (10 + 14 * (wy (laid - 1)) + 13)) (f := N) 0 rfl (congrArg nI (by omega)) (by omega) (by decide) dL_chains_16 ?_
    refine J_top (v' := .int (zb (κ.2.1 1 (wy (laid - 1))))) (congrArg Value.int (hN.c13 (by omega))) ?_
    refine J_iconst cx (v := nI 1) dL_chains_17 (by decide) ?_
    refine J_icmp_ne cx (tgt := 89) dL_chains_18 (by decide) (fun c_5 => ?_) (fun c_5 => ?_)
    · have c_5 := (zb1n _).mp c_5
      refine J_iconst cx (v := nI 0) dL_chains_89 (by decide) ?_
      refine J_istore cx (L' := [(6, .int (nI 0)), (5, .int (nI (wy (laid - 1)))), (0, .ref an), (1, .ref wa), (2, .int (nI laid)), (3, .int on), (4, .ref oa)]) dL_chains_90 (by decide) rfl ?_
      refine J_L [0, 1, 2, 3, 4, 5, 6] rfl ?_
      exact LP _ 0 wy _ (Nat.zero_le _) (by show ckL _ _ _ (wy, oy) = ckL _ _ _ (wy, ckO κ wy oy laid); rw [show ckO κ wy oy laid = oy from (by unfold ckO; simp [c_5])]; rfl) (fun _ _ => rfl) (by first | exact ho | (rw [upn_ne (by decide)]; exact ho)) (Nat.lt_succ_self _)
    · have c_5 := (zb1 _).mp c_5
      refine J_aload_n cx dL_chains_21 rfl 1 rfl ?_
      refine J_bipush cx (v := nI 22) dL_chains_22 (by decide) ?_
      refine J_bipush cx (v := nI 14) dL_chains_24 (by decide) ?_
      refine J_iload cx dL_chains_26 0 rfl ?_
      refine J_imul cx dL_chains_28 ?_
      refine J_top (v' := .int (nI (14 * (wy (laid - 1))))) (congrArg Value.int (pk_mul 14 (wy (laid - 1)))) ?_
      refine J_iadd cx dL_chains_29 ?_
      refine J_top (v' := .int (nI (22 + (14 * (wy (laid - 1)))))) (congrArg Value.int (nI_add 22 (14 * (wy (laid - 1))))) ?_
      refine J_iald cx (j := (10 + 14 * (wy (laid - 1)) + 12)) (f := N) 0 rfl (congrArg nI (by omega)) (by omega) (by decide) dL_chains_30 ?_
      refine J_top (v' := .int (zb (κ.2.1 2 (wy (laid - 1))))) (congrArg Value.int (hN.c12 (by omega))) ?_
      refine J_iconst cx (v := nI 1) dL_chains_31 (by decide) ?_
      refine J_icmp_ne cx (tgt := 89) dL_chains_32 (by decide) (fun c_6 => ?_) (fun c_6 => ?_)
      · have c_6 := (zb1n _).mp c_6
        refine J_iconst cx (v := nI 0) dL_chains_89 (by decide) ?_
        refine J_istore cx (L' := [(6, .int (nI 0)), (5, .int (nI (wy (laid - 1)))), (0, .ref an), (1, .ref wa), (2, .int (nI laid)), (3, .int on), (4, .ref oa)]) dL_chains_90 (by decide) rfl ?_
        refine J_L [0, 1, 2, 3, 4, 5, 6] rfl ?_
        exact LP _ 0 wy _ (Nat.zero_le _) (by show ckL _ _ _ (wy, oy) = ckL _ _ _ (wy, ckO κ wy oy laid); rw [show ckO κ wy oy laid = oy from (by unfold ckO; simp [c_5, c_6])]; rfl) (fun _ _ => rfl) (by first | exact ho | (rw [upn_ne (by decide)]; exact ho)) (Nat.lt_succ_self _)
      · have c_6 := (zb1 _).mp c_6
        refine J_aload cx dL_chains_35 5 rfl ?_
        refine J_iconst cx (v := nI 0) dL_chains_37 (by decide) ?_
        refine J_dup2 cx dL_chains_38 rfl rfl ?_
        refine J_iald cx (j := 0) (f := fun i => nI (oy i)) 2 rfl rfl (by omega) (by decide) dL_chains_39 ?_
        refine J_iconst cx (v := nI 1) dL_chains_40 (by decide) ?_
        refine J_iadd cx dL_chains_41 ?_
        refine J_top (v' := .int (nI ((oy 0) + 1))) (congrArg Value.int (nI_add (oy 0) 1)) ?_
        refine J_iast cx (ws' := (iA g an 700 N :: iA g wa 12 (fun i => nI (wy i)) :: iA g oa 12 (fun i => nI ((upn oy 0 ((oy 0) + 1)) i)) :: wr)) (j := 0) 2 rfl rfl (by omega) (by decide) (by rw [upn_nI]; rfl) dL_chains_42 ?_
        refine J_aload cx dL_chains_43 5 rfl ?_
        refine J_iconst cx (v := nI 1) dL_chains_45 (by decide) ?_
        refine J_iald cx (j := 1) (f := fun i => nI ((upn oy 0 ((oy 0) + 1)) i)) 2 rfl rfl (by omega) (by decide) dL_chains_46 ?_
        refine J_top (v' := .int (nI (oy 1))) (congrArg (fun z => Value.int (nI z)) (upn_ne (by decide))) ?_
        refine J_if_eq cx (tgt := 58) dL_chains_47 (by decide) (fun c_7 => ?_) (fun c_7 => ?_)
        · have c_7 := (nat_if_eq (by omega)).mp c_7
          have c_7d := decide_eq_true c_7
          refine J_aload cx dL_chains_58 5 rfl ?_
          refine J_iconst cx (v := nI 1) dL_chains_60 (by decide) ?_
          refine J_iload_n cx dL_chains_61 rfl 3 rfl ?_
          refine J_iast cx (ws' := (iA g an 700 N :: iA g wa 12 (fun i => nI (wy i)) :: iA g oa 12 (fun i => nI ((upn (upn oy 0 ((oy 0) + 1)) 1 laid) i)) :: wr)) (j := 1) 2 rfl rfl (by omega) (by decide) (by rw [upn_nI]; rfl) dL_chains_62 ?_
          refine J_iconst cx (v := nI 0) dL_chains_63 (by decide) ?_
          refine J_istore cx (L' := [(6, .int (nI 0)), (5, .int (nI (wy (laid - 1)))), (0, .ref an), (1, .ref wa), (2, .int (nI laid)), (3, .int on), (4, .ref oa)]) dL_chains_64 (by decide) rfl ?_
          refine J_L [0, 1, 2, 3, 4, 5, 6] rfl ?_
          exact LC _ 0 (Nat.zero_le _) (by unfold ckO; simp [c_5, c_6, c_7d]) (Nat.lt_succ_self _)
        · have c_7 := (nat_if_eq_f (by omega)).mp c_7
          have c_7d := decide_eq_false c_7
          refine J_iload_n cx dL_chains_50 rfl 3 rfl ?_
          refine J_aload cx dL_chains_51 5 rfl ?_
          refine J_iconst cx (v := nI 1) dL_chains_53 (by decide) ?_
          refine J_iald cx (j := 1) (f := fun i => nI ((upn oy 0 ((oy 0) + 1)) i)) 2 rfl rfl (by omega) (by decide) dL_chains_54 ?_
          refine J_top (v' := .int (nI (oy 1))) (congrArg (fun z => Value.int (nI z)) (upn_ne (by decide))) ?_
          refine J_icmp_ge cx (tgt := 89) dL_chains_55 (by decide) (fun c_8 => ?_) (fun c_8 => ?_)
          · have c_8 := (nat_ic_ge (by omega) (by omega)).mp c_8
            have c_8d := decide_eq_true c_8
            have hnl := Nat.not_lt.mpr c_8
            refine J_iconst cx (v := nI 0) dL_chains_89 (by decide) ?_
            refine J_istore cx (L' := [(6, .int (nI 0)), (5, .int (nI (wy (laid - 1)))), (0, .ref an), (1, .ref wa), (2, .int (nI laid)), (3, .int on), (4, .ref oa)]) dL_chains_90 (by decide) rfl ?_
            refine J_L [0, 1, 2, 3, 4, 5, 6] rfl ?_
            exact LP _ 0 wy _ (Nat.zero_le _) (by show ckL _ _ _ (wy, upn oy 0 ((oy 0) + 1)) = ckL _ _ _ (wy, ckO κ wy oy laid); rw [show ckO κ wy oy laid = upn oy 0 ((oy 0) + 1) from (by unfold ckO; simp [c_5, c_6, c_7, c_7d, c_8, c_8d, hnl])]; rfl) (fun _ _ => rfl) (by first | exact ho | (rw [upn_ne (by decide)]; exact ho)) (Nat.lt_succ_self _)
          · have c_8 := (nat_ic_ge_f (by omega) (by omega)).mp c_8
            have c_8d := decide_eq_false (Nat.not_le.mpr c_8)
            refine J_aload cx dL_chains_58 5 rfl ?_
            refine J_iconst cx (v := nI 1) dL_chains_60 (by decide) ?_
            refine J_iload_n cx dL_chains_61 rfl 3 rfl ?_
            refine J_iast cx (ws' := (iA g an 700 N :: iA g wa 12 (fun i => nI (wy i)) :: iA g oa 12 (fun i => nI ((upn (upn oy 0 ((oy 0) + 1)) 1 laid) i)) :: wr)) (j := 1) 2 rfl rfl (by omega) (by decide) (by rw [upn_nI]; rfl) dL_chains_62 ?_
            refine J_iconst cx (v := nI 0) dL_chains_63 (by decide) ?_
            refine J_istore cx (L' := [(6, .int (nI 0)), (5, .int (nI (wy (laid - 1)))), (0, .ref an), (1, .ref wa), (2, .int (nI laid)), (3, .int on), (4, .ref oa)]) dL_chains_64 (by decide) rfl ?_
            refine J_L [0, 1, 2, 3, 4, 5, 6] rfl ?_
            exact LC _ 0 (Nat.zero_le _) (by unfold ckO; simp [c_5, c_6, c_7, c_7d, c_8, c_8d]) (Nat.lt_succ_self _)
