def rmC (d : Nat) : Room := { frames := 3 + d, cells := 0, slots := 0, locals := 72 + d * 25 }
set_option maxHeartbeats 4000000 in
set_option maxRecDepth 100000 in
theorem tX7_counts (l : Launch) (D : va_G) (g : Nat → ClassId) (A : Nat → Prop) (ad : Nat → Nat) (κ : CS) (th : Int32) (rm : Nat) (row : Nat → Int64)  (on : Int32) : ∀ (d laid : Nat) (ch : Nat → Nat) (cm : Nat), (InvM κ) → (1 ≤ laid) → (laid + d = 8) → (laid ≤ 7) → (∀ z, z < laid → ch z < κ.2.2.1 0) → CtV l D g A yX7_counts cX7_counts 5 (rmC d) [.ref (ad 0), .int (nI laid), .int on] (mW ad g κ th ch cm rm row) (mW ad g κ th ((cntK κ on d laid ch).2) (cm + (cntK κ on d laid ch).1) rm row) := by
  intro d; induction d with
  | zero => 
    intro laid ch cm hI h1 h7 h77 hw
    exact absurd h7 (by omega)
  | succ d ihd => 
    intro laid ch cm hI h1 h7 h77 hw
    have hn := hI.1
    have hel := hw (laid - 1) (by omega)
    refine metJ (by decide) (Nat.le_of_ble_eq_true rfl) ?_
    intro p e s m args below meth c _ _ cx
    refine J_aload_n cx dX7_counts_0 rfl 0 rfl ?_
    refine J_get cx (v := .ref (ad 15)) fX7_53 0 rfl rfl dX7_counts_1 ?_
    refine J_iload_n cx dX7_counts_4 rfl 1 rfl ?_
    refine J_iconst cx (v := nI 1) dX7_counts_5 (by decide) ?_
    refine J_isub cx dX7_counts_6 ?_
    refine J_top (v' := .int (nI (laid - 1))) (congrArg Value.int (pk_sub (by omega))) ?_
    refine J_iald cx (j := (laid - 1)) (f := fun i => nI (ch i)) 15 rfl rfl (by omega) (by decide) dX7_counts_7 ?_
    refine J_istore_n cx (L' := [(3, .int (nI (ch (laid - 1)))), (0, .ref (ad 0)), (1, .int (nI laid)), (2, .int on)]) dX7_counts_8 rfl (by decide) rfl ?_
    have LP : ∀ (fu : Nat) (k : Nat) (c9 : Nat → Nat) (a : Nat), (k ≤ κ.2.2.1 0) → (a + (cntL (fun k c => if candB κ (ch (laid - 1)) k && decide (refC κ c laid k on = 111) then cntK κ on d (laid + 1) (upn c laid k) else (0, c)) (κ.2.2.1 0 - k) k c9).1 = (cntK κ on (d + 1) laid ch).1) → ((cntL (fun k c => if candB κ (ch (laid - 1)) k && decide (refC κ c laid k on = 111) then cntK κ on d (laid + 1) (upn c laid k) else (0, c)) (κ.2.2.1 0 - k) k c9).2 = (cntK κ on (d + 1) laid ch).2) → (∀ z, z < laid → c9 z = ch z) → κ.2.2.1 0 - k < fu → J p l e (rmC (d + 1)) s m args below meth c D A 5 (MQ below (va_Qv (fun (_ : Unit) => True) (fun _ => PO D A (mW ad g κ th ((cntK κ on (d + 1) laid ch).2) (cm + (cntK κ on (d + 1) laid ch).1) rm row)) A) args s 0 0 A) 0 0 (mW ad g κ th c9 (cm + a) rm row) [(4, .int (nI k)), (3, .int (nI (ch (laid - 1)))), (0, .ref (ad 0)), (1, .int (nI laid)), (2, .int on)] 44 [] := by
      intro fu; induction fu with
      | zero => intro k c9 a hk heq heq2 hpr hfu; exact absurd hfu (Nat.not_lt_zero _)
      | succ fu ih =>
        intro k c9 a hk heq heq2 hpr hfu
        refine J_iload cx dX7_counts_44 0 rfl ?_
        refine J_aload_n cx dX7_counts_46 rfl 2 rfl ?_
        refine J_get cx (v := .int (nI (κ.2.2.1 0))) fX7_71 0 rfl rfl dX7_counts_47 ?_
        refine J_icmp_ge cx (tgt := 102) dX7_counts_50 (by decide) (fun c_1 => ?_) (fun c_1 => ?_)
        · have c_1 := (nat_ic_ge (by omega) (by omega)).mp c_1
          have c_1d := decide_eq_true c_1
          have e1 : a = (cntK κ on (d + 1) laid ch).1 := by rw [← heq, show κ.2.2.1 0 - k = 0 from by omega]; rfl
          have e2 : c9 = (cntK κ on (d + 1) laid ch).2 := by rw [← heq2, show κ.2.2.1 0 - k = 0 from by omega]; rfl
          exact J_vret cx rfl (u := ()) trivial (by rw [e1, e2]) (Nat.le_of_ble_eq_true rfl) (Nat.le_of_ble_eq_true rfl) dX7_counts_102
        · have c_1 := (nat_ic_ge_f (by omega) (by omega)).mp c_1
          have c_1d := decide_eq_false (Nat.not_le.mpr c_1)
          refine J_aload_n cx dX7_counts_53 rfl 2 rfl ?_
          refine J_iload_n cx dX7_counts_54 rfl 1 rfl ?_
          refine J_iload cx dX7_counts_55 0 rfl ?_
          refine J_callVi cx kX7_129 (As := [.int (nI (ch (laid - 1))), .int (nI k)]) (tX7_isCandidate l D g A ad κ th c9 (cm + a) rm row  (ch (laid - 1)) k (by omega) (by omega)) ⟨rfl, rfl, by simp only [rmC]; omega, by simp only [rmC]; omega⟩ ⟨by simp only [rmC]; omega, by simp only [rmC]; omega⟩ rfl 0 rfl rfl rfl (Nat.le_of_ble_eq_true rfl) dX7_counts_57 ?_
          intro _ _ hr; cases hr
          refine J_ifz_eq cx (tgt := 96) dX7_counts_60 (by decide) (fun c_2 => ?_) (fun c_2 => ?_)
          · refine J_iinc cx (v := (nI (k + 1))) (L' := [(4, .int (nI (k + 1))), (3, .int (nI (ch (laid - 1)))), (0, .ref (ad 0)), (1, .int (nI laid)), (2, .int on)]) dX7_counts_96 0 rfl (by exact nI_add k 1) (by decide) rfl ?_
            refine J_goto cx (tgt := 44) dX7_counts_99 (by decide) ?_
            refine J_L [0, 1, 2, 3, 4] rfl ?_
            exact ih (k + 1) c9 a (by omega) (by rw [← heq, show κ.2.2.1 0 - k = (κ.2.2.1 0 - (k + 1)) + 1 from by omega]; simp [cntL, Nat.add_assoc, c_1, c_1d, c_2]) (by rw [← heq2, show κ.2.2.1 0 - k = (κ.2.2.1 0 - (k + 1)) + 1 from by omega]; simp [cntL, Nat.add_assoc, c_1, c_1d, c_2]) hpr (by omega)
          · refine J_aload_n cx dX7_counts_63 rfl 2 rfl ?_
            refine J_aload_n cx dX7_counts_64 rfl 2 rfl ?_
            refine J_get cx (v := .ref (ad 15)) fX7_53 0 rfl rfl dX7_counts_65 ?_
            refine J_iload_n cx dX7_counts_68 rfl 3 rfl ?_
            refine J_iload cx dX7_counts_69 0 rfl ?_
            refine J_iload_n cx dX7_counts_71 rfl 4 rfl ?_
            refine J_callVi cx kX7_142 (As := [.ref (ad 15), .int (nI laid), .int (nI k), .int on]) (tX7_refusal_c l D g A ad κ th c9 (cm + a) rm row  laid k on hI (by omega) h1 (fun z hz => by rw [hpr z hz]; exact hw z hz) (by omega)) ⟨rfl, rfl, by simp only [rmC]; omega, by simp only [rmC]; omega⟩ ⟨by simp only [rmC]; omega, by simp only [rmC]; omega⟩ rfl 0 rfl rfl rfl (Nat.le_of_ble_eq_true rfl) dX7_counts_72 ?_
            intro _ _ hr; cases hr
            have hrl := refC_le κ c9 laid k on
            refine J_bipush cx (v := nI 111) dX7_counts_75 (by decide) ?_
            refine J_icmp_ne cx (tgt := 96) dX7_counts_77 (by decide) (fun c_3 => ?_) (fun c_3 => ?_)
            · have c_3 := (nat_ic_ne (by omega) (by omega)).mp c_3
              have c_3d := decide_eq_false c_3
              refine J_iinc cx (v := (nI (k + 1))) (L' := [(4, .int (nI (k + 1))), (3, .int (nI (ch (laid - 1)))), (0, .ref (ad 0)), (1, .int (nI laid)), (2, .int on)]) dX7_counts_96 0 rfl (by exact nI_add k 1) (by decide) rfl ?_
              refine J_goto cx (tgt := 44) dX7_counts_99 (by decide) ?_
              refine J_L [0, 1, 2, 3, 4] rfl ?_
              exact ih (k + 1) c9 a (by omega) (by rw [← heq, show κ.2.2.1 0 - k = (κ.2.2.1 0 - (k + 1)) + 1 from by omega]; simp [cntL, Nat.add_assoc, c_1, c_1d, c_2, c_3, c_3d]) (by rw [← heq2, show κ.2.2.1 0 - k = (κ.2.2.1 0 - (k + 1)) + 1 from by omega]; simp [cntL, Nat.add_assoc, c_1, c_1d, c_2, c_3, c_3d]) hpr (by omega)
            · have c_3 := (nat_ic_ne_f (by omega) (by omega)).mp c_3
              have c_3d := decide_eq_true c_3
              have hsz := refC_sz hI (by omega) (by omega) c_3
              refine J_aload_n cx dX7_counts_80 rfl 2 rfl ?_
              refine J_get cx (v := .ref (ad 15)) fX7_53 0 rfl rfl dX7_counts_81 ?_
              refine J_iload_n cx dX7_counts_84 rfl 3 rfl ?_
              refine J_iload cx dX7_counts_85 0 rfl ?_
              refine J_iast cx (ws' := (mW ad g κ th (upn c9 laid k) (cm + a) rm row)) (j := laid) 15 rfl  rfl (by omega) (by decide) (by rw [upn_nI]; rfl) dX7_counts_87 ?_
              refine J_aload_n cx dX7_counts_88 rfl 2 rfl ?_
              refine J_iload_n cx dX7_counts_89 rfl 3 rfl ?_
              refine J_iconst cx (v := nI 1) dX7_counts_90 (by decide) ?_
              refine J_iadd cx dX7_counts_91 ?_
              refine J_top (v' := .int (nI (laid + 1))) (congrArg Value.int (nI_add laid 1)) ?_
              refine J_iload_n cx dX7_counts_92 rfl 4 rfl ?_
              refine J_callVv cx kX7_158 (As := [.int (nI (laid + 1)), .int on]) (ihd (laid + 1) (upn c9 laid k) (cm + a) hI (by omega) (by omega) (by omega) (fun z hz => (Nat.lt_or_ge z laid).elim (fun q => by rw [upn_ne (by omega), hpr z q]; exact hw z q) (fun q => by rw [show z = laid from by omega, upn_eq]; omega))) ⟨rfl, rfl, by simp only [rmC]; omega, by simp only [rmC]; omega⟩ ⟨by simp only [rmC]; omega, by simp only [rmC]; omega⟩ rfl 0 rfl rfl rfl (Nat.le_of_ble_eq_true rfl) dX7_counts_93 ?_
              intro _ _
              refine J_ws (ws' := (mW ad g κ th ((cntK κ on d (laid + 1) (upn c9 laid k)).2) (cm + (a + (cntK κ on d (laid + 1) (upn c9 laid k)).1)) rm row)) (by rw [Nat.add_assoc]) ?_
              refine J_iinc cx (v := (nI (k + 1))) (L' := [(4, .int (nI (k + 1))), (3, .int (nI (ch (laid - 1)))), (0, .ref (ad 0)), (1, .int (nI laid)), (2, .int on)]) dX7_counts_96 0 rfl (by exact nI_add k 1) (by decide) rfl ?_
              refine J_goto cx (tgt := 44) dX7_counts_99 (by decide) ?_
              refine J_L [0, 1, 2, 3, 4] rfl ?_
              exact ih (k + 1) _ _ (by omega) (by rw [← heq, show κ.2.2.1 0 - k = (κ.2.2.1 0 - (k + 1)) + 1 from by omega]; simp [cntL, Nat.add_assoc, c_1, c_1d, c_2, c_3d]) (by rw [← heq2, show κ.2.2.1 0 - k = (κ.2.2.1 0 - (k + 1)) + 1 from by omega]; simp [cntL, Nat.add_assoc, c_1, c_1d, c_2, c_3d]) (fun z hz => by rw [cntK_pre κ on d (laid + 1) _ z (by omega), upn_ne (by omega)]; exact hpr z hz) (by omega)
    refine J_aload_n cx dX7_counts_9 rfl 1 rfl ?_
    refine J_dup cx dX7_counts_10 rfl ?_
    refine J_get cx (v := .int (nI cm)) fX7_155 0 rfl rfl dX7_counts_11 ?_
    refine J_aload_n cx dX7_counts_14 rfl 1 rfl ?_
    refine J_get cx (v := .ref (ad 12)) fX7_44 0 rfl rfl dX7_counts_15 ?_
    refine J_iload_n cx dX7_counts_18 rfl 0 rfl ?_
    refine J_zald cx (j := (ch (laid - 1))) (f := fun i => zb (κ.2.1 1 i)) 12 rfl rfl (by omega) (by decide) dX7_counts_19 ?_
    refine J_ifz_eq cx (tgt := 36) dX7_counts_20 (by decide) (fun c_4 => ?_) (fun c_4 => ?_)
    · refine J_iconst cx (v := nI 0) dX7_counts_36 (by decide) ?_
      refine J_iadd cx dX7_counts_37 ?_
      refine J_top (v' := .int (nI (cm + 0))) (congrArg Value.int (nI_add cm 0)) ?_
      refine J_put cx (ws' := (mW ad g κ th ch (cm + 0) rm row)) fX7_155 ⟨tyX7_ok, nmX7, tyX7_ok 22 (by decide)⟩ rfl 0 rfl rfl rfl (Nat.le_of_ble_eq_true rfl) rfl dX7_counts_38 ?_
      refine J_iconst cx (v := nI 0) dX7_counts_41 (by decide) ?_
      refine J_istore cx (L' := [(4, .int (nI 0)), (3, .int (nI (ch (laid - 1)))), (0, .ref (ad 0)), (1, .int (nI laid)), (2, .int on)]) dX7_counts_42 (by decide) rfl ?_
      refine J_L [0, 1, 2, 3, 4] rfl ?_
      exact LP _ 0 ch 0 (by omega) (by simp [cntK, c_4]) (by simp [cntK, c_4]) (fun _ _ => rfl) (Nat.lt_succ_self _)
    · refine J_aload_n cx dX7_counts_23 rfl 1 rfl ?_
      refine J_get cx (v := .ref (ad 13)) fX7_47 0 rfl rfl dX7_counts_24 ?_
      refine J_iload_n cx dX7_counts_27 rfl 0 rfl ?_
      refine J_zald cx (j := (ch (laid - 1))) (f := fun i => zb (κ.2.1 2 i)) 13 rfl rfl (by omega) (by decide) dX7_counts_28 ?_
      refine J_ifz_eq cx (tgt := 36) dX7_counts_29 (by decide) (fun c_5 => ?_) (fun c_5 => ?_)
      · refine J_iconst cx (v := nI 0) dX7_counts_36 (by decide) ?_
        refine J_iadd cx dX7_counts_37 ?_
        refine J_top (v' := .int (nI (cm + 0))) (congrArg Value.int (nI_add cm 0)) ?_
        refine J_put cx (ws' := (mW ad g κ th ch (cm + 0) rm row)) fX7_155 ⟨tyX7_ok, nmX7, tyX7_ok 22 (by decide)⟩ rfl 0 rfl rfl rfl (Nat.le_of_ble_eq_true rfl) rfl dX7_counts_38 ?_
        refine J_iconst cx (v := nI 0) dX7_counts_41 (by decide) ?_
        refine J_istore cx (L' := [(4, .int (nI 0)), (3, .int (nI (ch (laid - 1)))), (0, .ref (ad 0)), (1, .int (nI laid)), (2, .int on)]) dX7_counts_42 (by decide) rfl ?_
        refine J_L [0, 1, 2, 3, 4] rfl ?_
        exact LP _ 0 ch 0 (by omega) (by simp [cntK, c_4, c_5]) (by simp [cntK, c_4, c_5]) (fun _ _ => rfl) (Nat.lt_succ_self _)
      · refine J_iconst cx (v := nI 1) dX7_counts_32 (by decide) ?_
        refine J_goto cx (tgt := 37) dX7_counts_33 (by decide) ?_
        refine J_iadd cx dX7_counts_37 ?_
        refine J_top (v' := .int (nI (cm + 1))) (congrArg Value.int (nI_add cm 1)) ?_
        refine J_put cx (ws' := (mW ad g κ th ch (cm + 1) rm row)) fX7_155 ⟨tyX7_ok, nmX7, tyX7_ok 22 (by decide)⟩ rfl 0 rfl rfl rfl (Nat.le_of_ble_eq_true rfl) rfl dX7_counts_38 ?_
        refine J_iconst cx (v := nI 0) dX7_counts_41 (by decide) ?_
        refine J_istore cx (L' := [(4, .int (nI 0)), (3, .int (nI (ch (laid - 1)))), (0, .ref (ad 0)), (1, .int (nI laid)), (2, .int on)]) dX7_counts_42 (by decide) rfl ?_
        refine J_L [0, 1, 2, 3, 4] rfl ?_
        exact LP _ 0 ch 1 (by omega) (by simp [cntK, c_4, c_5]) (by simp [cntK, c_4, c_5]) (fun _ _ => rfl) (Nat.lt_succ_self _)
set_option maxHeartbeats 4000000 in
set_option maxRecDepth 100000 in
theorem tX7_goodChains (l : Launch) (D : va_G) (g : Nat → ClassId) (A : Nat → Prop) (ad : Nat → Nat) (κ : CS) (th : Int32) (ch : Nat → Nat) (cm rm : Nat) (row : Nat → Int64)  (xc : Int32) (dy : Int32) (hI : InvM κ) : CtI l D g A yX7_goodChains cX7_goodChains 3 .int ({ frames := 12, cells := 0, slots := 0, locals := 296 } : Room) [.ref (ad 0), .int xc, .int dy] (mW ad g κ th ch cm rm row) ((opGood κ ch xc dy).2) (mW ad g κ (nI (opGood κ ch xc dy).1) (chGd κ ch xc dy) (cmGd κ ch cm xc dy) rm row) := by
  have hn := hI.1
  refine metJ (by decide) (Nat.le_of_ble_eq_true rfl) ?_
  intro p e s m args below meth c _ _ cx
  refine J_aload_n cx dX7_goodChains_0 rfl 0 rfl ?_
  refine J_iload_n cx dX7_goodChains_1 rfl 1 rfl ?_
  refine J_iload_n cx dX7_goodChains_2 rfl 2 rfl ?_
  refine J_callVi cx kX7_120 (As := [.int xc, .int dy]) (tX7_isWrong l D g A ad κ th ch cm rm row  xc dy hn) ⟨rfl, rfl, (by first | decide | (simp only [rmC]; omega)), (by first | decide | (simp only [rmC]; omega))⟩ ⟨(by first | decide | (simp only [rmC]; omega)), (by first | decide | (simp only [rmC]; omega))⟩ rfl 0 rfl rfl rfl (Nat.le_of_ble_eq_true rfl) dX7_goodChains_3 ?_
  intro _ _ hr; cases hr
  refine J_ifz_eq cx (tgt := 11) dX7_goodChains_6 (by decide) (fun c_1 => ?_) (fun c_1 => ?_)
  · have c_1 := bn_f c_1
    have c_1 := of_decide_eq_true c_1
    obtain ⟨j, hj, hxj, hdy⟩ := wrong_0 c_1 hn; subst hxj
    have hjc : (nI j).toNatClampNeg = j := nI_clamp (by omega)
    have hdyd := decide_eq_false hdy
    refine J_aload_n cx dX7_goodChains_11 rfl 0 rfl ?_
    refine J_iconst cx (v := nI 0) dX7_goodChains_12 (by decide) ?_
    refine J_put cx (ws' := (mW ad g κ (nI (wrongC κ (nI j) dy)) ch 0 rm row)) fX7_155 ⟨tyX7_ok, nmX7, tyX7_ok 22 (by decide)⟩ rfl 0 rfl rfl rfl (Nat.le_of_ble_eq_true rfl) rfl dX7_goodChains_13 ?_
    refine J_aload_n cx dX7_goodChains_16 rfl 0 rfl ?_
    refine J_get cx (v := .ref (ad 15)) fX7_53 0 rfl rfl dX7_goodChains_17 ?_
    refine J_iconst cx (v := nI 0) dX7_goodChains_20 (by decide) ?_
    refine J_iload_n cx dX7_goodChains_21 rfl 1 rfl ?_
    refine J_iast cx (ws' := (mW ad g κ (nI (wrongC κ (nI j) dy)) (upn ch 0 j) 0 rm row)) (j := 0) 15 rfl  rfl (by omega) (by decide) (by rw [upn_nI]; rfl) dX7_goodChains_22 ?_
    refine J_aload_n cx dX7_goodChains_23 rfl 0 rfl ?_
    refine J_iload_n cx dX7_goodChains_24 rfl 1 rfl ?_
    refine J_iload_n cx dX7_goodChains_25 rfl 2 rfl ?_
    refine J_callVi cx kX7_149 (As := [.int (nI j), .int dy]) (tX7_canBegin l D g A ad κ (nI (wrongC κ (nI j) dy)) (upn ch 0 j) 0 rm row  j dy (by omega)) ⟨rfl, rfl, (by first | decide | (simp only [rmC]; omega)), (by first | decide | (simp only [rmC]; omega))⟩ ⟨(by first | decide | (simp only [rmC]; omega)), (by first | decide | (simp only [rmC]; omega))⟩ rfl 0 rfl rfl rfl (Nat.le_of_ble_eq_true rfl) dX7_goodChains_26 ?_
    intro _ _ hr; cases hr
    refine J_ifz_eq cx (tgt := 38) dX7_goodChains_29 (by decide) (fun c_2 => ?_) (fun c_2 => ?_)
    · refine J_ws (ws' := (mW ad g κ (nI (wrongC κ (nI j) dy)) ((gdK κ j dy ch).2) ((gdK κ j dy ch).1) rm row)) (by simp [gdK, c_1, hjc, hdyd, c_2]) ?_
      refine J_aload_n cx dX7_goodChains_38 rfl 0 rfl ?_
      refine J_get cx (v := .int (nI ((gdK κ j dy ch).1))) fX7_155 0 rfl rfl dX7_goodChains_39 ?_
      exact J_iret cx rfl (u := ()) (by simp only [opGood, chGd, cmGd, Bool.and_true, Bool.true_and, Bool.and_false, Bool.false_and, Bool.or_true, Bool.true_or, Bool.or_false, Bool.false_or, Bool.not_true, Bool.not_false, if_true, if_false, Bool.false_eq_true, decide_true, decide_false, ite_true, ite_false, ne_eq, not_true_eq_false, not_false_eq_true, xj, c_1, hjc, hdyd, c_2]; try rfl) (by simp only [opGood, chGd, cmGd, Bool.and_true, Bool.true_and, Bool.and_false, Bool.false_and, Bool.or_true, Bool.true_or, Bool.or_false, Bool.false_or, Bool.not_true, Bool.not_false, if_true, if_false, Bool.false_eq_true, decide_true, decide_false, ite_true, ite_false, ne_eq, not_true_eq_false, not_false_eq_true, xj, c_1, hjc, hdyd, c_2]; try rfl) (Nat.le_of_ble_eq_true rfl) (Nat.le_of_ble_eq_true rfl) dX7_goodChains_42
    · refine J_aload_n cx dX7_goodChains_32 rfl 0 rfl ?_
      refine J_iconst cx (v := nI 1) dX7_goodChains_33 (by decide) ?_
      refine J_iload_n cx dX7_goodChains_34 rfl 2 rfl ?_
      refine J_callVv cx kX7_158 (As := [.int (nI 1), .int dy]) (tX7_counts l D g A ad κ (nI (wrongC κ (nI j) dy)) rm row dy 7 1 (upn ch 0 j) 0 hI (by omega) (by omega) (by omega) (fun z hz => by rw [show z = 0 from by omega, upn_eq]; exact hj)) ⟨rfl, rfl, (by first | decide | (simp only [rmC]; omega)), (by first | decide | (simp only [rmC]; omega))⟩ ⟨(by first | decide | (simp only [rmC]; omega)), (by first | decide | (simp only [rmC]; omega))⟩ rfl 0 rfl rfl rfl (Nat.le_of_ble_eq_true rfl) dX7_goodChains_35 ?_
      intro _ _
      refine J_ws (ws' := (mW ad g κ (nI (wrongC κ (nI j) dy)) ((gdK κ j dy ch).2) ((gdK κ j dy ch).1) rm row)) (by simp [gdK, c_1, hjc, hdyd, c_2]) ?_
      refine J_aload_n cx dX7_goodChains_38 rfl 0 rfl ?_
      refine J_get cx (v := .int (nI ((gdK κ j dy ch).1))) fX7_155 0 rfl rfl dX7_goodChains_39 ?_
      exact J_iret cx rfl (u := ()) (by simp only [opGood, chGd, cmGd, Bool.and_true, Bool.true_and, Bool.and_false, Bool.false_and, Bool.or_true, Bool.true_or, Bool.or_false, Bool.false_or, Bool.not_true, Bool.not_false, if_true, if_false, Bool.false_eq_true, decide_true, decide_false, ite_true, ite_false, ne_eq, not_true_eq_false, not_false_eq_true, xj, c_1, hjc, hdyd, c_2]; try rfl) (by simp only [opGood, chGd, cmGd, Bool.and_true, Bool.true_and, Bool.and_false, Bool.false_and, Bool.or_true, Bool.true_or, Bool.or_false, Bool.false_or, Bool.not_true, Bool.not_false, if_true, if_false, Bool.false_eq_true, decide_true, decide_false, ite_true, ite_false, ne_eq, not_true_eq_false, not_false_eq_true, xj, c_1, hjc, hdyd, c_2]; try rfl) (Nat.le_of_ble_eq_true rfl) (Nat.le_of_ble_eq_true rfl) dX7_goodChains_42
  · have c_1 := bn_t c_1
    have c_1 := of_decide_eq_false c_1
    refine J_iconst cx (v := nI 0) dX7_goodChains_9 (by decide) ?_
    exact J_iret cx rfl (u := ()) (by simp only [opGood, chGd, cmGd, Bool.and_true, Bool.true_and, Bool.and_false, Bool.false_and, Bool.or_true, Bool.true_or, Bool.or_false, Bool.false_or, Bool.not_true, Bool.not_false, if_true, if_false, Bool.false_eq_true, decide_true, decide_false, ite_true, ite_false, ne_eq, not_true_eq_false, not_false_eq_true, xj, c_1]; try rfl) (by simp only [opGood, chGd, cmGd, Bool.and_true, Bool.true_and, Bool.and_false, Bool.false_and, Bool.or_true, Bool.true_or, Bool.or_false, Bool.false_or, Bool.not_true, Bool.not_false, if_true, if_false, Bool.false_eq_true, decide_true, decide_false, ite_true, ite_false, ne_eq, not_true_eq_false, not_false_eq_true, xj, c_1]; try rfl) (Nat.le_of_ble_eq_true rfl) (Nat.le_of_ble_eq_true rfl) dX7_goodChains_10
set_option maxHeartbeats 4000000 in
set_option maxRecDepth 100000 in
theorem tX7_goodChainsByWalks (l : Launch) (D : va_G) (g : Nat → ClassId) (A : Nat → Prop) (ad : Nat → Nat) (κ : CS) (th : Int32) (ch : Nat → Nat) (cm rm : Nat) (row : Nat → Int64)  (xc : Int32) (dy : Int32) (hI : InvM κ) : CtI l D g A yX7_goodChainsByWalks cX7_goodChainsByWalks 3 .int ({ frames := 13, cells := 0, slots := 0, locals := 318 } : Room) [.ref (ad 0), .int xc, .int dy] (mW ad g κ th ch cm rm row) ((opGood κ ch xc dy).2) (mW ad g κ (nI (opGood κ ch xc dy).1) (chGd κ ch xc dy) (cmGd κ ch cm xc dy) rm row) := by
  refine metJ (by decide) (Nat.le_of_ble_eq_true rfl) ?_
  intro p e s m args below meth c _ _ cx
  refine J_aload_n cx dX7_goodChainsByWalks_0 rfl 0 rfl ?_
  refine J_iload_n cx dX7_goodChainsByWalks_1 rfl 1 rfl ?_
  refine J_iload_n cx dX7_goodChainsByWalks_2 rfl 2 rfl ?_
  refine J_callVi cx kX7_162 (As := [.int xc, .int dy]) (tX7_goodChains l D g A ad κ th ch cm rm row  xc dy (by first | assumption | omega)) ⟨rfl, rfl, by decide, by decide⟩ ⟨by decide, by decide⟩ rfl 0 rfl rfl rfl (Nat.le_of_ble_eq_true rfl) dX7_goodChainsByWalks_3 ?_
  intro _ _ hr; cases hr
  exact J_iret cx rfl (u := ()) rfl rfl (Nat.le_of_ble_eq_true rfl) (Nat.le_of_ble_eq_true rfl) dX7_goodChainsByWalks_6
