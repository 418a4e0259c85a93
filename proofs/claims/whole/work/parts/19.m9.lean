def rmF (d : Nat) : Room := { frames := 3 + d, cells := 0, slots := 0, locals := 72 + d * 25 }
set_option maxHeartbeats 4000000 in
set_option maxRecDepth 100000 in
theorem tX7_finds (l : Launch) (D : va_G) (g : Nat → ClassId) (A : Nat → Prop) (ad : Nat → Nat) (κ : CS) (th : Int32) (cm rm : Nat) (row : Nat → Int64)  (on : Int32) : ∀ (d laid : Nat) (ch : Nat → Nat), (InvM κ) → (1 ≤ laid) → (laid + d ≤ 7) → (∀ z, z < laid → ch z < κ.2.2.1 0) → CtI l D g A yX7_finds cX7_finds 6 .boolean (rmF d) [.ref (ad 0), .int (nI laid), .int (nI (laid + d)), .int on] (mW ad g κ th ch cm rm row) (zb (fndK κ on d laid ch).1) (mW ad g κ th ((fndK κ on d laid ch).2) cm rm row) := by
  intro d; induction d with
  | zero => 
    intro laid ch hI h1 h7 hw
    have hn := hI.1
    refine metJ (by decide) (Nat.le_of_ble_eq_true rfl) ?_
    intro p e s m args below meth c _ _ cx
    refine J_aload_n cx dX7_finds_0 rfl 0 rfl ?_
    refine J_get cx (v := .ref (ad 15)) fX7_53 0 rfl rfl dX7_finds_1 ?_
    refine J_iload_n cx dX7_finds_4 rfl 1 rfl ?_
    refine J_iconst cx (v := nI 1) dX7_finds_5 (by decide) ?_
    refine J_isub cx dX7_finds_6 ?_
    refine J_top (v' := .int (nI (laid - 1))) (congrArg Value.int (pk_sub (by omega))) ?_
    refine J_iald cx (j := (laid - 1)) (f := fun i => nI (ch i)) 15 rfl rfl (by omega) (by decide) dX7_finds_7 ?_
    refine J_istore cx (L' := [(4, .int (nI (ch (laid - 1)))), (0, .ref (ad 0)), (1, .int (nI laid)), (2, .int (nI (laid + 0))), (3, .int on)]) dX7_finds_8 (by decide) rfl ?_
    refine J_iload_n cx dX7_finds_10 rfl 2 rfl ?_
    refine J_iload_n cx dX7_finds_11 rfl 3 rfl ?_
    refine J_icmp_ne cx (tgt := 41) dX7_finds_12 (by decide) (fun c_1 => ?_) (fun c_1 => ?_)
    · have c_1 := (nat_ic_ne (by omega) (by omega)).mp c_1
      have c_1d := decide_eq_false c_1
      exact absurd rfl c_1
    · have c_1 := (nat_ic_ne_f (by omega) (by omega)).mp c_1
      have c_1d := decide_eq_true c_1
      refine J_aload_n cx dX7_finds_15 rfl 1 rfl ?_
      refine J_get cx (v := .ref (ad 12)) fX7_44 0 rfl rfl dX7_finds_16 ?_
      refine J_iload cx dX7_finds_19 0 rfl ?_
      refine J_zald cx (j := (ch (laid - 1))) (f := fun i => zb (κ.2.1 1 i)) 12 rfl rfl (by have := hI.1; have := hw (laid - 1) (by omega); omega) (by decide) dX7_finds_21 ?_
      refine J_ifz_eq cx (tgt := 39) dX7_finds_22 (by decide) (fun c_2 => ?_) (fun c_2 => ?_)
      · refine J_iconst cx (v := nI 0) dX7_finds_39 (by decide) ?_
        exact J_zret cx rfl (u := ()) (rfl) (by simp [fndK, zb, c_1d, c_2]) rfl (Nat.le_of_ble_eq_true rfl) (Nat.le_of_ble_eq_true rfl) dX7_finds_40
      · refine J_aload_n cx dX7_finds_25 rfl 1 rfl ?_
        refine J_get cx (v := .ref (ad 13)) fX7_47 0 rfl rfl dX7_finds_26 ?_
        refine J_iload cx dX7_finds_29 0 rfl ?_
        refine J_zald cx (j := (ch (laid - 1))) (f := fun i => zb (κ.2.1 2 i)) 13 rfl rfl (by have := hI.1; have := hw (laid - 1) (by omega); omega) (by decide) dX7_finds_31 ?_
        refine J_ifz_eq cx (tgt := 39) dX7_finds_32 (by decide) (fun c_3 => ?_) (fun c_3 => ?_)
        · refine J_iconst cx (v := nI 0) dX7_finds_39 (by decide) ?_
          exact J_zret cx rfl (u := ()) (rfl) (by simp [fndK, zb, c_1d, c_2, c_3]) rfl (Nat.le_of_ble_eq_true rfl) (Nat.le_of_ble_eq_true rfl) dX7_finds_40
        · refine J_iconst cx (v := nI 1) dX7_finds_35 (by decide) ?_
          refine J_goto cx (tgt := 40) dX7_finds_36 (by decide) ?_
          exact J_zret cx rfl (u := ()) (rfl) (by simp [fndK, zb, c_1d, c_2, c_3]) rfl (Nat.le_of_ble_eq_true rfl) (Nat.le_of_ble_eq_true rfl) dX7_finds_40
  | succ d ihd => 
    intro laid ch hI h1 h7 hw
    have hn := hI.1
    refine metJ (by decide) (Nat.le_of_ble_eq_true rfl) ?_
    intro p e s m args below meth c _ _ cx
    refine J_aload_n cx dX7_finds_0 rfl 0 rfl ?_
    refine J_get cx (v := .ref (ad 15)) fX7_53 0 rfl rfl dX7_finds_1 ?_
    refine J_iload_n cx dX7_finds_4 rfl 1 rfl ?_
    refine J_iconst cx (v := nI 1) dX7_finds_5 (by decide) ?_
    refine J_isub cx dX7_finds_6 ?_
    refine J_top (v' := .int (nI (laid - 1))) (congrArg Value.int (pk_sub (by omega))) ?_
    refine J_iald cx (j := (laid - 1)) (f := fun i => nI (ch i)) 15 rfl rfl (by omega) (by decide) dX7_finds_7 ?_
    refine J_istore cx (L' := [(4, .int (nI (ch (laid - 1)))), (0, .ref (ad 0)), (1, .int (nI laid)), (2, .int (nI (laid + (d + 1)))), (3, .int on)]) dX7_finds_8 (by decide) rfl ?_
    refine J_iload_n cx dX7_finds_10 rfl 2 rfl ?_
    refine J_iload_n cx dX7_finds_11 rfl 3 rfl ?_
    refine J_icmp_ne cx (tgt := 41) dX7_finds_12 (by decide) (fun c_1 => ?_) (fun c_1 => ?_)
    · have c_1 := (nat_ic_ne (by omega) (by omega)).mp c_1
      have c_1d := decide_eq_false c_1
      refine J_iconst cx (v := nI 0) dX7_finds_41 (by decide) ?_
      refine J_istore cx (L' := [(5, .int (nI 0)), (4, .int (nI (ch (laid - 1)))), (0, .ref (ad 0)), (1, .int (nI laid)), (2, .int (nI (laid + (d + 1)))), (3, .int on)]) dX7_finds_42 (by decide) rfl ?_
      have LP : ∀ (fu : Nat) (k : Nat) (c9 : Nat → Nat), (k ≤ κ.2.2.1 0) → (fndL (fun k c => if candB κ (ch (laid - 1)) k && decide (refC κ c laid k on = 111) then fndK κ on d (laid + 1) (upn c laid k) else (false, c)) (κ.2.2.1 0 - k) k c9 = fndK κ on (d + 1) laid ch) → (∀ z, z < laid → c9 z = ch z) → κ.2.2.1 0 - k < fu → J p l e (rmF (d + 1)) s m args below meth c D A 6 (MQ below (va_Qi (fun (r : Int32) (_ : Unit) => r = (zb (fndK κ on (d + 1) laid ch).1)) (fun _ => PO D A (mW ad g κ th ((fndK κ on (d + 1) laid ch).2) cm rm row)) A) args s 0 0 A) 0 0 (mW ad g κ th c9 cm rm row) [(5, .int (nI k)), (4, .int (nI (ch (laid - 1)))), (0, .ref (ad 0)), (1, .int (nI laid)), (2, .int (nI (laid + (d + 1)))), (3, .int on)] 44 [] := by
        intro fu; induction fu with
        | zero => intro k c9 hk heq hpr hfu; exact absurd hfu (Nat.not_lt_zero _)
        | succ fu ih =>
          intro k c9 hk heq hpr hfu
          refine J_iload cx dX7_finds_44 0 rfl ?_
          refine J_aload_n cx dX7_finds_46 rfl 2 rfl ?_
          refine J_get cx (v := .int (nI (κ.2.2.1 0))) fX7_71 0 rfl rfl dX7_finds_47 ?_
          refine J_icmp_ge cx (tgt := 109) dX7_finds_50 (by decide) (fun c_2 => ?_) (fun c_2 => ?_)
          · have c_2 := (nat_ic_ge (by omega) (by omega)).mp c_2
            have c_2d := decide_eq_true c_2
            refine J_iconst cx (v := nI 0) dX7_finds_109 (by decide) ?_
            exact J_zret cx rfl (u := ()) (rfl) (by rw [← heq, show κ.2.2.1 0 - k = 0 from by omega]; rfl) (by rw [← heq, show κ.2.2.1 0 - k = 0 from by omega]; rfl) (Nat.le_of_ble_eq_true rfl) (Nat.le_of_ble_eq_true rfl) dX7_finds_110
          · have c_2 := (nat_ic_ge_f (by omega) (by omega)).mp c_2
            have c_2d := decide_eq_false (Nat.not_le.mpr c_2)
            refine J_aload_n cx dX7_finds_53 rfl 2 rfl ?_
            refine J_iload cx dX7_finds_54 1 rfl ?_
            refine J_iload cx dX7_finds_56 0 rfl ?_
            refine J_callVi cx kX7_129 (As := [.int (nI (ch (laid - 1))), .int (nI k)]) (tX7_isCandidate l D g A ad κ th c9 cm rm row  (ch (laid - 1)) k (by have := hw (laid - 1) (by omega); omega) (by omega)) ⟨rfl, rfl, by simp only [rmF]; omega, by simp only [rmF]; omega⟩ ⟨by simp only [rmF]; omega, by simp only [rmF]; omega⟩ rfl 0 rfl rfl rfl (Nat.le_of_ble_eq_true rfl) dX7_finds_58 ?_
            intro _ _ hr; cases hr
            refine J_ifz_eq cx (tgt := 103) dX7_finds_61 (by decide) (fun c_3 => ?_) (fun c_3 => ?_)
            · refine J_iinc cx (v := (nI (k + 1))) (L' := [(5, .int (nI (k + 1))), (4, .int (nI (ch (laid - 1)))), (0, .ref (ad 0)), (1, .int (nI laid)), (2, .int (nI (laid + (d + 1)))), (3, .int on)]) dX7_finds_103 0 rfl (by exact nI_add k 1) (by decide) rfl ?_
              refine J_goto cx (tgt := 44) dX7_finds_106 (by decide) ?_
              refine J_L [0, 1, 2, 3, 4, 5] rfl ?_
              exact ih (k + 1) c9 (by omega) (by rw [← heq, show κ.2.2.1 0 - k = (κ.2.2.1 0 - (k + 1)) + 1 from by omega]; simp [fndL, c_1, c_1d, c_2, c_2d, c_3]) hpr (by omega)
            · refine J_aload_n cx dX7_finds_64 rfl 2 rfl ?_
              refine J_aload_n cx dX7_finds_65 rfl 2 rfl ?_
              refine J_get cx (v := .ref (ad 15)) fX7_53 0 rfl rfl dX7_finds_66 ?_
              refine J_iload_n cx dX7_finds_69 rfl 3 rfl ?_
              refine J_iload cx dX7_finds_70 0 rfl ?_
              refine J_iload_n cx dX7_finds_72 rfl 5 rfl ?_
              refine J_callVi cx kX7_142 (As := [.ref (ad 15), .int (nI laid), .int (nI k), .int on]) (tX7_refusal_c l D g A ad κ th c9 cm rm row  laid k on hI (by omega) h1 (fun z hz => by rw [hpr z hz]; exact hw z hz) (by omega)) ⟨rfl, rfl, by simp only [rmF]; omega, by simp only [rmF]; omega⟩ ⟨by simp only [rmF]; omega, by simp only [rmF]; omega⟩ rfl 0 rfl rfl rfl (Nat.le_of_ble_eq_true rfl) dX7_finds_73 ?_
              intro _ _ hr; cases hr
              have hrl := refC_le κ c9 laid k on
              refine J_bipush cx (v := nI 111) dX7_finds_76 (by decide) ?_
              refine J_icmp_ne cx (tgt := 103) dX7_finds_78 (by decide) (fun c_4 => ?_) (fun c_4 => ?_)
              · have c_4 := (nat_ic_ne (by omega) (by omega)).mp c_4
                have c_4d := decide_eq_false c_4
                refine J_iinc cx (v := (nI (k + 1))) (L' := [(5, .int (nI (k + 1))), (4, .int (nI (ch (laid - 1)))), (0, .ref (ad 0)), (1, .int (nI laid)), (2, .int (nI (laid + (d + 1)))), (3, .int on)]) dX7_finds_103 0 rfl (by exact nI_add k 1) (by decide) rfl ?_
                refine J_goto cx (tgt := 44) dX7_finds_106 (by decide) ?_
                refine J_L [0, 1, 2, 3, 4, 5] rfl ?_
                exact ih (k + 1) c9 (by omega) (by rw [← heq, show κ.2.2.1 0 - k = (κ.2.2.1 0 - (k + 1)) + 1 from by omega]; simp [fndL, c_1, c_1d, c_2, c_2d, c_3, c_4, c_4d]) hpr (by omega)
              · have c_4 := (nat_ic_ne_f (by omega) (by omega)).mp c_4
                have c_4d := decide_eq_true c_4
                have hsz := refC_sz hI (by omega) (by omega) c_4
                refine J_aload_n cx dX7_finds_81 rfl 2 rfl ?_
                refine J_get cx (v := .ref (ad 15)) fX7_53 0 rfl rfl dX7_finds_82 ?_
                refine J_iload_n cx dX7_finds_85 rfl 3 rfl ?_
                refine J_iload cx dX7_finds_86 0 rfl ?_
                refine J_iast cx (ws' := (mW ad g κ th (upn c9 laid k) cm rm row)) (j := laid) 15 rfl  rfl (by omega) (by decide) (by rw [upn_nI]; rfl) dX7_finds_88 ?_
                refine J_aload_n cx dX7_finds_89 rfl 2 rfl ?_
                refine J_iload_n cx dX7_finds_90 rfl 3 rfl ?_
                refine J_iconst cx (v := nI 1) dX7_finds_91 (by decide) ?_
                refine J_iadd cx dX7_finds_92 ?_
                refine J_top (v' := .int (nI (laid + 1))) (congrArg Value.int (nI_add laid 1)) ?_
                refine J_iload_n cx dX7_finds_93 rfl 4 rfl ?_
                refine J_top (v' := .int (nI (laid + 1 + d))) (by rw [show laid + (d + 1) = laid + 1 + d from by omega]) ?_
                refine J_iload_n cx dX7_finds_94 rfl 5 rfl ?_
                refine J_callVi cx kX7_146 (As := [.int (nI (laid + 1)), .int (nI (laid + 1 + d)), .int on]) (ihd  (laid + 1) (upn c9 laid k) hI (by omega) (by omega) (fun z hz => (Nat.lt_or_ge z laid).elim (fun q => by rw [upn_ne (by omega), hpr z q]; exact hw z q) (fun q => by rw [show z = laid from by omega, upn_eq]; omega))) ⟨rfl, rfl, by simp only [rmF]; omega, by simp only [rmF]; omega⟩ ⟨by simp only [rmF]; omega, by simp only [rmF]; omega⟩ rfl 0 rfl rfl rfl (Nat.le_of_ble_eq_true rfl) dX7_finds_95 ?_
                intro _ _ hr; cases hr
                refine J_ifz_eq cx (tgt := 103) dX7_finds_98 (by decide) (fun c_5 => ?_) (fun c_5 => ?_)
                · refine J_iinc cx (v := (nI (k + 1))) (L' := [(5, .int (nI (k + 1))), (4, .int (nI (ch (laid - 1)))), (0, .ref (ad 0)), (1, .int (nI laid)), (2, .int (nI (laid + (d + 1)))), (3, .int on)]) dX7_finds_103 0 rfl (by exact nI_add k 1) (by decide) rfl ?_
                  refine J_goto cx (tgt := 44) dX7_finds_106 (by decide) ?_
                  refine J_L [0, 1, 2, 3, 4, 5] rfl ?_
                  exact ih (k + 1) _ (by omega) (by rw [← heq, show κ.2.2.1 0 - k = (κ.2.2.1 0 - (k + 1)) + 1 from by omega]; simp [fndL, c_1, c_1d, c_2, c_2d, c_3, c_4d, c_5]) (fun z hz => by rw [fndK_pre κ on d (laid + 1) _ z (by omega), upn_ne (by omega)]; exact hpr z hz) (by omega)
                · refine J_iconst cx (v := nI 1) dX7_finds_101 (by decide) ?_
                  exact J_zret cx rfl (u := ()) (rfl) (by have q := heq; rw [show κ.2.2.1 0 - k = (κ.2.2.1 0 - (k + 1)) + 1 from by omega] at q; rw [← q]; simp [fndL, zb, c_1, c_1d, c_2, c_2d, c_3, c_4d, c_5]) (by have q := heq; rw [show κ.2.2.1 0 - k = (κ.2.2.1 0 - (k + 1)) + 1 from by omega] at q; rw [← q]; simp [fndL, c_1, c_1d, c_2, c_2d, c_3, c_4d, c_5]) (Nat.le_of_ble_eq_true rfl) (Nat.le_of_ble_eq_true rfl) dX7_finds_102
      refine J_L [0, 1, 2, 3, 4, 5] rfl ?_
      exact LP _ 0 ch (by omega) rfl (fun _ _ => rfl) (Nat.lt_succ_self _)
    · have c_1 := (nat_ic_ne_f (by omega) (by omega)).mp c_1
      have c_1d := decide_eq_true c_1
      exact absurd c_1 (by omega)
