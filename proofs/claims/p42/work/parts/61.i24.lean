def rmB (d : Nat) : Room := { frames := 4 + d, cells := 0, slots := 0, locals := 90 + d * 30 }
set_option maxHeartbeats 4000000 in
set_option maxRecDepth 100000 in
theorem tX6_findBest (l : Launch) (D : va_G) (g : Nat → ClassId) (A : Nat → Prop) (ad : Nat → Nat → Nat) (κ : CS) (X : XT) (cs : Nat → CT) (lf : Nat → Int64) (pr : PT)  (hI : InvM κ) (hS : ShX κ X) : ∀ (d : Nat) (c1 c2 : CT), (ShC κ c1) → (ShC κ c2) → (1 ≤ c1.2.1) → (c1.2.1 + d = 8) → CtV l D g A yX6_findBest cX6_findBest 5 (rmB d) [.ref (ad 0 13), .ref (ad 0 15)] (iW ad g κ X (upc (upc cs 1 c1) 2 c2) lf pr) (iW ad g κ X (upc (upc cs 1 ((fbK κ X d c1 c2).1)) 2 ((fbK κ X d c1 c2).2)) lf pr) := by
  intro d; induction d with
  | zero => 
    intro c1 c2 hC1 hC2 h1 h8
    exact absurd h8 (by have := hC1.1; omega)
  | succ d ihd => 
    intro c1 c2 hC1 hC2 h1 h8
    have hz1 := hC1.1
    have hz2 := hC2.1
    refine metJ (by decide) (Nat.le_of_ble_eq_true rfl) ?_
    intro p e s m args below meth c _ _ cx
    refine J_aload_n cx dX6_findBest_0 rfl 0 rfl ?_
    refine J_ws (ws' := (iW ad g κ X (upc (upc cs 2 c2) 1 c1) lf pr)) (by rw [upc_comm (by decide)]) ?_
    refine J_callVq cx kX6_286 (As := []) (tX1_last l D g A ad κ X (upc cs 2 c2) lf pr  1 c1 (by decide) hz1) ⟨rfl, rfl, by simp only [rmB]; omega, by simp only [rmB]; omega⟩ ⟨by simp only [rmB]; omega, by simp only [rmB]; omega⟩ rfl (11 + 2 * 1) (iG_ch (by decide)) rfl rfl (Nat.le_of_ble_eq_true rfl) dX6_findBest_1 ?_
    intro _ _ hr; cases hr
    refine J_astore_nq cx (L' := [(2, va_rf ((lastC c1).map (ad 1))), (0, .ref (ad 0 13)), (1, .ref (ad 0 15))]) dX6_findBest_4 rfl (by decide) rfl ?_
    refine J_aload_nq cx dX6_findBest_5 rfl 0 rfl ?_
    refine J_ifnull cx (tgt := 27) dX6_findBest_6 (by decide) (fun c_1 => ?_) (fun y_2 c_1 => ?_)
    · have c_1 : lastC c1 = none := Option.map_eq_none_iff.mp c_1
      refine J_ws (ws' := (iW ad g κ X (upc (upc cs 1 c1) 2 c2) lf pr)) (by rw [upc_comm (by decide)]) ?_
      exact J_vret cx rfl (u := ()) trivial (by rw [fbK_n c_1]) (Nat.le_of_ble_eq_true rfl) (Nat.le_of_ble_eq_true rfl) dX6_findBest_27
    · have c_1v := c_1
      obtain ⟨i, hi, hiy⟩ := Option.map_eq_some_iff.mp c_1; subst hiy
      have hib := lastC_lt hC1 hi
      refine J_Le (L' := [(2, .ref (ad 1 i)), (0, .ref (ad 0 13)), (1, .ref (ad 0 15))]) (by rw [c_1v]; rfl) ?_
      have NB : (¬ (0 < c2.2.1 ∧ c2.2.1 ≤ c1.2.1)) → J p l e (rmB (d + 1)) s m args below meth c D A 5 (MQ below (va_Qv (fun (_ : Unit) => True) (fun _ => PO D A (iW ad g κ X (upc (upc cs 1 ((fbK κ X (d + 1) c1 c2).1)) 2 ((fbK κ X (d + 1) c1 c2).2)) lf pr)) A) args s 0 0 A) 0 0 (iW ad g κ X (upc (upc cs 1 c1) 2 c2) lf pr) [(2, .ref (ad 1 i)), (0, .ref (ad 0 13)), (1, .ref (ad 0 15))] 28 [] := by
        intro  hnb
        refine J_aload_n cx dX6_findBest_28 rfl 1 rfl ?_
        refine J_ws (ws' := (iW ad g κ X (upc (upc cs 2 c2) 1 c1) lf pr)) (by rw [upc_comm (by decide)]) ?_
        refine J_callVi cx kX6_228 (As := []) (tX1_endsInTrust l D g A ad κ X (upc cs 2 c2) lf pr  1 c1 (by decide) hS hC1) ⟨rfl, rfl, by simp only [rmB]; omega, by simp only [rmB]; omega⟩ ⟨by simp only [rmB]; omega, by simp only [rmB]; omega⟩ rfl (11 + 2 * 1) (iG_ch (by decide)) rfl rfl (Nat.le_of_ble_eq_true rfl) dX6_findBest_29 ?_
        intro _ _ hr; cases hr
        refine J_ifz_eq cx (tgt := 41) dX6_findBest_32 (by decide) (fun c_3 => ?_) (fun c_3 => ?_)
        · refine J_ws (ws' := (iW ad g κ X (upc (upc cs 1 c1) 2 c2) lf pr)) (by rw [upc_comm (by decide)]) ?_
          refine J_iconst cx (v := nI 0) dX6_findBest_41 (by decide) ?_
          refine J_istore_n cx (L' := [(3, .int (nI 0)), (2, .ref (ad 1 i)), (0, .ref (ad 0 13)), (1, .ref (ad 0 15))]) dX6_findBest_42 rfl (by decide) rfl ?_
          have LP : ∀ (fu : Nat) (r : Nat) (t : CT) (b : CT), (r ≤ 3) → (KeepC κ c1 (t, b)) → (fbL (fbB κ X (fbK κ X d) i) (3 - r) r (t, b) = fbK κ X (d + 1) c1 c2) → 3 - r < fu → J p l e (rmB (d + 1)) s m args below meth c D A 5 (MQ below (va_Qv (fun (_ : Unit) => True) (fun _ => PO D A (iW ad g κ X (upc (upc cs 1 ((fbK κ X (d + 1) c1 c2).1)) 2 ((fbK κ X (d + 1) c1 c2).2)) lf pr)) A) args s 0 0 A) 0 0 (iW ad g κ X (upc (upc cs 1 t) 2 b) lf pr) [(3, .int (nI r)), (2, .ref (ad 1 i)), (0, .ref (ad 0 13)), (1, .ref (ad 0 15))] 43 [] := by
            intro fu; induction fu with
            | zero => intro r t b hr hkp heq hfu; exact absurd hfu (Nat.not_lt_zero _)
            | succ fu ih =>
              intro r t b hr hkp heq hfu
              have ht2 : t.2.1 = c1.2.1 := congrArg Prod.fst hkp.2.2.1
              have hz1 := hC1.1
              refine J_iload_n cx dX6_findBest_43 rfl 0 rfl ?_
              refine J_iconst cx (v := nI 3) dX6_findBest_44 (by decide) ?_
              refine J_icmp_ge cx (tgt := 95) dX6_findBest_45 (by decide) (fun c_4 => ?_) (fun c_4 => ?_)
              · have c_4 := (nat_ic_ge (by omega) (by omega)).mp c_4
                have c_4d := decide_eq_true c_4
                exact J_vret cx rfl (u := ()) trivial (by rw [← heq, show 3 - r = 0 from by omega]; rfl) (Nat.le_of_ble_eq_true rfl) (Nat.le_of_ble_eq_true rfl) dX6_findBest_95
              · have c_4 := (nat_ic_ge_f (by omega) (by omega)).mp c_4
                have c_4d := decide_eq_false (Nat.not_le.mpr c_4)
                have hr3 : r < 3 := by omega
                refine J_aload_n cx dX6_findBest_48 rfl 1 rfl ?_
                refine J_iload_n cx dX6_findBest_49 rfl 0 rfl ?_
                refine J_callVq cx kX6_281 (As := [.int (nI r)]) (tX0_candidate l D g A ad κ X (upc (upc cs 1 t) 2 b) lf pr  i (nI r) hS hib) ⟨rfl, rfl, by simp only [rmB]; omega, by simp only [rmB]; omega⟩ ⟨by simp only [rmB]; omega, by simp only [rmB]; omega⟩ rfl (17 + i) (iG_c (by first | assumption | omega)) rfl rfl (Nat.le_of_ble_eq_true rfl) dX6_findBest_50 ?_
                intro _ _ hr; cases hr
                refine J_astoreq cx (L' := [(4, va_rf ((cdC X i (nI r)).map (ad 1))), (3, .int (nI r)), (2, .ref (ad 1 i)), (0, .ref (ad 0 13)), (1, .ref (ad 0 15))]) dX6_findBest_53 (by decide) rfl ?_
                refine J_aloadq cx dX6_findBest_55 0 rfl ?_
                refine J_ifnull cx (tgt := 89) dX6_findBest_57 (by decide) (fun c_5 => ?_) (fun y_6 c_5 => ?_)
                · have c_5 : cdC X i (nI r) = none := Option.map_eq_none_iff.mp c_5
                  refine J_iinc cx (v := (nI (r + 1))) (L' := [(3, .int (nI (r + 1))), (4, va_rf ((cdC X i (nI r)).map (ad 1))), (2, .ref (ad 1 i)), (0, .ref (ad 0 13)), (1, .ref (ad 0 15))]) dX6_findBest_89 1 rfl (by exact nI_add r 1) (by decide) rfl ?_
                  refine J_goto cx (tgt := 43) dX6_findBest_92 (by decide) ?_
                  refine J_L [0, 2, 3, 4] rfl ?_
                  exact ih (r + 1) t b (by omega) hkp ((fbL_step hr3 (fbB_none c_5)).symm.trans heq) (by omega)
                · have c_5v := c_5
                  obtain ⟨k, hk, hky⟩ := Option.map_eq_some_iff.mp c_5; subst hky
                  have hkb := (cdC_lt hS hib hk).1
                  refine J_Le (L' := [(4, .ref (ad 1 k)), (3, .int (nI r)), (2, .ref (ad 1 i)), (0, .ref (ad 0 13)), (1, .ref (ad 0 15))]) (by rw [c_5v]; rfl) ?_
                  refine J_aload_n cx dX6_findBest_60 rfl 3 rfl ?_
                  refine J_aload cx dX6_findBest_61 0 rfl ?_
                  refine J_ws (ws' := (iW ad g κ X (upc (upc cs 2 b) 1 t) lf pr)) (by rw [upc_comm (by decide)]) ?_
                  refine J_callVi cx kX6_217 (As := [.ref (ad 1 k)]) (tX1_refusalOf l D g A ad κ X (upc cs 2 b) lf pr  1 t k (by decide) hS hI hkp.1 hkb (by omega)) ⟨rfl, rfl, by simp only [rmB]; omega, by simp only [rmB]; omega⟩ ⟨by simp only [rmB]; omega, by simp only [rmB]; omega⟩ rfl (11 + 2 * 1) (iG_ch (by decide)) rfl rfl (Nat.le_of_ble_eq_true rfl) dX6_findBest_63 ?_
                  intro _ _ hr; cases hr
                  have hrl := refC_le κ (wyO t) t.2.1 k t.2.2
                  refine J_bipush cx (v := nI 111) dX6_findBest_66 (by decide) ?_
                  refine J_icmp_ne cx (tgt := 89) dX6_findBest_68 (by decide) (fun c_7 => ?_) (fun c_7 => ?_)
                  · have c_7 := (nat_ic_ne (by omega) (by omega)).mp c_7
                    have c_7d := decide_eq_false c_7
                    refine J_ws (ws' := (iW ad g κ X (upc (upc cs 1 t) 2 b) lf pr)) (by rw [upc_comm (by decide)]) ?_
                    refine J_iinc cx (v := (nI (r + 1))) (L' := [(3, .int (nI (r + 1))), (4, .ref (ad 1 k)), (2, .ref (ad 1 i)), (0, .ref (ad 0 13)), (1, .ref (ad 0 15))]) dX6_findBest_89 1 rfl (by exact nI_add r 1) (by decide) rfl ?_
                    refine J_goto cx (tgt := 43) dX6_findBest_92 (by decide) ?_
                    refine J_L [0, 2, 3, 4] rfl ?_
                    exact ih (r + 1) t b (by omega) hkp ((fbL_step hr3 (fbB_no hk c_7)).symm.trans heq) (by omega)
                  · have c_7 := (nat_ic_ne_f (by omega) (by omega)).mp c_7
                    have c_7d := decide_eq_true c_7
                    refine J_aload_n cx dX6_findBest_71 rfl 3 rfl ?_
                    refine J_aload cx dX6_findBest_72 0 rfl ?_
                    have hrk := c_7
                    have h6 := refC_sz hI hkb (by omega) hrk
                    refine J_callVi cx kX6_221 (As := [.ref (ad 1 k)]) (tX1_add l D g A ad κ X (upc cs 2 b) lf pr  1 t k (by decide) (by omega) hkb) ⟨rfl, rfl, by simp only [rmB]; omega, by simp only [rmB]; omega⟩ ⟨by simp only [rmB]; omega, by simp only [rmB]; omega⟩ rfl (11 + 2 * 1) (iG_ch (by decide)) rfl rfl (Nat.le_of_ble_eq_true rfl) dX6_findBest_74 ?_
                    intro _ _ hr; cases hr
                    refine J_if_eq cx (tgt := 89) dX6_findBest_77 (by decide) (fun h => absurd h (by decide)) (fun _ => ?_)
                    refine J_ws (ws' := (iW ad g κ X (upc (upc cs 2 b) 1 (addC t k)) lf pr)) rfl ?_
                    refine J_ws (ws' := (iW ad g κ X (upc (upc cs 1 (addC t k)) 2 b) lf pr)) (by rw [upc_comm (by decide)]) ?_
                    have hfk := fbK_keep hI hS d (addC t k) b (addC_ok hkp.1 (by show t.2.1 < 7; omega) hkb) hkp.2.1 (by show 1 ≤ t.2.1 + 1; omega)
                    have hfs : (fbK κ X d (addC t k) b).1.2.1 = t.2.1 + 1 := congrArg Prod.fst hfk.2.2.1
                    have hfb : fbB κ X (fbK κ X d) i r (t, b) = (popC (fbK κ X d (addC t k) b).1, (fbK κ X d (addC t k) b).2) := fbB_some hk hrk
                    refine J_aload_n cx dX6_findBest_80 rfl 3 rfl ?_
                    refine J_aload_n cx dX6_findBest_81 rfl 4 rfl ?_
                    refine J_ws (ws' := (iW ad g κ X (upc (upc cs 2 b) 1 (addC t k)) lf pr)) (by rw [upc_comm (by decide)]) ?_
                    refine J_ws (ws' := (iW ad g κ X (upc (upc cs 1 (addC t k)) 2 b) lf pr)) (by rw [upc_comm (by decide)]) ?_
                    refine J_callSv cx kX6_330 (As := [.ref (ad 0 13), .ref (ad 0 15)]) (ihd (addC t k) b (addC_ok hkp.1 (by show t.2.1 < 7; omega) hkb) hkp.2.1 (by show 1 ≤ t.2.1 + 1; omega) (by show t.2.1 + 1 + d = 8; omega)) ⟨rfl, rfl, by simp only [rmB]; omega, by simp only [rmB]; omega⟩ ⟨by simp only [rmB]; omega, by simp only [rmB]; omega⟩ rfl rfl (Nat.le_of_ble_eq_true rfl) dX6_findBest_82 ?_
                    intro _ _
                    refine J_aload_n cx dX6_findBest_85 rfl 3 rfl ?_
                    refine J_ws (ws' := (iW ad g κ X (upc (upc cs 2 ((fbK κ X d (addC t k) b).2)) 1 ((fbK κ X d (addC t k) b).1)) lf pr)) (by rw [upc_comm (by decide)]) ?_
                    refine J_callVv cx kX6_338 (As := []) (tX1_removeLast l D g A ad κ X (upc cs 2 ((fbK κ X d (addC t k) b).2)) lf pr  1 ((fbK κ X d (addC t k) b).1) (by decide) (by rw [hfs]; omega) (by rw [hfs]; omega)) ⟨rfl, rfl, by simp only [rmB]; omega, by simp only [rmB]; omega⟩ ⟨by simp only [rmB]; omega, by simp only [rmB]; omega⟩ rfl (11 + 2 * 1) (iG_ch (by decide)) rfl rfl (Nat.le_of_ble_eq_true rfl) dX6_findBest_86 ?_
                    intro _ _
                    refine J_ws (ws' := (iW ad g κ X (upc (upc cs 2 ((fbK κ X d (addC t k) b).2)) 1 (popC (fbK κ X d (addC t k) b).1)) lf pr)) rfl ?_
                    refine J_ws (ws' := (iW ad g κ X (upc (upc cs 1 (popC (fbK κ X d (addC t k) b).1)) 2 ((fbK κ X d (addC t k) b).2)) lf pr)) (by rw [upc_comm (by decide)]) ?_
                    refine J_iinc cx (v := (nI (r + 1))) (L' := [(3, .int (nI (r + 1))), (4, .ref (ad 1 k)), (2, .ref (ad 1 i)), (0, .ref (ad 0 13)), (1, .ref (ad 0 15))]) dX6_findBest_89 1 rfl (by exact nI_add r 1) (by decide) rfl ?_
                    refine J_goto cx (tgt := 43) dX6_findBest_92 (by decide) ?_
                    refine J_L [0, 2, 3, 4] rfl ?_
                    exact ih (r + 1) (popC (fbK κ X d (addC t k) b).1) ((fbK κ X d (addC t k) b).2) (by omega) (hfb ▸ fbB_keep hI hS hib h1 (fun _ t2 b2 a c e => fbK_keep hI hS d t2 b2 a c (by omega)) r (t, b) hkp) ((fbL_step hr3 hfb).symm.trans heq) (by omega)
          refine J_L [0, 1, 2, 3] rfl ?_
          exact LP _ 0 c1 c2 (by omega) ⟨hC1, hC2, rfl, fun _ _ => rfl⟩ (fbK_g hi hnb c_3).symm (Nat.lt_succ_self _)
        · refine J_aload_n cx dX6_findBest_35 rfl 2 rfl ?_
          refine J_aload_n cx dX6_findBest_36 rfl 1 rfl ?_
          refine J_ws (ws' := (iW ad g κ X (upc (upc cs 1 c1) 2 c2) lf pr)) (by rw [upc_comm (by decide)]) ?_
          refine J_callVv cx kX6_334 (As := [.ref (ad 0 13)]) (tX1_copy l D g A ad κ X cs lf pr  c1 c2 hC1) ⟨rfl, rfl, by simp only [rmB]; omega, by simp only [rmB]; omega⟩ ⟨by simp only [rmB]; omega, by simp only [rmB]; omega⟩ rfl (11 + 2 * 2) (iG_ch (by decide)) rfl rfl (Nat.le_of_ble_eq_true rfl) dX6_findBest_37 ?_
          intro _ _
          exact J_vret cx rfl (u := ()) trivial (by rw [fbK_t hi hnb c_3]) (Nat.le_of_ble_eq_true rfl) (Nat.le_of_ble_eq_true rfl) dX6_findBest_40
      refine J_aload_n cx dX6_findBest_9 rfl 2 rfl ?_
      refine J_ws (ws' := (iW ad g κ X (upc (upc cs 1 c1) 2 c2) lf pr)) (by rw [upc_comm (by decide)]) ?_
      refine J_get cx (v := .int (nI c2.2.1)) fX6_225 (11 + 2 * 2) (iG_chU (by decide)) rfl dX6_findBest_10 ?_
      refine J_if_le cx (tgt := 28) dX6_findBest_13 (by decide) (fun c_9 => ?_) (fun c_9 => ?_)
      · have c_9 := (nat_if_le (by omega)).mp c_9
        refine J_L [0, 1, 2] rfl ?_
        exact NB  (by omega)
      · have c_9 := (nat_if_le_f (by omega)).mp c_9
        refine J_aload_n cx dX6_findBest_16 rfl 1 rfl ?_
        refine J_ws (ws' := (iW ad g κ X (upc (upc cs 2 c2) 1 c1) lf pr)) (by rw [upc_comm (by decide)]) ?_
        refine J_get cx (v := .int (nI c1.2.1)) fX6_225 (11 + 2 * 1) (iG_chU (by decide)) rfl dX6_findBest_17 ?_
        refine J_aload_n cx dX6_findBest_20 rfl 2 rfl ?_
        refine J_ws (ws' := (iW ad g κ X (upc (upc cs 1 c1) 2 c2) lf pr)) (by rw [upc_comm (by decide)]) ?_
        refine J_get cx (v := .int (nI c2.2.1)) fX6_225 (11 + 2 * 2) (iG_chU (by decide)) rfl dX6_findBest_21 ?_
        refine J_icmp_lt cx (tgt := 28) dX6_findBest_24 (by decide) (fun c_10 => ?_) (fun c_10 => ?_)
        · have c_10 := (nat_ic_lt (by omega) (by omega)).mp c_10
          have c_10d := decide_eq_true c_10
          refine J_L [0, 1, 2] rfl ?_
          exact NB  (by omega)
        · have c_10 := (nat_ic_lt_f (by omega) (by omega)).mp c_10
          have c_10d := decide_eq_false (Nat.not_lt.mpr c_10)
          exact J_vret cx rfl (u := ()) trivial (by rw [fbK_p hi (by omega) (by omega)]) (Nat.le_of_ble_eq_true rfl) (Nat.le_of_ble_eq_true rfl) dX6_findBest_27
set_option maxHeartbeats 4000000 in
set_option maxRecDepth 100000 in
theorem tX6_sizeOfBest (l : Launch) (D : va_G) (g : Nat → ClassId) (A : Nat → Prop) (ad : Nat → Nat → Nat) (κ : CS) (X : XT) (cs : Nat → CT) (lf : Nat → Int64) (pr : PT)  (c1 c2 : CT) (i : Nat) (dy : Int32) (hI : InvM κ) (hS : ShX κ X) (hC1 : ShC κ c1) (hC2 : ShC κ c2) (hi : i < κ.2.2.1 0) : CtI l D g A yX6_sizeOfBest cX6_sizeOfBest 3 .int ({ frames := 12, cells := 0, slots := 0, locals := 324 } : Room) [.ref (ad 0 0), .ref (ad 1 i), .int dy] (iW ad g κ X (upc (upc cs 1 c1) 2 c2) lf pr) (nI (sbK κ X i dy c1 c2).2.2.1) (iW ad g κ X (upc (upc cs 1 ((sbK κ X i dy c1 c2).1)) 2 ((sbK κ X i dy c1 c2).2)) lf pr) := by
  have hrl := rfI_le κ i dy
  refine metJ (by decide) (Nat.le_of_ble_eq_true rfl) ?_
  intro p e s m args below meth c _ _ cx
  refine J_aload_n cx dX6_sizeOfBest_0 rfl 0 rfl ?_
  refine J_get cx (v := .ref (ad 0 15)) fX6_39 0 rfl rfl dX6_sizeOfBest_1 ?_
  refine J_callVv cx kX6_327 (As := []) (tX1_clear l D g A ad κ X (upc cs 1 c1) lf pr  2 c2 (by decide)) ⟨rfl, rfl, (by first | decide | (simp only [rmB]; omega)), (by first | decide | (simp only [rmB]; omega))⟩ ⟨(by first | decide | (simp only [rmB]; omega)), (by first | decide | (simp only [rmB]; omega))⟩ rfl (11 + 2 * 2) (iG_ch (by decide)) rfl rfl (Nat.le_of_ble_eq_true rfl) dX6_sizeOfBest_4 ?_
  intro _ _
  refine J_aload_n cx dX6_sizeOfBest_7 rfl 1 rfl ?_
  refine J_iload_n cx dX6_sizeOfBest_8 rfl 2 rfl ?_
  refine J_callVi cx kX6_206 (As := [.int dy]) (tX0_refusalOn l D g A ad κ X (upc (upc cs 1 c1) 2 (c2.1, 0, c2.2.2)) lf pr  i dy hi) ⟨rfl, rfl, (by first | decide | (simp only [rmB]; omega)), (by first | decide | (simp only [rmB]; omega))⟩ ⟨(by first | decide | (simp only [rmB]; omega)), (by first | decide | (simp only [rmB]; omega))⟩ rfl (17 + i) (iG_c (by first | assumption | omega)) rfl rfl (Nat.le_of_ble_eq_true rfl) dX6_sizeOfBest_9 ?_
  intro _ _ hr; cases hr
  refine J_bipush cx (v := nI 111) dX6_sizeOfBest_12 (by decide) ?_
  refine J_icmp_ne cx (tgt := 37) dX6_sizeOfBest_14 (by decide) (fun c_1 => ?_) (fun c_1 => ?_)
  · have c_1 := (nat_ic_ne (by omega) (by omega)).mp c_1
    have c_1d := decide_eq_false c_1
    refine J_aload_n cx dX6_sizeOfBest_37 rfl 0 rfl ?_
    refine J_get cx (v := .ref (ad 0 15)) fX6_39 0 rfl rfl dX6_sizeOfBest_38 ?_
    refine J_get cx (v := .int (nI 0)) fX6_225 (11 + 2 * 2) (iG_chU (by decide)) rfl dX6_sizeOfBest_41 ?_
    exact J_iret cx rfl (u := ()) (by rw [sbK_n c_1]) (by rw [sbK_n c_1]) (Nat.le_of_ble_eq_true rfl) (Nat.le_of_ble_eq_true rfl) dX6_sizeOfBest_44
  · have c_1 := (nat_ic_ne_f (by omega) (by omega)).mp c_1
    have c_1d := decide_eq_true c_1
    refine J_aload_n cx dX6_sizeOfBest_17 rfl 0 rfl ?_
    refine J_get cx (v := .ref (ad 0 13)) fX6_36 0 rfl rfl dX6_sizeOfBest_18 ?_
    refine J_aload_n cx dX6_sizeOfBest_21 rfl 1 rfl ?_
    refine J_iload_n cx dX6_sizeOfBest_22 rfl 2 rfl ?_
    refine J_ws (ws' := (iW ad g κ X (upc (upc cs 2 (c2.1, 0, c2.2.2)) 1 c1) lf pr)) (by rw [upc_comm (by decide)]) ?_
    refine J_callVv cx kX6_198 (As := [.ref (ad 1 i), .int dy]) (tX1_restart l D g A ad κ X (upc cs 2 (c2.1, 0, c2.2.2)) lf pr  1 c1 i dy (by decide) hi) ⟨rfl, rfl, (by first | decide | (simp only [rmB]; omega)), (by first | decide | (simp only [rmB]; omega))⟩ ⟨(by first | decide | (simp only [rmB]; omega)), (by first | decide | (simp only [rmB]; omega))⟩ rfl (11 + 2 * 1) (iG_ch (by decide)) rfl rfl (Nat.le_of_ble_eq_true rfl) dX6_sizeOfBest_23 ?_
    intro _ _
    refine J_aload_n cx dX6_sizeOfBest_26 rfl 0 rfl ?_
    refine J_get cx (v := .ref (ad 0 13)) fX6_36 0 rfl rfl dX6_sizeOfBest_27 ?_
    refine J_aload_n cx dX6_sizeOfBest_30 rfl 0 rfl ?_
    refine J_get cx (v := .ref (ad 0 15)) fX6_39 0 rfl rfl dX6_sizeOfBest_31 ?_
    refine J_ws (ws' := (iW ad g κ X (upc (upc cs 1 (va_up c1.1 0 (some i), 1, dy)) 2 (c2.1, 0, c2.2.2)) lf pr)) (by rw [upc_comm (by decide)]) ?_
    refine J_callSv cx kX6_330 (As := [.ref (ad 0 13), .ref (ad 0 15)]) (tX6_findBest l D g A ad κ X cs lf pr hI hS 7 (va_up c1.1 0 (some i), 1, dy) (c2.1, 0, c2.2.2) (restart_ok hC1 hi) (clear_ok hC2) (Nat.le_refl 1) (show 1 + 7 = 8 by decide)) ⟨rfl, rfl, (by first | decide | (simp only [rmB]; omega)), (by first | decide | (simp only [rmB]; omega))⟩ ⟨(by first | decide | (simp only [rmB]; omega)), (by first | decide | (simp only [rmB]; omega))⟩ rfl rfl (Nat.le_of_ble_eq_true rfl) dX6_sizeOfBest_34 ?_
    intro _ _
    refine J_aload_n cx dX6_sizeOfBest_37 rfl 0 rfl ?_
    refine J_get cx (v := .ref (ad 0 15)) fX6_39 0 rfl rfl dX6_sizeOfBest_38 ?_
    refine J_get cx (v := .int (nI (((fbK κ X 7 (va_up c1.1 0 (some i), 1, dy) (c2.1, 0, c2.2.2)).2).2.1))) fX6_225 (11 + 2 * 2) (iG_chU (by decide)) rfl dX6_sizeOfBest_41 ?_
    exact J_iret cx rfl (u := ()) (by rw [sbK_y c_1]) (by rw [sbK_y c_1]) (Nat.le_of_ble_eq_true rfl) (Nat.le_of_ble_eq_true rfl) dX6_sizeOfBest_44
