def TIE (κ : CS) (X : XT) : Prop := ∀ i, i < κ.2.2.1 0 → κ.2.1 1 i = decide (X.1 i = X.2.1 i) ∧ κ.1 0 i = X.2.2.1 (X.1 i) ∧ κ.1 1 i = nI (X.1 i + 1) ∧ κ.1 4 i = X.2.2.1 (X.2.1 i) ∧ κ.1 5 i = nI (X.2.1 i + 1)
set_option maxHeartbeats 4000000 in
set_option maxRecDepth 100000 in
theorem tX6_find (l : Launch) (D : va_G) (g : Nat → ClassId) (A : Nat → Prop) (ad : Nat → Nat → Nat) (κ : CS) (X : XT) (cs : Nat → CT) (lf : Nat → Int64) (pr : PT)  (xc : Int32) (htr : l.stackTraces = false) (hS : ShX κ X) : vx_Met l yX6_find (wsA yX6_find cX6_find 3 (some (.object "Certhold$Certificate"))) ({ frames := 6, cells := 1, slots := 6, locals := 90 } : Room) (va_Pc [.ref (ad 0 0), .int xc] (PRE D g A (iW ad g κ X cs lf pr))) (va_Qq (fun (r : Option Nat) (u : Nat) => u < κ.2.2.1 0 ∧ xc = nI u ∧ r = some (ad 1 u)) (fun _ => PO D A (iW ad g κ X cs lf pr)) A) (XQ (fun E => inR (κ.2.2.1 0) xc = false ∧ E = nsE) D A (iW ad g κ X cs lf pr)) 1 6 A := by
  have hn := hS.1
  rcases i32_cases xc with ⟨j, hj, rfl⟩ | hneg
  · refine metX (by decide) (Nat.le_of_ble_eq_true rfl) ?_
    intro p e s m args below meth c _ hex cx
    refine J_iload_n cx dX6_find_0 rfl 1 rfl ?_
    refine J_if_lt cx (tgt := 13) dX6_find_1 (by decide) (fun h => absurd h (nI_pos (by omega))) (fun _ => ?_)
    refine J_iload_n cx dX6_find_4 rfl 1 rfl ?_
    refine J_aload_n cx dX6_find_5 rfl 0 rfl ?_
    refine J_get cx (v := .ref (ad 0 1)) fX6_11 0 rfl rfl dX6_find_6 ?_
    refine J_alen cx (v := nI 40) 1 rfl (t0 := 3) rfl rfl dX6_find_9 ?_
    refine J_icmp_lt cx (tgt := 17) dX6_find_10 (by decide) (fun c_2 => ?_) (fun c_2 => ?_)
    · have c_2 := (nat_ic_lt (by omega) (by omega)).mp c_2
      have c_2d := decide_eq_true c_2
      refine J_aload_n cx dX6_find_17 rfl 0 rfl ?_
      refine J_get cx (v := .ref (ad 0 1)) fX6_11 0 rfl rfl dX6_find_18 ?_
      refine J_iload_n cx dX6_find_21 rfl 1 rfl ?_
      refine J_aald cx (j := j) (f := rfa ad (made (κ.2.2.1 0))) 1 rfl rfl (by omega) (by decide) dX6_find_22 ?_
      refine J_astore_nq cx (L' := [(2, va_rf (rfa ad (made (κ.2.2.1 0)) j)), (0, .ref (ad 0 0)), (1, .int (nI j))]) dX6_find_23 rfl (by decide) rfl ?_
      refine J_aload_nq cx dX6_find_24 rfl 0 rfl ?_
      refine J_ifnonnull cx (tgt := 39) dX6_find_25 (by decide) (fun y_4 c_3 => ?_) (fun c_3 => ?_)
      · have c_3v := c_3
        obtain ⟨k, hkm, hky⟩ := rfa_some c_3; obtain ⟨hk, hke⟩ := made_some hkm; have hke := hke.symm; subst hke; subst hky
        refine J_Le (L' := [(2, .ref (ad 1 j)), (0, .ref (ad 0 0)), (1, .int (nI j))]) (by rw [c_3v]; rfl) ?_
        refine J_aload_n cx dX6_find_39 rfl 0 rfl ?_
        refine J_x ?_
        exact J_qret cx rfl (u := j) (v := some (ad 1 j)) ⟨by assumption, rfl, rfl⟩ rfl (Nat.le_of_ble_eq_true rfl) (Nat.le_of_ble_eq_true rfl) dX6_find_40
      · have c_3n := made_none (rfa_none c_3)
        exact J_throwN cx hex htr rfl (List.mem_of_getElem? (i := 1) rfl) ⟨by rw [inR_nI hj]; exact decide_eq_false (by omega), rfl⟩ dX6_find_28 dX6_find_31 ⟨dX6_find_32, dX6_find_35, dX6_find_38⟩ ⟨by decide, by decide, by decide, by decide⟩ ⟨by decide, by decide⟩
    · have c_2 := (nat_ic_lt_f (by omega) (by omega)).mp c_2
      have c_2d := decide_eq_false (Nat.not_lt.mpr c_2)
      refine J_null cx dX6_find_13 ?_
      refine J_top (v' := va_rf none) rfl ?_
      refine J_goto cx (tgt := 23) dX6_find_14 (by decide) ?_
      refine J_astore_nq cx (L' := [(2, va_rf none), (0, .ref (ad 0 0)), (1, .int (nI j))]) dX6_find_23 rfl (by decide) rfl ?_
      refine J_aload_nq cx dX6_find_24 rfl 0 rfl ?_
      refine J_ifnonnull cx (r := none) (tgt := 39) dX6_find_25 (by decide) (fun _ h => by cases h) (fun _ => ?_)
      exact J_throwN cx hex htr rfl (List.mem_of_getElem? (i := 1) rfl) ⟨by rw [inR_nI hj]; exact decide_eq_false (by omega), rfl⟩ dX6_find_28 dX6_find_31 ⟨dX6_find_32, dX6_find_35, dX6_find_38⟩ ⟨by decide, by decide, by decide, by decide⟩ ⟨by decide, by decide⟩
  · refine metX (by decide) (Nat.le_of_ble_eq_true rfl) ?_
    intro p e s m args below meth c _ hex cx
    refine J_iload_n cx dX6_find_0 rfl 1 rfl ?_
    refine J_if_lt cx (tgt := 13) dX6_find_1 (by decide) (fun c_1 => ?_) (fun c_1 => ?_)
    · have c_1d := decide_eq_true c_1
      refine J_null cx dX6_find_13 ?_
      refine J_top (v' := va_rf none) rfl ?_
      refine J_goto cx (tgt := 23) dX6_find_14 (by decide) ?_
      refine J_astore_nq cx (L' := [(2, va_rf none), (0, .ref (ad 0 0)), (1, .int xc)]) dX6_find_23 rfl (by decide) rfl ?_
      refine J_aload_nq cx dX6_find_24 rfl 0 rfl ?_
      refine J_ifnonnull cx (r := none) (tgt := 39) dX6_find_25 (by decide) (fun _ h => by cases h) (fun _ => ?_)
      exact J_throwN cx hex htr rfl (List.mem_of_getElem? (i := 1) rfl) ⟨inR_neg hneg, rfl⟩ dX6_find_28 dX6_find_31 ⟨dX6_find_32, dX6_find_35, dX6_find_38⟩ ⟨by decide, by decide, by decide, by decide⟩ ⟨by decide, by decide⟩
    · have c_1d := decide_eq_false c_1
      exact absurd hneg c_1
