set_option maxHeartbeats 4000000 in
set_option maxRecDepth 100000 in
theorem tL_found (l : Launch) (D : va_G) (g : Nat → ClassId) (A : Nat → Prop) (an : Nat) (N : Nat → Int32) (κ : CS) (wr : va_W) (ci : Nat) (on : Int32) (hN : NT N κ) (hI : InvM κ) (hci : ci < κ.2.2.1 0) : Met l yL_found (wsA yL_found cL_found 5 (some (.array .int))) ({ frames := 17, cells := 2, slots := 24, locals := 467 } : Room) (va_Pc [.ref an, .int (nI ci), .int on] (PRE D g A (iA g an 700 N :: wr))) (va_Qr (fun (_ : Unit) => True) (fun _ r => PO D A (iA g an 700 N :: iA g r 12 (fun i => nI (foF κ ci on i)) :: wr)) A) 2 24 A := by
  have hn := hI.1
  refine metJ (by decide) (Nat.le_of_ble_eq_true rfl) ?_
  intro p e s m args below meth c _ _ cx
  refine J_bipush cx (v := nI 12) dL_found_0 (by decide) ?_
  refine J_newa cx (atype := .int) ac45 rfl 0 rfl (fun C h => by cases h) (N' := 12) (a0 := (12, .inl (fun _ => nI 0))) (fun cA => rfl) (by decide) (by decide) (by decide) ⟨by decide, by decide⟩ dL_found_2 (fun q2 => ?_)
  refine J_ws (ws' := iA g an 700 N :: ((wr) ++ [iA g q2 12 (fun i => nI ((fun _ => 0) i))])) rfl ?_
  refine J_perm (pm_a _ _ _) ?_
  refine J_astore_n cx (L' := [(3, .ref q2), (0, .ref an), (1, .int (nI ci)), (2, .int on)]) dL_found_4 rfl (by decide) rfl ?_
  refine J_bipush cx (v := nI 12) dL_found_5 (by decide) ?_
  refine J_newa cx (atype := .int) ac45 rfl 0 rfl (fun C h => by cases h) (N' := 12) (a0 := (12, .inl (fun _ => nI 0))) (fun cA => rfl) (by decide) (by decide) (by decide) ⟨by decide, by decide⟩ dL_found_7 (fun q7 => ?_)
  refine J_ws (ws' := iA g an 700 N :: ((iA g q2 12 (fun i => nI ((fun _ => 0) i)) :: wr) ++ [iA g q7 12 (fun i => nI ((fun _ => 0) i))])) rfl ?_
  refine J_perm (pm_a _ _ _) ?_
  refine J_astore cx (L' := [(4, .ref q7), (3, .ref q2), (0, .ref an), (1, .int (nI ci)), (2, .int on)]) dL_found_9 (by decide) rfl ?_
  refine J_aload cx dL_found_11 0 rfl ?_
  refine J_iconst cx (v := nI 0) dL_found_13 (by decide) ?_
  refine J_iload_n cx dL_found_14 rfl 3 rfl ?_
  refine J_iast cx (ws' := (iA g an 700 N :: iA g q7 12 (fun i => nI ((upn (fun _ => 0) 0 ci) i)) :: iA g q2 12 (fun i => nI ((fun _ => 0) i)) :: wr)) (j := 0) 1 rfl rfl (by omega) (by decide) (by rw [upn_nI]; rfl) dL_found_15 ?_
  refine J_aload_n cx dL_found_16 rfl 2 rfl ?_
  refine J_iload_n cx dL_found_17 rfl 3 rfl ?_
  refine J_iload_n cx dL_found_18 rfl 4 rfl ?_
  refine J_callSi cx kL_120 (As := [.ref an, .int (nI ci), .int on]) (tL_isValid l D g A an N κ (iA g q7 12 (fun i => nI ((upn (fun _ => 0) 0 ci) i)) :: iA g q2 12 (fun i => nI ((fun _ => 0) i)) :: wr) ci on hN (by omega) hn) ⟨rfl, rfl, by first | decide | (simp only [rmK]; omega), by first | decide | (simp only [rmK]; omega)⟩ ⟨by first | decide | (simp only [rmK]; omega), by first | decide | (simp only [rmK]; omega)⟩ rfl rfl (Nat.le_of_ble_eq_true rfl) dL_found_19 ?_
  intro _ _ hr; cases hr
  refine J_ifz_eq cx (tgt := 43) dL_found_22 (by decide) (fun c_1 => ?_) (fun c_1 => ?_)
  · refine J_aload_n cx dL_found_43 rfl 1 rfl ?_
    refine J_drop ?_
    exact J_rretA cx rfl (u := ()) trivial (by rw [show foF κ ci on = (fun _ => 0) from by unfold foF beginB; simp [c_1]]) (Nat.le_of_ble_eq_true rfl) (Nat.le_of_ble_eq_true rfl) dL_found_44
  · refine J_aload_n cx dL_found_25 rfl 2 rfl ?_
    refine J_iload_n cx dL_found_26 rfl 3 rfl ?_
    refine J_iload_n cx dL_found_27 rfl 4 rfl ?_
    refine J_callSi cx kL_123 (As := [.ref an, .int (nI ci), .int on]) (tL_isOff l D g A an N κ (iA g q7 12 (fun i => nI ((upn (fun _ => 0) 0 ci) i)) :: iA g q2 12 (fun i => nI ((fun _ => 0) i)) :: wr) ci on hN (by omega) hn) ⟨rfl, rfl, by first | decide | (simp only [rmK]; omega), by first | decide | (simp only [rmK]; omega)⟩ ⟨by first | decide | (simp only [rmK]; omega), by first | decide | (simp only [rmK]; omega)⟩ rfl rfl (Nat.le_of_ble_eq_true rfl) dL_found_28 ?_
    intro _ _ hr; cases hr
    refine J_ifz_ne cx (tgt := 43) dL_found_31 (by decide) (fun c_2 => ?_) (fun c_2 => ?_)
    · refine J_aload_n cx dL_found_43 rfl 1 rfl ?_
      refine J_drop ?_
      exact J_rretA cx rfl (u := ()) trivial (by rw [show foF κ ci on = (fun _ => 0) from by unfold foF beginB; simp [c_1, c_2]]) (Nat.le_of_ble_eq_true rfl) (Nat.le_of_ble_eq_true rfl) dL_found_44
    · refine J_aload_n cx dL_found_34 rfl 2 rfl ?_
      refine J_aload cx dL_found_35 0 rfl ?_
      refine J_iconst cx (v := nI 1) dL_found_37 (by decide) ?_
      refine J_iload_n cx dL_found_38 rfl 4 rfl ?_
      refine J_aload_n cx dL_found_39 rfl 1 rfl ?_
      refine J_callSv cx kL_134 (As := [.ref an, .ref q7, .int (nI 1), .int on, .ref q2]) (tL_chains l D g A an N κ wr q7 q2 on hN hI 7 1 (upn (fun _ => 0) 0 ci) (fun _ => 0) (by decide) (by decide) (by decide) (fun z hz => by rw [show z = 0 from by omega, upn_eq]; exact hci) (by decide)) ⟨rfl, rfl, by first | decide | (simp only [rmK]; omega), by first | decide | (simp only [rmK]; omega)⟩ ⟨by first | decide | (simp only [rmK]; omega), by first | decide | (simp only [rmK]; omega)⟩ rfl rfl (Nat.le_of_ble_eq_true rfl) dL_found_40 ?_
      intro _ _
      refine J_aload_n cx dL_found_43 rfl 1 rfl ?_
      refine J_drop ?_
      exact J_rretA cx rfl (u := ()) trivial (by rw [show foF κ ci on = (ckK κ on 7 1 (upn (fun _ => 0) 0 ci, (fun _ => 0))).2 from by unfold foF beginB; simp [c_1, c_2]]) (Nat.le_of_ble_eq_true rfl) (Nat.le_of_ble_eq_true rfl) dL_found_44
