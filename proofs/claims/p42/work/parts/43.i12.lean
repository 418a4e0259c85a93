set_option maxHeartbeats 4000000 in
set_option maxRecDepth 100000 in
theorem tX6_step (l : Launch) (D : va_G) (g : Nat → ClassId) (A : Nat → Prop) (ad : Nat → Nat → Nat) (κ : CS) (X : XT) (cs : Nat → CT) (lf : Nat → Int64) (pr : PT)  (c0 : CT) (rk : Int32) (htr : l.stackTraces = false) (hS : ShX κ X) (hI : InvM κ) (hW : WLK κ c0) (hCd : ∀ i, i < κ.2.2.1 0 → ∀ rk, cdC X i rk = fstN (nthB κ i rk) (κ.2.2.1 0)) : vx_Met l yX6_step (wsA yX6_step cX6_step 4 (some .char)) ({ frames := 7, cells := 2, slots := 12, locals := 113 } : Room) (va_Pc [.ref (ad 0 0), .int rk] (PRE D g A (iW ad g κ X (upc cs 0 c0) lf pr))) (va_Qi (fun (r : Int32) (_ : Unit) => ((opStep κ rk)).1 = 0 ∧ r = ((opStep κ rk)).2.1) (fun _ => PO D A (iW ad g (((opStep κ rk)).2.2) X (upc cs 0 (stC κ c0 rk)) lf pr)) A) (XQ (fun E => thrE ["java/lang/IllegalStateException", "java/lang/IndexOutOfBoundsException"] ((opStep κ rk)).1 E) D A (iW ad g κ X (upc cs 0 c0) lf pr)) 2 12 A := by
  have hn := hS.1
  refine metX (by decide) (Nat.le_of_ble_eq_true rfl) ?_
  intro p e s m args below meth c _ hex cx
  refine J_aload_n cx dX6_step_0 rfl 0 rfl ?_
  refine J_aload_n cx dX6_step_1 rfl 0 rfl ?_
  refine J_xcallVq cx hex kX6_213 (As := []) (tX6_requireReached l D g A ad κ X cs lf pr  c0 htr hW) (fun E h => by obtain ⟨h1, h2⟩ := h; subst h2; rw [opStep_0 h1]; exact ⟨show 1 ≠ 0 by decide, rfl⟩) ⟨by decide, by decide⟩ ⟨rfl, rfl, by decide, by decide⟩ ⟨by decide, by decide⟩ rfl 0 rfl rfl rfl (Nat.le_of_ble_eq_true rfl) dX6_step_2 ?_
  intro _ e hr; obtain ⟨hlc, hr⟩ := hr; subst hr
  refine J_top (v' := .ref (ad 1 e)) rfl ?_
  obtain ⟨hw0, hwk⟩ := lastC_s hW hlc
  have heb := lastC_lt hW.1 hlc
  have hw0d := decide_eq_false hw0
  refine J_iload_n cx dX6_step_5 rfl 1 rfl ?_
  refine J_xcallVq cx hex kX6_182 (As := [.ref (ad 1 e), .int rk]) (tX6_requireCandidate l D g A ad κ X (upc cs 0 c0) lf pr  e rk htr hS heb) (fun E h => by obtain ⟨h1, h2⟩ := h; subst h2; rw [opStep_n hw0 (by rw [← hwk, ← hCd e heb]; exact h1)]; exact ⟨show 2 ≠ 0 by decide, rfl⟩) ⟨by decide, by decide⟩ ⟨rfl, rfl, by decide, by decide⟩ ⟨by decide, by decide⟩ rfl 0 rfl rfl rfl (Nat.le_of_ble_eq_true rfl) dX6_step_6 ?_
  intro _ k hr; obtain ⟨hkc, hr⟩ := hr; subst hr
  refine J_top (v' := .ref (ad 1 k)) rfl ?_
  have hkb := (cdC_lt hS (show e < κ.2.2.1 0 by assumption) hkc).1
  have hfs : fstN (nthB κ (κ.2.2.2.1 (κ.2.2.1 3 - 1)) rk) (κ.2.2.1 0) = some k := by rw [← hwk, ← hCd e heb]; exact hkc
  have hk1 := opStep_k hw0 hfs; have hk2 := stC_k (c0 := c0) hfs
  refine J_astore_n cx (L' := [(2, .ref (ad 1 k)), (0, .ref (ad 0 0)), (1, .int rk)]) dX6_step_9 rfl (by decide) rfl ?_
  refine J_aload_n cx dX6_step_10 rfl 1 rfl ?_
  refine J_get cx (v := .ref (ad 0 11)) fX6_32 0 rfl rfl dX6_step_11 ?_
  refine J_aload_n cx dX6_step_14 rfl 0 rfl ?_
  refine J_callVi cx kX6_217 (As := [.ref (ad 1 k)]) (tX1_refusalOf l D g A ad κ X cs lf pr  0 c0 k (by decide) hS hI hW.1 hkb (by have := hW.2.1; omega)) ⟨rfl, rfl, by decide, by decide⟩ ⟨by decide, by decide⟩ rfl (11 + 2 * 0) (iG_ch (by decide)) rfl rfl (Nat.le_of_ble_eq_true rfl) dX6_step_15 ?_
  intro _ _ hr; cases hr
  refine J_top (v' := .int (nI (refC κ κ.2.2.2.1 (κ.2.2.1 3) k κ.2.2.2.2))) (by rw [refC_w hW]) ?_
  have hrl := refC_le κ κ.2.2.2.1 (κ.2.2.1 3) k κ.2.2.2.2
  refine J_istore_n cx (L' := [(3, .int (nI (refC κ κ.2.2.2.1 (κ.2.2.1 3) k κ.2.2.2.2))), (2, .ref (ad 1 k)), (0, .ref (ad 0 0)), (1, .int rk)]) dX6_step_18 rfl (by decide) rfl ?_
  refine J_iload_n cx dX6_step_19 rfl 0 rfl ?_
  refine J_bipush cx (v := nI 111) dX6_step_20 (by decide) ?_
  refine J_icmp_ne cx (tgt := 34) dX6_step_22 (by decide) (fun c_1 => ?_) (fun c_1 => ?_)
  · have c_1 := (nat_ic_ne (by omega) (by omega)).mp c_1
    have c_1d := decide_eq_false c_1
    refine J_iload_n cx dX6_step_34 rfl 0 rfl ?_
    refine J_x ?_
    exact J_zret cx rfl (u := ()) (by first | decide | exact (pk_charN (by omega)).1) ⟨by rw [hk1]; split <;> rfl, by rw [hk1]; split <;> simp_all⟩ (by rw [hk1, hk2]; split <;> first | rfl | simp_all) (Nat.le_of_ble_eq_true rfl) (Nat.le_of_ble_eq_true rfl) dX6_step_35
  · have c_1 := (nat_ic_ne_f (by omega) (by omega)).mp c_1
    have c_1d := decide_eq_true c_1
    have hsz2 := hW.2.1; have hsz3 := hW.1.1
    have hsz := refC_sz hI hkb (by omega) c_1
    refine J_aload_n cx dX6_step_25 rfl 2 rfl ?_
    refine J_get cx (v := .ref (ad 0 11)) fX6_32 0 rfl rfl dX6_step_26 ?_
    refine J_aload_n cx dX6_step_29 rfl 1 rfl ?_
    refine J_callVi cx kX6_221 (As := [.ref (ad 1 k)]) (tX1_add l D g A ad κ X cs lf pr  0 c0 k (by decide) (by omega) hkb) ⟨rfl, rfl, by decide, by decide⟩ ⟨by decide, by decide⟩ rfl (11 + 2 * 0) (iG_ch (by decide)) rfl rfl (Nat.le_of_ble_eq_true rfl) dX6_step_30 ?_
    intro _ _ hr; cases hr
    refine J_pop cx dX6_step_33 rfl ?_
    refine J_iload_n cx dX6_step_34 rfl 0 rfl ?_
    refine J_x ?_
    exact J_zret cx rfl (u := ()) (by first | decide | exact (pk_charN (by omega)).1) ⟨by rw [hk1]; split <;> rfl, by rw [hk1]; split <;> simp_all⟩ (by rw [hk1, hk2]; split <;> first | rfl | simp_all) (Nat.le_of_ble_eq_true rfl) (Nat.le_of_ble_eq_true rfl) dX6_step_35
