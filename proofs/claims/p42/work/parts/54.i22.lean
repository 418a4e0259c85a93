def cpR (t b : CT) (k : Nat) : Nat → Option Nat := fun r => if r < k then t.1 r else b.1 r
def cpC (t b : CT) : CT := (cpR t b t.2.1, t.2.1, t.2.2)
theorem cpR_s {κ : CS} {t b : CT} {k : Nat} (h : ShC κ t) (hk : k < t.2.1) : va_up (cpR t b k) k (some (wyO t k)) = cpR t b (k + 1) := by
  funext r; unfold va_up cpR
  by_cases e : r = k
  · subst e; simp [(wyO_at h hk).1]
  · by_cases e2 : r < k
    · simp [e, e2, show r < k + 1 by omega]
    · simp [e, e2, show ¬ r < k + 1 by omega]
theorem cpR_0 {t b : CT} : cpR t b 0 = b.1 := by funext r; unfold cpR; rw [if_neg (by omega)]
set_option maxHeartbeats 4000000 in
set_option maxRecDepth 100000 in
theorem tX1_copy (l : Launch) (D : va_G) (g : Nat → ClassId) (A : Nat → Prop) (ad : Nat → Nat → Nat) (κ : CS) (X : XT) (cs : Nat → CT) (lf : Nat → Int64) (pr : PT)  (c1 c2 : CT)  (hC1 : ShC κ c1) : CtV l D g A yX1_copy cX1_copy 3 ({ frames := 1, cells := 0, slots := 0, locals := 21 } : Room) [.ref (ad 0 15), .ref (ad 0 13)] (iW ad g κ X (upc (upc cs 1 c1) 2 c2) lf pr) (iW ad g κ X (upc (upc cs 1 c1) 2 (cpC c1 c2)) lf pr) := by
  have hz := hC1.1
  refine metJ (by decide) (Nat.le_of_ble_eq_true rfl) ?_
  intro p e s m args below meth c _ _ cx
  refine J_aload_n cx dX1_copy_0 rfl 0 rfl ?_
  refine J_iconst cx (v := nI 0) dX1_copy_1 (by decide) ?_
  refine J_put cx (ws' := (iW ad g κ X (upc (upc cs 1 c1) 2 (c2.1, 0, c2.2.2)) lf pr)) fX1_17 ⟨tyX1_ok, nmX1, tyX1_ok 1 (by decide)⟩ rfl (11 + 2 * 2) (iG_chU (by decide)) rfl rfl (Nat.le_of_ble_eq_true rfl) (iG_setchU (s := 0) (d := c2.2.2) (by decide)) dX1_copy_2 ?_
  refine J_aload_n cx dX1_copy_5 rfl 0 rfl ?_
  refine J_aload_n cx dX1_copy_6 rfl 1 rfl ?_
  refine J_ws (ws' := (iW ad g κ X (upc (upc cs 2 (c2.1, 0, c2.2.2)) 1 c1) lf pr)) (by rw [upc_comm (by decide)]) ?_
  refine J_get cx (v := .int c1.2.2) fX1_21 (11 + 2 * 1) (iG_chU (by decide)) rfl dX1_copy_7 ?_
  refine J_ws (ws' := (iW ad g κ X (upc (upc cs 1 c1) 2 (c2.1, 0, c2.2.2)) lf pr)) (by rw [upc_comm (by decide)]) ?_
  refine J_put cx (ws' := (iW ad g κ X (upc (upc cs 1 c1) 2 (c2.1, 0, c1.2.2)) lf pr)) fX1_21 ⟨tyX1_ok, nmX1, tyX1_ok 2 (by decide)⟩ rfl (11 + 2 * 2) (iG_chU (by decide)) rfl rfl (Nat.le_of_ble_eq_true rfl) (iG_setchU (s := 0) (d := c1.2.2) (by decide)) dX1_copy_10 ?_
  refine J_ws (ws' := (iW ad g κ X (upc (upc cs 1 c1) 2 (cpR c1 c2 0, 0, c1.2.2)) lf pr)) (by rw [cpR_0]) ?_
  refine J_iconst cx (v := nI 0) dX1_copy_13 (by decide) ?_
  refine J_istore_n cx (L' := [(2, .int (nI 0)), (0, .ref (ad 0 15)), (1, .ref (ad 0 13))]) dX1_copy_14 rfl (by decide) rfl ?_
  have LP : ∀ (fu : Nat) (k : Nat), (k ≤ c1.2.1) → c1.2.1 - k < fu → J p l e ({ frames := 1, cells := 0, slots := 0, locals := 21 } : Room) s m args below meth c D A 3 (MQ below (va_Qv (fun (_ : Unit) => True) (fun _ => PO D A (iW ad g κ X (upc (upc cs 1 c1) 2 (cpC c1 c2)) lf pr)) A) args s 0 0 A) 0 0 (iW ad g κ X (upc (upc cs 1 c1) 2 (cpR c1 c2 k, k, c1.2.2)) lf pr) [(2, .int (nI k)), (0, .ref (ad 0 15)), (1, .ref (ad 0 13))] 15 [] := by
    intro fu; induction fu with
    | zero => intro k hk hfu; exact absurd hfu (Nat.not_lt_zero _)
    | succ fu ih =>
      intro k hk hfu
      refine J_iload_n cx dX1_copy_15 rfl 0 rfl ?_
      refine J_aload_n cx dX1_copy_16 rfl 2 rfl ?_
      refine J_ws (ws' := (iW ad g κ X (upc (upc cs 2 (cpR c1 c2 k, k, c1.2.2)) 1 c1) lf pr)) (by rw [upc_comm (by decide)]) ?_
      refine J_get cx (v := .int (nI c1.2.1)) fX1_17 (11 + 2 * 1) (iG_chU (by decide)) rfl dX1_copy_17 ?_
      refine J_icmp_ge cx (tgt := 39) dX1_copy_20 (by decide) (fun c_1 => ?_) (fun c_1 => ?_)
      · have c_1 := (nat_ic_ge (by omega) (by omega)).mp c_1
        have c_1d := decide_eq_true c_1
        refine J_ws (ws' := (iW ad g κ X (upc (upc cs 1 c1) 2 (cpR c1 c2 k, k, c1.2.2)) lf pr)) (by rw [upc_comm (by decide)]) ?_
        exact J_vret cx rfl (u := ()) trivial (by rw [show k = c1.2.1 from by omega]; try rfl) (Nat.le_of_ble_eq_true rfl) (Nat.le_of_ble_eq_true rfl) dX1_copy_39
      · have c_1 := (nat_ic_ge_f (by omega) (by omega)).mp c_1
        have c_1d := decide_eq_false (Nat.not_le.mpr c_1)
        refine J_aload_n cx dX1_copy_23 rfl 1 rfl ?_
        refine J_aload_n cx dX1_copy_24 rfl 2 rfl ?_
        refine J_iload_n cx dX1_copy_25 rfl 0 rfl ?_
        refine J_callVq cx kX1_28 (As := [.int (nI k)]) (tX1_at l D g A ad κ X (upc cs 2 (cpR c1 c2 k, k, c1.2.2)) lf pr  1 c1 (nI k) (by decide) (by omega)) ⟨rfl, rfl, by decide, by decide⟩ ⟨by decide, by decide⟩ rfl (11 + 2 * 1) (iG_ch (by decide)) rfl rfl (Nat.le_of_ble_eq_true rfl) dX1_copy_26 ?_
        intro _ _ hr; cases hr
        refine J_top (v' := .ref (ad 1 (wyO c1 k))) (by rw [atC_at hC1 (by omega)]; rfl) ?_
        refine J_ws (ws' := (iW ad g κ X (upc (upc cs 1 c1) 2 (cpR c1 c2 k, k, c1.2.2)) lf pr)) (by rw [upc_comm (by decide)]) ?_
        refine J_callVi cx kX1_24 (As := [.ref (ad 1 (wyO c1 k))]) (tX1_add l D g A ad κ X (upc cs 1 c1) lf pr  2 (cpR c1 c2 k, k, c1.2.2) (wyO c1 k) (by decide) (by show k < 7; omega) (wyO_at hC1 (by omega)).2) ⟨rfl, rfl, by decide, by decide⟩ ⟨by decide, by decide⟩ rfl (11 + 2 * 2) (iG_ch (by decide)) rfl rfl (Nat.le_of_ble_eq_true rfl) dX1_copy_29 ?_
        intro _ _ hr; cases hr
        refine J_pop cx dX1_copy_32 rfl ?_
        refine J_ws (ws' := (iW ad g κ X (upc (upc cs 1 c1) 2 (cpR c1 c2 (k + 1), k + 1, c1.2.2)) lf pr)) (by rw [cpR_s hC1 (by omega)]) ?_
        refine J_iinc cx (v := (nI (k + 1))) (L' := [(2, .int (nI (k + 1))), (0, .ref (ad 0 15)), (1, .ref (ad 0 13))]) dX1_copy_33 0 rfl (by exact nI_add k 1) (by decide) rfl ?_
        refine J_goto cx (tgt := 15) dX1_copy_36 (by decide) ?_
        refine J_L [0, 1, 2] rfl ?_
        exact ih (k + 1) (by omega) (by omega)
  refine J_L [0, 1, 2] rfl ?_
  exact LP _ 0 (by omega) (Nat.lt_succ_self _)
