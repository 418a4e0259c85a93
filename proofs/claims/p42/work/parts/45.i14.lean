theorem cnt_mono {p q : Nat → Bool} {n : Nat} (h : ∀ k, k < n → p k = true → q k = true) : cnt p n ≤ cnt q n := by
  induction n with
  | zero => exact Nat.le_refl _
  | succ n ih =>
    have h1 := ih (fun k hk => h k (by omega))
    show cnt p n + (if p n then 1 else 0) ≤ cnt q n + (if q n then 1 else 0)
    by_cases hp : p n = true
    · rw [if_pos hp, if_pos (h n (by omega) hp)]; omega
    · rw [if_neg hp]; split <;> omega
def pbX (κ : CS) (X : XT) (xc : Int32) : XT := if decide (0 < cnt (pendB κ (κ.1 1 (xj xc))) (κ.2.2.1 0)) then kpX X (nI (κ.2.2.1 2)) (teL κ X (X.1 (xj xc)) 40) else X
theorem pend_le {κ : CS} {ky : Int32} {n : Nat} : cnt (pendB κ ky) n ≤ cnt (fun k => decide (κ.1 9 k < 0)) n := cnt_mono fun k _ h => by
  have h2 : (decide (κ.1 5 k = ky) && (κ.2.1 3 k && decide (κ.1 9 k < 0))) = true := h
  simp only [Bool.and_eq_true] at h2
  exact h2.2.2
set_option maxHeartbeats 4000000 in
set_option maxRecDepth 100000 in
theorem tX6_publish (l : Launch) (D : va_G) (g : Nat → ClassId) (A : Nat → Prop) (ad : Nat → Nat → Nat) (κ : CS) (X : XT) (cs : Nat → CT) (lf : Nat → Int64) (pr : PT)  (xc : Int32) (htr : l.stackTraces = false) (hS : ShX κ X) (hT : TIE κ X) (hI : InvM κ) (hle : X.2.2.2.2.2.1 + cnt (fun k => decide (κ.1 9 k < 0)) (κ.2.2.1 0) ≤ 40) : vx_Met l yX6_publish (wsA yX6_publish cX6_publish 4 (some .int)) ({ frames := 7, cells := 2, slots := 12, locals := 112 } : Room) (va_Pc [.ref (ad 0 0), .int xc] (PRE D g A (iW ad g κ X cs lf pr))) (va_Qi (fun (r : Int32) (_ : Unit) => ((opPublish κ xc)).1 = 0 ∧ r = ((opPublish κ xc)).2.1) (fun _ => PO D A (iW ad g (((opPublish κ xc)).2.2) (pbX κ X xc) cs lf pr)) A) (XQ (fun E => thrE [nsE, "java/lang/IllegalStateException"] ((opPublish κ xc)).1 E) D A (iW ad g κ X cs lf pr)) 2 12 A := by
  have hn := hS.1
  refine metX (by decide) (Nat.le_of_ble_eq_true rfl) ?_
  intro p e s m args below meth c _ hex cx
  refine J_aload_n cx dX6_publish_0 rfl 0 rfl ?_
  refine J_iload_n cx dX6_publish_1 rfl 1 rfl ?_
  refine J_xcallVq cx hex kX6_73 (As := [.int xc]) (tX6_find l D g A ad κ X cs lf pr  xc htr hS) (fun E h => by obtain ⟨h1, h2⟩ := h; subst h2; exact ⟨by simp [opPublish, xj, h1, true_and], by simp [opPublish, xj, h1, true_and]⟩) ⟨by decide, by decide⟩ ⟨rfl, rfl, by decide, by decide⟩ ⟨by decide, by decide⟩ rfl 0 rfl rfl rfl (Nat.le_of_ble_eq_true rfl) dX6_publish_2 ?_
  intro _ j hr; obtain ⟨hj, hxj, hr⟩ := hr; subst hr; subst hxj
  refine J_top (v' := .ref (ad 1 j)) rfl ?_
  have hjR : inR (κ.2.2.1 0) (nI j) = true := by rw [inR_nI (by omega)]; exact decide_eq_true hj
  have hjc : (nI j).toNatClampNeg = j := nI_clamp (by omega)
  refine J_astore_n cx (L' := [(2, .ref (ad 1 j)), (0, .ref (ad 0 0)), (1, .int (nI j))]) dX6_publish_5 rfl (by decide) rfl ?_
  refine J_aload_n cx dX6_publish_6 rfl 0 rfl ?_
  refine J_xcallSv cx hex kX6_77 (As := [.ref (ad 1 j)]) (tX6_requireAuthority l D g A ad κ X cs lf pr  j htr hI hj) (fun E h => by obtain ⟨h1, h2⟩ := h; subst h2; exact ⟨by simp [opPublish, xj, h1, hjR, hjc], by simp [opPublish, xj, h1, hjR, hjc]⟩) ⟨by decide, by decide⟩ ⟨rfl, rfl, by decide, by decide⟩ ⟨by decide, by decide⟩ rfl rfl (Nat.le_of_ble_eq_true rfl) dX6_publish_7 ?_
  intro _ hr
  have hau := hr
  refine J_aload_n cx dX6_publish_10 rfl 1 rfl ?_
  refine J_aload_n cx dX6_publish_11 rfl 0 rfl ?_
  refine J_get cx (v := .ref (ad 2 (X.1 j))) fX6_81 (17 + j) (iG_c (by first | assumption | omega)) rfl dX6_publish_12 ?_
  refine J_callVi cx kX6_138 (As := [.ref (ad 2 (X.1 j))]) (tX6_pendingOf l D g A ad κ X cs lf pr  (X.1 j) hS (hS.sb hj)) ⟨rfl, rfl, by decide, by decide⟩ ⟨by decide, by decide⟩ rfl 0 rfl rfl rfl (Nat.le_of_ble_eq_true rfl) dX6_publish_15 ?_
  intro _ _ hr; cases hr
  have hTj := hT j hj
  refine J_top (v' := .int (nI (cnt (pendB κ (κ.1 1 j)) (κ.2.2.1 0)))) (congrArg (fun z => Value.int (nI z)) (cnt_congr fun k hk => by rw [hTj.2.2.1]; exact (pen_b hT hS (hS.sb hj) hk).symm)) ?_
  have hpl := pend_le (κ := κ) (ky := κ.1 1 j) (n := κ.2.2.1 0)
  have hpc := cnt_le (pendB κ (κ.1 1 j)) (κ.2.2.1 0)
  refine J_istore_n cx (L' := [(3, .int (nI (cnt (pendB κ (κ.1 1 j)) (κ.2.2.1 0)))), (2, .ref (ad 1 j)), (0, .ref (ad 0 0)), (1, .int (nI j))]) dX6_publish_18 rfl (by decide) rfl ?_
  refine J_iload_n cx dX6_publish_19 rfl 0 rfl ?_
  refine J_if_le cx (tgt := 42) dX6_publish_20 (by decide) (fun c_1 => ?_) (fun c_1 => ?_)
  · have c_1 := (nat_if_le (by omega)).mp c_1
    refine J_iload_n cx dX6_publish_42 rfl 0 rfl ?_
    refine J_x ?_
    exact J_iret cx rfl (u := ()) ⟨by simp [opPublish, xj, hjR, hjc, hau, c_1], by simp [opPublish, xj, hjR, hjc, hau, c_1]⟩ (by rw [show (opPublish κ (nI j)).2.2 = (pubI κ (nI (X.1 j + 1)) (κ.2.2.1 0), κ.2) from by simp [opPublish, xj, hjR, hjc, hau, c_1, hTj.2.2.1], show pbX κ X (nI j) = X from by unfold pbX; rw [show xj (nI j) = j from hjc, decide_eq_false (by omega)]; try rfl, show pubI κ (nI (X.1 j + 1)) (κ.2.2.1 0) = κ.1 from by rw [← hTj.2.2.1]; exact pub_0 _ (Nat.le_refl _) (by omega)]; try rfl) (Nat.le_of_ble_eq_true rfl) (Nat.le_of_ble_eq_true rfl) dX6_publish_43
  · have c_1 := (nat_if_le_f (by omega)).mp c_1
    refine J_aload_n cx dX6_publish_23 rfl 2 rfl ?_
    refine J_get cx (v := .ref (ad 0 2)) fX6_18 0 rfl rfl dX6_publish_24 ?_
    refine J_aload_n cx dX6_publish_27 rfl 2 rfl ?_
    refine J_get cx (v := .int (nI (κ.2.2.1 2))) fX6_49 0 rfl rfl dX6_publish_28 ?_
    refine J_aload_n cx dX6_publish_31 rfl 2 rfl ?_
    refine J_aload_n cx dX6_publish_32 rfl 1 rfl ?_
    refine J_get cx (v := .ref (ad 2 (X.1 j))) fX6_81 (17 + j) (iG_c (by first | assumption | omega)) rfl dX6_publish_33 ?_
    refine J_callVl cx kX6_142 (As := [.ref (ad 2 (X.1 j))]) (tX6_takeEffect l D g A ad κ X cs lf pr  (X.1 j) hS hT (hS.sb hj)) ⟨rfl, rfl, by decide, by decide⟩ ⟨by decide, by decide⟩ rfl 0 rfl rfl rfl (Nat.le_of_ble_eq_true rfl) dX6_publish_36 ?_
    intro _ _ hr; cases hr
    refine J_callVv cx kX6_146 (As := [.int (nI (κ.2.2.1 2)), .long (teL κ X (X.1 j) 40)]) (tX3_keep l D g A ad (pubI κ (nI ((X.1 j) + 1)) (κ.2.2.1 0), κ.2) X cs lf pr  (nI (κ.2.2.1 2)) (teL κ X (X.1 j) 40) (by omega)) ⟨rfl, rfl, by decide, by decide⟩ ⟨by decide, by decide⟩ rfl 2 rfl rfl rfl (Nat.le_of_ble_eq_true rfl) dX6_publish_39 ?_
    intro _ _
    refine J_iload_n cx dX6_publish_42 rfl 0 rfl ?_
    refine J_x ?_
    exact J_iret cx rfl (u := ()) ⟨by simp [opPublish, xj, hjR, hjc, hau, c_1], by simp [opPublish, xj, hjR, hjc, hau, c_1]⟩ (by rw [show (opPublish κ (nI j)).2.2 = (pubI κ (nI (X.1 j + 1)) (κ.2.2.1 0), κ.2) from by simp [opPublish, xj, hjR, hjc, hau, c_1, hTj.2.2.1], show pbX κ X (nI j) = kpX X (nI (κ.2.2.1 2)) (teL κ X (X.1 j) 40) from by unfold pbX; rw [show xj (nI j) = j from hjc, decide_eq_true (by omega)]; try rfl]; try rfl) (Nat.le_of_ble_eq_true rfl) (Nat.le_of_ble_eq_true rfl) dX6_publish_43
