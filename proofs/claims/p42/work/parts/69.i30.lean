theorem made_up {n : Nat} : va_up (made n) n (some n) = made (n + 1) := by
  funext i
  show (if i = n then some n else made n i) = made (n + 1) i
  unfold made
  by_cases h : i = n
  · rw [if_pos h, if_pos (by omega), h]
  · rw [if_neg h]
    by_cases h2 : i < n
    · rw [if_pos h2, if_pos (by omega)]
    · rw [if_neg h2, if_neg (by omega)]
/-- a state with one certificate more, as the class lays it -/
def NEW (κ κ1 : CS) (dy ln : Int32) : Prop := κ1.2.2.1 0 = κ.2.2.1 0 + 1 ∧ κ1.2.2.1 1 = κ.2.2.1 1 ∧ κ1.2.2.1 2 = κ.2.2.1 2 ∧ (∀ i, i < κ.2.2.1 0 → ∀ f, κ1.1 f i = κ.1 f i) ∧ (∀ i, i < κ.2.2.1 0 → ∀ f, κ1.2.1 f i = κ.2.1 f i) ∧ κ1.1 2 (κ.2.2.1 0) = nI (κ.2.2.1 2) ∧ κ1.1 3 (κ.2.2.1 0) = nI (κ.2.2.1 2) + dy - nI 1 ∧ lenI κ1 (κ.2.2.1 0) = ln ∧ κ1.1 7 (κ.2.2.1 0) = nI 0 ∧ κ1.1 8 (κ.2.2.1 0) = nI 0 ∧ κ1.2.1 2 (κ.2.2.1 0) = false ∧ κ1.2.1 3 (κ.2.2.1 0) = false ∧ κ1.1 9 (κ.2.2.1 0) = -1
theorem crt_new {ad : Nat → Nat → Nat} {κ κ1 : CS} {X : XT} {h1 h2 : Nat} {dy ln : Int32} (h : NEW κ κ1 dy ln) : crt ad κ1 (ceX X (κ.2.2.1 0) h1 h2) (κ.2.2.1 0) = [.int (nI (κ.2.2.1 0)), .ref (ad 2 h1), .ref (ad 2 h2), .int (nI (κ.2.2.1 2)), .int (nI (κ.2.2.1 2) + dy - nI 1), .int ln, .int (nI 0), .int (nI 0), .int (nI 0), .int (nI 0), .int (-1)] := by
  obtain ⟨_, _, _, _, _, e2, e3, e6, e7, e8, f2, f3, e9⟩ := h
  show [Value.int (nI (κ.2.2.1 0)), .ref (ad 2 (upn X.1 (κ.2.2.1 0) h1 (κ.2.2.1 0))), .ref (ad 2 (upn X.2.1 (κ.2.2.1 0) h2 (κ.2.2.1 0))), .int (κ1.1 2 (κ.2.2.1 0)), .int (κ1.1 3 (κ.2.2.1 0)), .int (lenI κ1 (κ.2.2.1 0)), .int (κ1.1 7 (κ.2.2.1 0)), .int (κ1.1 8 (κ.2.2.1 0)), .int (zb (κ1.2.1 2 (κ.2.2.1 0))), .int (zb (κ1.2.1 3 (κ.2.2.1 0))), .int (κ1.1 9 (κ.2.2.1 0))] = _
  rw [upn_eq, upn_eq, e2, e3, e6, e7, e8, f2, f3, e9]; rfl
theorem crt_old {ad : Nat → Nat → Nat} {κ κ1 : CS} {X : XT} {dy ln : Int32} (h : NEW κ κ1 dy ln) : ∀ i, i < κ.2.2.1 0 → crt ad κ1 X i = crt ad κ X i := by
  intro i hi
  obtain ⟨_, _, _, hI, hB, _⟩ := h
  show [Value.int (nI i), .ref (ad 2 (X.1 i)), .ref (ad 2 (X.2.1 i)), .int (κ1.1 2 i), .int (κ1.1 3 i), .int (if κ1.2.1 0 i then κ1.1 6 i else -1), .int (κ1.1 7 i), .int (κ1.1 8 i), .int (zb (κ1.2.1 2 i)), .int (zb (κ1.2.1 3 i)), .int (κ1.1 9 i)] = _
  simp only [hI i hi, hB i hi]; rfl
def enX (X : XT) (n h1 h2 : Nat) : XT := apX (rcX (ceX X n h1 h2) h1 n) n (entX (nI n).toInt64 ((rcX (ceX X n h1 h2) h1 n).2.2.1 ((rcX (ceX X n h1 h2) h1 n).1 n)).toInt64 (nI ((rcX (ceX X n h1 h2) h1 n).1 n + 1)).toInt64 (nI ((rcX (ceX X n h1 h2) h1 n).2.1 n + 1)).toInt64)
theorem nr_lt {κ : CS} {cs : Nat → CT} (h : ∀ j, j < 3 → ShC κ (cs j)) : ∀ j, j < 3 → ∀ r k, (nrC (cs j)).1 r = some k → k < κ.2.2.1 0 := by
  intro j hj r k hk
  have hk2 : (if r < 7 then (cs j).1 r else none) = some k := hk
  split at hk2
  · exact (h j hj).2.1 r (by assumption) k hk2
  · cases hk2
set_option maxHeartbeats 4000000 in
set_option maxRecDepth 100000 in
theorem tX6_newHolder (l : Launch) (D : va_G) (g : Nat → ClassId) (A : Nat → Prop) (ad : Nat → Nat → Nat) (κ : CS) (X : XT) (cs : Nat → CT) (lf : Nat → Int64) (pr : PT) (nm : Int32) (hS : ShX κ X) : Met l yX6_newHolder (wsA yX6_newHolder cX6_newHolder 2 (some (.object "Certhold$Holder"))) ({ frames := 2, cells := 2, slots := 7, locals := 46 } : Room) (va_Pc [.ref (ad 0 0), .int nm] (PRE D g A (iW ad g κ X cs lf pr))) (va_Qq (fun (r : Option Nat) (u : Nat → Nat → Nat) => r = some (u 2 (κ.2.2.1 1)) ∧ u 0 = ad 0 ∧ u 1 = ad 1 ∧ ∀ h, h < κ.2.2.1 1 → u 2 h = ad 2 h) (fun u => PO D A (iW u g (kyK κ) (hlX X (κ.2.2.1 1) nm) cs lf pr)) A) 2 7 A := by
  refine metJ (by decide) (Nat.le_of_ble_eq_true rfl) ?_
  intro p e s m args below meth c _ _ cx
  refine J_aload_n cx dX6_newHolder_0 rfl 0 rfl ?_
  refine J_dup cx dX6_newHolder_1 rfl ?_
  refine J_get cx (v := .int (nI (κ.2.2.1 1))) fX6_46 0 rfl rfl dX6_newHolder_2 ?_
  refine J_iconst cx (v := nI 1) dX6_newHolder_5 (by decide) ?_
  refine J_iadd cx dX6_newHolder_6 ?_
  refine J_top (v' := .int (nI ((κ.2.2.1 1) + 1))) (congrArg Value.int (nI_add (κ.2.2.1 1) 1)) ?_
  refine J_put cx (ws' := (iG ad g (κ.2.2.1 0) ((κ.2.2.1 1) + 1) (κ.2.2.1 0) (κ.2.2.1 1) (κ.2.2.1 0) (made (κ.2.2.1 0)) κ X cs lf pr)) fX6_46 ⟨tyX6_ok, nmX6, tyX6_ok 7 (by decide)⟩ rfl 0 rfl rfl rfl (Nat.le_of_ble_eq_true rfl) rfl dX6_newHolder_7 ?_
  refine J_new cx (ci := 4) (fs := [.int (nI 0), .int (nI 0), .null, .int (nI 0)]) iwX2 tyX2_ok lX6_93 nX2 zX2 rfl dfX2 ⟨by decide, by decide⟩ dX6_newHolder_10 (fun q => ?_)
  refine J_dup cx dX6_newHolder_13 rfl ?_
  refine J_iload_n cx dX6_newHolder_14 rfl 1 rfl ?_
  refine J_aload_n cx dX6_newHolder_15 rfl 0 rfl ?_
  refine J_get cx (v := .int (nI ((κ.2.2.1 1) + 1))) fX6_46 0 rfl rfl dX6_newHolder_16 ?_
  refine J_callCv cx kX6_312 (As := [.int nm, .int (nI (κ.2.2.1 1 + 1))]) (frV (w := [(q, .inr (4, [.int (nI 0), .int (nI 0), .null, .int (nI 0)]))]) (wr := iG ad g (κ.2.2.1 0) ((κ.2.2.1 1) + 1) (κ.2.2.1 0) (κ.2.2.1 1) (κ.2.2.1 0) (made (κ.2.2.1 0)) κ X cs lf pr) (W' := fun (u : Nat) => [(q, .inr (4, [.int nm, .int (nI (κ.2.2.1 1 + 1)), .ref u, .int (nI 0)])), (u, .inl (g 3, 3, aR (fun _ => none)))]) (W2 := fun (u : Nat) => iG ad g (κ.2.2.1 0) ((κ.2.2.1 1) + 1) (κ.2.2.1 0) (κ.2.2.1 1) (κ.2.2.1 0) (made (κ.2.2.1 0)) κ X cs lf pr ++ [(q, .inr (4, [.int nm, .int (nI (κ.2.2.1 1 + 1)), .ref u, .int (nI 0)])), (u, .inl (g 3, 3, aR (fun _ => none)))]) List.perm_append_comm (fun _ => List.perm_append_comm) (tX2_init l D g _ q nm (nI (κ.2.2.1 1 + 1)))) ⟨rfl, rfl, by decide, by decide⟩ ⟨by decide, by decide⟩ rfl rfl (Nat.le_of_ble_eq_true rfl) dX6_newHolder_19 ?_
  intro u _
  refine J_perm (iG_growH hS.2.2.1) ?_
  refine J_top (v' := va_rf (some q)) rfl ?_
  exact J_qret cx rfl (u := adH ad (κ.2.2.1 1) q u) (v := some q) ⟨by rw [adH2m], rfl, rfl, fun h hh => adH2 hh⟩ rfl (Nat.le_of_ble_eq_true rfl) (Nat.le_of_ble_eq_true rfl) dX6_newHolder_22
set_option maxHeartbeats 4000000 in
set_option maxRecDepth 100000 in
theorem tX6_enter (l : Launch) (D : va_G) (g : Nat → ClassId) (A : Nat → Prop) (ad : Nat → Nat → Nat) (κ : CS) (X : XT) (cs : Nat → CT) (lf : Nat → Int64) (pr : PT) (h1 h2 : Nat) (dy ln : Int32) (κ1 : CS) (hS : ShX κ X) (hn4 : κ.2.2.1 0 < 40) (hh1 : h1 < κ.2.2.1 1) (hh2 : h2 < κ.2.2.1 1) (hc3 : X.2.2.2.1 h1 < 3) (hHe : ∀ h, h < κ.2.2.1 1 → ∀ r k, X.2.2.2.2.1 h r = some k → k < κ.2.2.1 0) (hCq : ∀ j, j < 3 → ShC κ (cs j)) (hN : NEW κ κ1 dy ln) : Met l yX6_enter (wsA yX6_enter cX6_enter 8 (some .int)) ({ frames := 2, cells := 1, slots := 11, locals := 50 } : Room) (va_Pc [.ref (ad 0 0), .ref (ad 2 h1), .ref (ad 2 h2), .int dy, .int ln] (PRE D g A (iW ad g κ X cs lf pr))) (va_Qi (fun (r : Int32) (u : Nat → Nat → Nat) => r = nI (κ.2.2.1 0) ∧ u 0 = ad 0) (fun u => PO D A (iW u g κ1 (enX X (κ.2.2.1 0) h1 h2) (fun q => nrC (cs q)) lf pr)) A) 1 11 A := by
  refine metJ (by decide) (Nat.le_of_ble_eq_true rfl) ?_
  intro p e s m args below meth c _ _ cx
  refine J_aload_n cx dX6_enter_0 rfl 0 rfl ?_
  refine J_get cx (v := .int (nI (κ.2.2.1 0))) fX6_42 0 rfl rfl dX6_enter_1 ?_
  refine J_istore cx (L' := [(5, .int (nI (κ.2.2.1 0))), (0, .ref (ad 0 0)), (1, .ref (ad 2 h1)), (2, .ref (ad 2 h2)), (3, .int dy), (4, .int ln)]) dX6_enter_4 (by decide) rfl ?_
  refine J_aload_n cx dX6_enter_6 rfl 1 rfl ?_
  refine J_get cx (v := .int (nI (κ.2.2.1 2))) fX6_49 0 rfl rfl dX6_enter_7 ?_
  refine J_iload_n cx dX6_enter_10 rfl 4 rfl ?_
  refine J_iadd cx dX6_enter_11 ?_
  refine J_iconst cx (v := nI 1) dX6_enter_12 (by decide) ?_
  refine J_isub cx dX6_enter_13 ?_
  refine J_istore cx (L' := [(6, .int (((nI (κ.2.2.1 2)) + dy) - (nI 1))), (5, .int (nI (κ.2.2.1 0))), (0, .ref (ad 0 0)), (1, .ref (ad 2 h1)), (2, .ref (ad 2 h2)), (3, .int dy), (4, .int ln)]) dX6_enter_14 (by decide) rfl ?_
  refine J_wsub (ws' := iG ad g (κ.2.2.1 0) (κ.2.2.1 1) (κ.2.2.1 0) (κ.2.2.1 1) (κ.2.2.1 0) (made (κ.2.2.1 0)) κ X (fun q => nrC (cs q)) lf pr) (fun _ h => iG_nr h) (fun h => iG_nrD h) ?_
  refine J_new cx (ci := 2) (fs := [.int (nI 0), .null, .null, .int (nI 0), .int (nI 0), .int (nI 0), .int (nI 0), .int (nI 0), .int (nI 0), .int (nI 0), .int (nI 0)]) iwX0 tyX0_ok lX6_9 nX0 zX0 rfl dfX0 ⟨by decide, by decide⟩ dX6_enter_16 (fun q => ?_)
  refine J_dup cx dX6_enter_19 rfl ?_
  refine J_iload cx dX6_enter_20 1 rfl ?_
  refine J_aload_n cx dX6_enter_22 rfl 3 rfl ?_
  refine J_aload_n cx dX6_enter_23 rfl 4 rfl ?_
  refine J_aload_n cx dX6_enter_24 rfl 2 rfl ?_
  refine J_get cx (v := .int (nI (κ.2.2.1 2))) fX6_49 0 rfl rfl dX6_enter_25 ?_
  refine J_iload cx dX6_enter_28 0 rfl ?_
  refine J_iload cx dX6_enter_30 6 rfl ?_
  refine J_callCv cx kX6_315 (As := [.int (nI (κ.2.2.1 0)), .ref (ad 2 h1), .ref (ad 2 h2), .int (nI (κ.2.2.1 2)), .int (nI (κ.2.2.1 2) + dy - nI 1), .int ln]) (frV (w := [(q, .inr (2, [.int (nI 0), .null, .null, .int (nI 0), .int (nI 0), .int (nI 0), .int (nI 0), .int (nI 0), .int (nI 0), .int (nI 0), .int (nI 0)]))]) (wr := iG ad g (κ.2.2.1 0) (κ.2.2.1 1) (κ.2.2.1 0) (κ.2.2.1 1) (κ.2.2.1 0) (made (κ.2.2.1 0)) κ X (fun q => nrC (cs q)) lf pr) (W' := fun (_ : Unit) => [(q, .inr (2, [.int (nI (κ.2.2.1 0)), .ref (ad 2 h1), .ref (ad 2 h2), .int (nI (κ.2.2.1 2)), .int (nI (κ.2.2.1 2) + dy - nI 1), .int ln, .int (nI 0), .int (nI 0), .int (nI 0), .int (nI 0), .int (-1)]))]) (W2 := fun (_ : Unit) => iG ad g (κ.2.2.1 0) (κ.2.2.1 1) (κ.2.2.1 0) (κ.2.2.1 1) (κ.2.2.1 0) (made (κ.2.2.1 0)) κ X (fun q => nrC (cs q)) lf pr ++ [(q, .inr (2, [.int (nI (κ.2.2.1 0)), .ref (ad 2 h1), .ref (ad 2 h2), .int (nI (κ.2.2.1 2)), .int (nI (κ.2.2.1 2) + dy - nI 1), .int ln, .int (nI 0), .int (nI 0), .int (nI 0), .int (nI 0), .int (-1)]))]) List.perm_append_comm (fun _ => List.perm_append_comm) (tX0_init l D g _ q (nI (κ.2.2.1 0)) (ad 2 h1) (ad 2 h2) (nI (κ.2.2.1 2)) (nI (κ.2.2.1 2) + dy - nI 1) ln)) ⟨rfl, rfl, by decide, by decide⟩ ⟨by decide, by decide⟩ rfl rfl (Nat.le_of_ble_eq_true rfl) dX6_enter_32 ?_
  intro _ _
  refine J_ws (ws' := iG ad g (κ.2.2.1 0) (κ.2.2.1 1) (κ.2.2.1 0) (κ.2.2.1 1) (κ.2.2.1 0) (made (κ.2.2.1 0)) κ X (fun q => nrC (cs q)) lf pr ++ [(q, .inr (2, crt ad κ1 (ceX X (κ.2.2.1 0) h1 h2) (κ.2.2.1 0)))]) (by rw [crt_new hN]) ?_
  refine J_perm (iG_growC hN.2.2.1 (crt_old hN) hHe (nr_lt hCq)) ?_
  refine J_top (v' := .ref (adC ad (κ.2.2.1 0) q 1 (κ.2.2.1 0))) (by rw [adC1n]) ?_
  refine J_Le (L' := [(6, .int (((nI (κ.2.2.1 2)) + dy) - (nI 1))), (5, .int (nI (κ.2.2.1 0))), (0, .ref (adC ad (κ.2.2.1 0) q 0 0)), (1, .ref (adC ad (κ.2.2.1 0) q 2 h1)), (2, .ref (adC ad (κ.2.2.1 0) q 2 h2)), (3, .int dy), (4, .int ln)]) rfl ?_
  have h90 : adC ad (κ.2.2.1 0) q 0 = ad 0 := rfl
  generalize adC ad (κ.2.2.1 0) q = ad9 at h90 ⊢
  refine J_astore cx (L' := [(7, .ref (ad9 1 (κ.2.2.1 0))), (6, .int (((nI (κ.2.2.1 2)) + dy) - (nI 1))), (5, .int (nI (κ.2.2.1 0))), (0, .ref (ad9 0 0)), (1, .ref (ad9 2 h1)), (2, .ref (ad9 2 h2)), (3, .int dy), (4, .int ln)]) dX6_enter_35 (by decide) rfl ?_
  refine J_iload cx dX6_enter_37 2 rfl ?_
  refine J_if_lt cx (tgt := 86) dX6_enter_39 (by decide) (fun h => absurd h (nI_pos (by omega))) (fun _ => ?_)
  refine J_iload cx dX6_enter_42 2 rfl ?_
  refine J_aload_n cx dX6_enter_44 rfl 3 rfl ?_
  refine J_get cx (v := .ref (ad9 0 1)) fX6_11 0 rfl rfl dX6_enter_45 ?_
  refine J_alen cx (v := nI 40) 1 rfl (t0 := 3) rfl rfl dX6_enter_48 ?_
  refine J_icmp_ge cx (tgt := 86) dX6_enter_49 (by decide) (fun c_2 => ?_) (fun c_2 => ?_)
  · have c_2 := (nat_ic_ge (by omega) (by omega)).mp c_2
    have c_2d := decide_eq_true c_2
    exfalso; omega
  · have c_2 := (nat_ic_ge_f (by omega) (by omega)).mp c_2
    have c_2d := decide_eq_false (Nat.not_le.mpr c_2)
    refine J_aload_n cx dX6_enter_52 rfl 3 rfl ?_
    refine J_get cx (v := .ref (ad9 0 1)) fX6_11 0 rfl rfl dX6_enter_53 ?_
    refine J_iload cx dX6_enter_56 2 rfl ?_
    refine J_aload cx dX6_enter_58 0 rfl ?_
    refine J_aast cx (ws' := (iG ad9 g (κ.2.2.1 0) (κ.2.2.1 1) (κ.2.2.1 0 + 1) (κ.2.2.1 1) (κ.2.2.1 0) (made ((κ.2.2.1 0) + 1)) κ1 (ceX X (κ.2.2.1 0) h1 h2) (fun q => nrC (cs q)) lf pr)) (j := (κ.2.2.1 0)) 1 rfl (iG_c (by first | assumption | omega)) rfl (by omega) (by decide) (by rw [rfa_up, made_up]; rfl) dX6_enter_60 ?_
    refine J_aload_n cx dX6_enter_61 rfl 3 rfl ?_
    refine J_dup cx dX6_enter_62 rfl ?_
    refine J_get cx (v := .int (nI (κ.2.2.1 0))) fX6_42 0 rfl rfl dX6_enter_63 ?_
    refine J_iconst cx (v := nI 1) dX6_enter_66 (by decide) ?_
    refine J_iadd cx dX6_enter_67 ?_
    refine J_top (v' := .int (nI ((κ.2.2.1 0) + 1))) (congrArg Value.int (nI_add (κ.2.2.1 0) 1)) ?_
    refine J_put cx (ws' := (iG ad9 g ((κ.2.2.1 0) + 1) (κ.2.2.1 1) (κ.2.2.1 0 + 1) (κ.2.2.1 1) (κ.2.2.1 0) (made ((κ.2.2.1 0) + 1)) κ1 (ceX X (κ.2.2.1 0) h1 h2) (fun q => nrC (cs q)) lf pr)) fX6_42 ⟨tyX6_ok, nmX6, tyX6_ok 6 (by decide)⟩ rfl 0 rfl rfl rfl (Nat.le_of_ble_eq_true rfl) rfl dX6_enter_68 ?_
    refine J_aload_n cx dX6_enter_71 rfl 4 rfl ?_
    refine J_aload cx dX6_enter_72 0 rfl ?_
    refine J_callVv cx kX6_318 (As := [.ref (ad9 1 (κ.2.2.1 0))]) (tX2_receive l D g A ad9 ((κ.2.2.1 0) + 1) (κ.2.2.1 1) (κ.2.2.1 0 + 1) (κ.2.2.1 1) (κ.2.2.1 0) (made ((κ.2.2.1 0) + 1)) κ1 (ceX X (κ.2.2.1 0) h1 h2) (fun q => nrC (cs q)) lf pr h1 (κ.2.2.1 0) hh1 (by omega) hc3) ⟨rfl, rfl, by decide, by decide⟩ ⟨by decide, by decide⟩ rfl (17 + (κ.2.2.1 0 + 1) + h1) (iG_h (by first | assumption | omega)) rfl rfl (Nat.le_of_ble_eq_true rfl) dX6_enter_74 ?_
    intro _ _
    refine J_aload_n cx dX6_enter_77 rfl 3 rfl ?_
    refine J_get cx (v := .ref (ad9 0 5)) fX6_25 0 rfl rfl dX6_enter_78 ?_
    refine J_aload cx dX6_enter_81 0 rfl ?_
    refine J_callVv cx kX6_321 (As := [.ref (ad9 1 (κ.2.2.1 0))]) (tX4_append l D g A ad9 ((κ.2.2.1 0) + 1) (κ.2.2.1 1) (κ.2.2.1 0 + 1) (κ.2.2.1 1) (κ.2.2.1 0) (made ((κ.2.2.1 0) + 1)) κ1 (rcX (ceX X (κ.2.2.1 0) h1 h2) h1 (κ.2.2.1 0)) (fun q => nrC (cs q)) lf pr (κ.2.2.1 0) (by omega) (by show upn X.1 (κ.2.2.1 0) h1 (κ.2.2.1 0) < _; rw [upn_eq]; exact hh1) (by show upn X.2.1 (κ.2.2.1 0) h2 (κ.2.2.1 0) < _; rw [upn_eq]; exact hh2) hn4) ⟨rfl, rfl, by decide, by decide⟩ ⟨by decide, by decide⟩ rfl 5 rfl rfl rfl (Nat.le_of_ble_eq_true rfl) dX6_enter_83 ?_
    intro _ _
    refine J_iload cx dX6_enter_86 2 rfl ?_
    exact J_iret cx rfl (u := ad9) ⟨rfl, h90⟩ (by show _ = iG ad9 g (κ1.2.2.1 0) (κ1.2.2.1 1) (κ1.2.2.1 0) (κ1.2.2.1 1) (κ1.2.2.1 0) (made (κ1.2.2.1 0)) κ1 _ _ lf pr; rw [hN.1, hN.2.1]; rfl) (Nat.le_of_ble_eq_true rfl) (Nat.le_of_ble_eq_true rfl) dX6_enter_88
