def rvX (X : XT) (h : Nat) (f : Nat → Option Nat) : XT := (X.1, X.2.1, X.2.2.1, X.2.2.2.1, (fun j => if j = h then f else X.2.2.2.2.1 j), X.2.2.2.2.2)
def chX (X : XT) (h c : Nat) : XT := (X.1, X.2.1, X.2.2.1, upn X.2.2.2.1 h c, X.2.2.2.2)
section IGS
variable {ad : Nat → Nat → Nat} {g : Nat → ClassId} {cn ky n m ln : Nat} {md : Nat → Option Nat} {κ : CS} {X : XT} {cs : Nat → CT} {lf : Nat → Int64} {pr : PT}
theorem iG_setv {h : Nat} {f : Nat → Option Nat} (hh : h < m) : (iG ad g cn ky n m ln md κ X cs lf pr).set (17 + n + m + h) (ad 3 h, .inl (g 3, 3, aR (rfa ad f))) = iG ad g cn ky n m ln md κ (rvX X h f) cs lf pr := by
  unfold iG
  rw [List.set_append_right _ _ (by show 17 ≤ 17 + n + m + h; omega), show (17 + n + m + h - (iFx ad g cn ky ln md (κ.2.2.1 2) X cs lf pr).length) = n + m + h from by show 17 + n + m + h - 17 = n + m + h; omega]
  rw [List.set_append_right _ _ (by simp [iCs]; omega), show n + m + h - (iCs ad n κ X).length = m + h from by simp [iCs]; omega]
  rw [List.set_append_right _ _ (by simp [iHs]), show m + h - (iHs ad m X).length = h from by simp [iHs]]
  refine congrArg (iFx ad g cn ky ln md (κ.2.2.1 2) X cs lf pr ++ ·) (congrArg (iCs ad n κ X ++ ·) (congrArg (iHs ad m X ++ ·) ?_))
  exact map_rng hh (by show (ad 3 h, Sum.inl (g 3, 3, aR (rfa ad (if h = h then f else X.2.2.2.2.1 h)))) = _; rw [if_pos rfl]) (fun j hj hne => by show (ad 3 j, Sum.inl (g 3, 3, aR (rfa ad (if j = h then f else X.2.2.2.2.1 j)))) = _; rw [if_neg hne])
theorem iG_seth {h c : Nat} (hh : h < m) : (iG ad g cn ky n m ln md κ X cs lf pr).set (17 + n + h) (ad 2 h, .inr (4, [.int (X.2.2.1 h), .int (nI (h + 1)), .ref (ad 3 h), .int (nI c)])) = iG ad g cn ky n m ln md κ (chX X h c) cs lf pr := by
  unfold iG
  rw [List.set_append_right _ _ (by show 17 ≤ 17 + n + h; omega), show (17 + n + h - (iFx ad g cn ky ln md (κ.2.2.1 2) X cs lf pr).length) = n + h from by show 17 + n + h - 17 = n + h; omega]
  rw [List.set_append_right _ _ (by simp [iCs]), show n + h - (iCs ad n κ X).length = h from by simp [iCs]]
  rw [List.set_append_left _ _ (by simp [iHs]; exact hh)]
  refine congrArg (iFx ad g cn ky ln md (κ.2.2.1 2) X cs lf pr ++ ·) (congrArg (iCs ad n κ X ++ ·) (congrArg (· ++ iVs ad g m X) ?_))
  exact map_rng hh (by show (ad 2 h, Sum.inr (4, [Value.int (X.2.2.1 h), .int (nI (h + 1)), .ref (ad 3 h), .int (nI (upn X.2.2.2.1 h c h))])) = _; rw [show upn X.2.2.2.1 h c h = c from if_pos rfl]) (fun j hj hne => by show (ad 2 j, Sum.inr (4, [Value.int (X.2.2.1 j), .int (nI (j + 1)), .ref (ad 3 j), .int (nI (upn X.2.2.2.1 h c j))])) = _; rw [show upn X.2.2.2.1 h c j = X.2.2.2.1 j from if_neg hne]; rfl)
end IGS
set_option maxHeartbeats 4000000 in
set_option maxRecDepth 100000 in
theorem tX2_receive (l : Launch) (D : va_G) (g : Nat → ClassId) (A : Nat → Prop) (ad : Nat → Nat → Nat) (cn ky n m ln : Nat) (md : Nat → Option Nat) (κ : CS) (X : XT) (cs : Nat → CT) (lf : Nat → Int64) (pr : PT) (h k : Nat) (hh : h < m) (hk : k < n) (hc : X.2.2.2.1 h < 3) : CtV l D g A yX2_receive cX2_receive 2 ({ frames := 0, cells := 0, slots := 0, locals := 0 } : Room) [.ref (ad 2 h), .ref (ad 1 k)] (iG ad g cn ky n m ln md κ X cs lf pr) (iG ad g cn ky n m ln md κ (rcX X h k) cs lf pr) := by
  refine metJ (by decide) (Nat.le_of_ble_eq_true rfl) ?_
  intro p e s m0 args below meth c _ _ cx
  refine J_aload_n cx dX2_receive_0 rfl 0 rfl ?_
  refine J_get cx (v := .int (nI (X.2.2.2.1 h))) fX2_24 (17 + n + h) (iG_h (by first | assumption | omega)) rfl dX2_receive_1 ?_
  refine J_if_lt cx (tgt := 39) dX2_receive_4 (by decide) (fun h => absurd h (nI_pos (by omega))) (fun _ => ?_)
  refine J_aload_n cx dX2_receive_7 rfl 0 rfl ?_
  refine J_get cx (v := .int (nI (X.2.2.2.1 h))) fX2_24 (17 + n + h) (iG_h (by first | assumption | omega)) rfl dX2_receive_8 ?_
  refine J_aload_n cx dX2_receive_11 rfl 0 rfl ?_
  refine J_get cx (v := .ref (ad 3 h)) fX2_20 (17 + n + h) (iG_h (by first | assumption | omega)) rfl dX2_receive_12 ?_
  refine J_alen cx (v := nI 3) (17 + n + m + h) (iG_v (by first | assumption | omega)) (t0 := 3) rfl rfl dX2_receive_15 ?_
  refine J_icmp_ge cx (tgt := 39) dX2_receive_16 (by decide) (fun c_2 => ?_) (fun c_2 => ?_)
  · have c_2 := (nat_ic_ge (by omega) (by omega)).mp c_2
    have c_2d := decide_eq_true c_2
    exfalso; omega
  · have c_2 := (nat_ic_ge_f (by omega) (by omega)).mp c_2
    have c_2d := decide_eq_false (Nat.not_le.mpr c_2)
    refine J_aload_n cx dX2_receive_19 rfl 0 rfl ?_
    refine J_get cx (v := .ref (ad 3 h)) fX2_20 (17 + n + h) (iG_h (by first | assumption | omega)) rfl dX2_receive_20 ?_
    refine J_aload_n cx dX2_receive_23 rfl 0 rfl ?_
    refine J_get cx (v := .int (nI (X.2.2.2.1 h))) fX2_24 (17 + n + h) (iG_h (by first | assumption | omega)) rfl dX2_receive_24 ?_
    refine J_aload_n cx dX2_receive_27 rfl 1 rfl ?_
    refine J_aast cx (ws' := (iG ad g cn ky n m ln md κ (rvX X h (va_up (X.2.2.2.2.1 h) (X.2.2.2.1 h) (some k))) cs lf pr)) (j := (X.2.2.2.1 h)) (17 + n + m + h) (iG_v (by first | assumption | omega)) (iG_c (by first | assumption | omega)) rfl (by omega) (by decide) (by rw [rfa_up]; exact iG_setv (by first | assumption | omega)) dX2_receive_28 ?_
    refine J_aload_n cx dX2_receive_29 rfl 0 rfl ?_
    refine J_dup cx dX2_receive_30 rfl ?_
    refine J_get cx (v := .int (nI ((rvX X h (va_up (X.2.2.2.2.1 h) (X.2.2.2.1 h) (some k))).2.2.2.1 h))) fX2_24 (17 + n + h) (iG_h (by first | assumption | omega)) rfl dX2_receive_31 ?_
    refine J_iconst cx (v := nI 1) dX2_receive_34 (by decide) ?_
    refine J_iadd cx dX2_receive_35 ?_
    refine J_top (v' := .int (nI (((rvX X h (va_up (X.2.2.2.2.1 h) (X.2.2.2.1 h) (some k))).2.2.2.1 h) + 1))) (congrArg Value.int (nI_add ((rvX X h (va_up (X.2.2.2.2.1 h) (X.2.2.2.1 h) (some k))).2.2.2.1 h) 1)) ?_
    refine J_put cx (ws' := (iG ad g cn ky n m ln md κ (chX (rvX X h (va_up (X.2.2.2.2.1 h) (X.2.2.2.1 h) (some k))) h (((rvX X h (va_up (X.2.2.2.2.1 h) (X.2.2.2.1 h) (some k))).2.2.2.1 h) + 1)) cs lf pr)) fX2_24 ⟨tyX2_ok, nmX2, tyX2_ok 3 (by decide)⟩ rfl (17 + n + h) (iG_h (by first | assumption | omega)) rfl rfl (Nat.le_of_ble_eq_true rfl) (iG_seth (by first | assumption | omega)) dX2_receive_36 ?_
    exact J_vret cx rfl (u := ()) trivial rfl (Nat.le_of_ble_eq_true rfl) (Nat.le_of_ble_eq_true rfl) dX2_receive_39
set_option maxHeartbeats 4000000 in
set_option maxRecDepth 100000 in
theorem tX4_append (l : Launch) (D : va_G) (g : Nat → ClassId) (A : Nat → Prop) (ad : Nat → Nat → Nat) (cn ky n m ln : Nat) (md : Nat → Option Nat) (κ : CS) (X : XT) (cs : Nat → CT) (lf : Nat → Int64) (pr : PT) (k : Nat) (hk : k < n) (h1 : X.1 k < m) (h2 : X.2.1 k < m) (hl : ln < 40) : CtV l D g A yX4_append cX4_append 2 ({ frames := 0, cells := 0, slots := 0, locals := 0 } : Room) [.ref (ad 0 5), .ref (ad 1 k)] (iG ad g cn ky n m ln md κ X cs lf pr) (iG ad g cn ky n m (ln + 1) md κ (apX X ln (entX (nI k).toInt64 (X.2.2.1 (X.1 k)).toInt64 (nI (X.1 k + 1)).toInt64 (nI (X.2.1 k + 1)).toInt64)) cs lf pr) := by
  refine metJ (by decide) (Nat.le_of_ble_eq_true rfl) ?_
  intro p e s m0 args below meth c _ _ cx
  refine J_aload_n cx dX4_append_0 rfl 0 rfl ?_
  refine J_get cx (v := .int (nI ln)) fX4_25 5 rfl rfl dX4_append_1 ?_
  refine J_if_lt cx (tgt := 94) dX4_append_4 (by decide) (fun h => absurd h (nI_pos (by omega))) (fun _ => ?_)
  refine J_aload_n cx dX4_append_7 rfl 0 rfl ?_
  refine J_get cx (v := .int (nI ln)) fX4_25 5 rfl rfl dX4_append_8 ?_
  refine J_aload_n cx dX4_append_11 rfl 0 rfl ?_
  refine J_get cx (v := .ref (ad 0 6)) fX4_9 5 rfl rfl dX4_append_12 ?_
  refine J_alen cx (v := nI 40) 6 rfl (t0 := 1) rfl rfl dX4_append_15 ?_
  refine J_icmp_ge cx (tgt := 94) dX4_append_16 (by decide) (fun c_2 => ?_) (fun c_2 => ?_)
  · have c_2 := (nat_ic_ge (by omega) (by omega)).mp c_2
    have c_2d := decide_eq_true c_2
    exfalso; omega
  · have c_2 := (nat_ic_ge_f (by omega) (by omega)).mp c_2
    have c_2d := decide_eq_false (Nat.not_le.mpr c_2)
    refine J_aload_n cx dX4_append_19 rfl 0 rfl ?_
    refine J_get cx (v := .ref (ad 0 6)) fX4_9 5 rfl rfl dX4_append_20 ?_
    refine J_aload_n cx dX4_append_23 rfl 0 rfl ?_
    refine J_get cx (v := .int (nI ln)) fX4_25 5 rfl rfl dX4_append_24 ?_
    refine J_ldc2 cx (v := 131) dX4_append_27 cX4_29 ?_
    refine J_aload_n cx dX4_append_30 rfl 1 rfl ?_
    refine J_get cx (v := .int (nI k)) fX4_31 (17 + k) (iG_c (by first | assumption | omega)) rfl dX4_append_31 ?_
    refine J_i2l cx (v := (nI k).toInt64) dX4_append_34 rfl ?_
    refine J_lmul cx dX4_append_35 ?_
    refine J_ldc2 cx (v := 8191) dX4_append_36 cX4_36 ?_
    refine J_aload_n cx dX4_append_39 rfl 1 rfl ?_
    refine J_get cx (v := .ref (ad 2 (X.1 k))) fX4_38 (17 + k) (iG_c (by first | assumption | omega)) rfl dX4_append_40 ?_
    refine J_get cx (v := .int (X.2.2.1 (X.1 k))) fX4_42 (17 + n + (X.1 k)) (iG_h h1) rfl dX4_append_43 ?_
    refine J_i2l cx (v := (X.2.2.1 (X.1 k)).toInt64) dX4_append_46 rfl ?_
    refine J_lmul cx dX4_append_47 ?_
    refine J_ladd cx dX4_append_48 ?_
    refine J_ldc2 cx (v := 127) dX4_append_49 cX4_47 ?_
    refine J_aload_n cx dX4_append_52 rfl 1 rfl ?_
    refine J_get cx (v := .ref (ad 2 (X.1 k))) fX4_38 (17 + k) (iG_c (by first | assumption | omega)) rfl dX4_append_53 ?_
    refine J_get cx (v := .int (nI ((X.1 k) + 1))) fX4_49 (17 + n + (X.1 k)) (iG_h h1) rfl dX4_append_56 ?_
    refine J_i2l cx (v := (nI ((X.1 k) + 1)).toInt64) dX4_append_59 rfl ?_
    refine J_lmul cx dX4_append_60 ?_
    refine J_ladd cx dX4_append_61 ?_
    refine J_ldc2 cx (v := 65537) dX4_append_62 cX4_52 ?_
    refine J_aload_n cx dX4_append_65 rfl 1 rfl ?_
    refine J_get cx (v := .ref (ad 2 (X.2.1 k))) fX4_54 (17 + k) (iG_c (by first | assumption | omega)) rfl dX4_append_66 ?_
    refine J_get cx (v := .int (nI ((X.2.1 k) + 1))) fX4_49 (17 + n + (X.2.1 k)) (iG_h h2) rfl dX4_append_69 ?_
    refine J_i2l cx (v := (nI ((X.2.1 k) + 1)).toInt64) dX4_append_72 rfl ?_
    refine J_lmul cx dX4_append_73 ?_
    refine J_ladd cx dX4_append_74 ?_
    refine J_ldc2 cx (v := 11) dX4_append_75 cX4_57 ?_
    refine J_ladd cx dX4_append_78 ?_
    refine J_ldc2 cx (v := 1000000007) dX4_append_79 cX4_59 ?_
    refine J_lrem cx dX4_append_82 (by decide) ?_
    refine J_last cx (ws' := (iG ad g cn ky n m ln md κ (apX X ln ((((((131 * ((nI k).toInt64)) + (8191 * ((X.2.2.1 (X.1 k)).toInt64))) + (127 * ((nI ((X.1 k) + 1)).toInt64))) + (65537 * ((nI ((X.2.1 k) + 1)).toInt64))) + 11) - (((((131 * ((nI k).toInt64)) + (8191 * ((X.2.2.1 (X.1 k)).toInt64))) + (127 * ((nI ((X.1 k) + 1)).toInt64))) + (65537 * ((nI ((X.2.1 k) + 1)).toInt64))) + 11) / 1000000007 * 1000000007)) cs lf pr)) (j := ln) 6 rfl  rfl (by omega) (by decide) rfl dX4_append_83 ?_
    refine J_aload_n cx dX4_append_84 rfl 0 rfl ?_
    refine J_dup cx dX4_append_85 rfl ?_
    refine J_get cx (v := .int (nI ln)) fX4_25 5 rfl rfl dX4_append_86 ?_
    refine J_iconst cx (v := nI 1) dX4_append_89 (by decide) ?_
    refine J_iadd cx dX4_append_90 ?_
    refine J_top (v' := .int (nI (ln + 1))) (congrArg Value.int (nI_add ln 1)) ?_
    refine J_put cx (ws' := (iG ad g cn ky n m (ln + 1) md κ (apX X ln ((((((131 * ((nI k).toInt64)) + (8191 * ((X.2.2.1 (X.1 k)).toInt64))) + (127 * ((nI ((X.1 k) + 1)).toInt64))) + (65537 * ((nI ((X.2.1 k) + 1)).toInt64))) + 11) - (((((131 * ((nI k).toInt64)) + (8191 * ((X.2.2.1 (X.1 k)).toInt64))) + (127 * ((nI ((X.1 k) + 1)).toInt64))) + (65537 * ((nI ((X.2.1 k) + 1)).toInt64))) + 11) / 1000000007 * 1000000007)) cs lf pr)) fX4_25 ⟨tyX4_ok, nmX4, tyX4_ok 3 (by decide)⟩ rfl 5 rfl rfl rfl (Nat.le_of_ble_eq_true rfl) rfl dX4_append_91 ?_
    exact J_vret cx rfl (u := ()) trivial rfl (Nat.le_of_ble_eq_true rfl) (Nat.le_of_ble_eq_true rfl) dX4_append_94
