theorem his_eq {κ : CS} {X : XT} (hT : TIE κ X) (hS : ShX κ X) {j : Nat} (hj : j < κ.2.2.1 0) : anyN (hisB κ X (X.1 j)) (κ.2.2.1 0) = anyN (issB κ (κ.1 1 j)) (κ.2.2.1 0) :=
  anyN_congr fun k hk => by
    have h1 := hS.sb hj; have h2 := hS.2.1
    unfold hisB issB
    rw [(hT j hj).2.2.1, key_eq hT hS hk (by omega), (hT k hk).1]
theorem pen_eq {κ : CS} {X : XT} (hT : TIE κ X) (hS : ShX κ X) {h : Nat} (hh : h < κ.2.2.1 1) (b : Nat → Bool) : cnt (penB (κ.1, upB κ.2.1 3 0 (b 0), κ.2.2) X h) 0 = 0 := rfl
theorem pen_k {κ : CS} {X : XT} (hT : TIE κ X) (hS : ShX κ X) {h k : Nat} (hh : h < κ.2.2.1 1) (hk : k < κ.2.2.1 0) (b : Bool) : (decide (X.2.1 k = h) && (b && decide (κ.1 9 k = -1))) = (decide (κ.1 5 k = nI (h + 1)) && (b && decide (κ.1 9 k < 0))) := by
  have h2 := hS.2.1
  rw [key_eq hT hS hk (by omega)]
  rcases hS.2.2.2.2.2 k hk with q | q
  · rw [q]; rfl
  · rw [decide_eq_false q, decide_eq_false (show ¬ κ.1 9 k = -1 from fun z => q (by rw [z]; decide))]
theorem begin_o {κ : CS} {X : XT} (hS : ShX κ X) {j : Nat} (hj : j < κ.2.2.1 0) {d : Int32} (h : rfI κ j d = 111) : beginB κ j d = true := by
  rw [rfI_eq hS hj] at h; unfold beginB
  by_cases h1 : validB κ j d = true
  · by_cases h2 : offB κ j d = true
    · simp [h1, h2] at h
    · simp [h1, h2]
  · simp [h1] at h
theorem begin_n {κ : CS} {X : XT} (hS : ShX κ X) {j : Nat} (hj : j < κ.2.2.1 0) {d : Int32} (h : ¬ rfI κ j d = 111) : beginB κ j d = false ∧ rfI κ j d = (if validB κ j d then 114 else 116) := by
  rw [rfI_eq hS hj] at h ⊢; unfold beginB
  by_cases h1 : validB κ j d = true
  · by_cases h2 : offB κ j d = true
    · simp [h1, h2]
    · simp [h1, h2] at h
  · simp [h1]
/-- the class's walk behind begin and step -/
def bgC (κ : CS) (c0 : CT) (xc dy : Int32) : CT := if decide (wrongC κ xc dy = 0) && beginB κ (xj xc) dy then (va_up c0.1 0 (some (xj xc)), 1, dy) else c0
def stC (κ : CS) (c0 : CT) (rk : Int32) : CT := match fstN (nthB κ (κ.2.2.2.1 (κ.2.2.1 3 - 1)) rk) (κ.2.2.1 0) with
  | none => c0
  | some k => if decide (refC κ κ.2.2.2.1 (κ.2.2.1 3) k κ.2.2.2.2 = 111) then (va_up c0.1 c0.2.1 (some k), c0.2.1 + 1, c0.2.2) else c0
theorem opStep_k {κ : CS} {rk : Int32} {k : Nat} (h0 : ¬ κ.2.2.1 3 = 0) (h : fstN (nthB κ (κ.2.2.2.1 (κ.2.2.1 3 - 1)) rk) (κ.2.2.1 0) = some k) : opStep κ rk = (if decide (refC κ κ.2.2.2.1 (κ.2.2.1 3) k κ.2.2.2.2 = 111) then (0, nI 111, (κ.1, κ.2.1, upn κ.2.2.1 3 (κ.2.2.1 3 + 1), upn κ.2.2.2.1 (κ.2.2.1 3) k, κ.2.2.2.2)) else (0, nI (refC κ κ.2.2.2.1 (κ.2.2.1 3) k κ.2.2.2.2), κ)) := by
  unfold opStep; rw [decide_eq_false h0, h]; rfl
theorem opStep_n {κ : CS} {rk : Int32} (h0 : ¬ κ.2.2.1 3 = 0) (h : fstN (nthB κ (κ.2.2.2.1 (κ.2.2.1 3 - 1)) rk) (κ.2.2.1 0) = none) : opStep κ rk = (2, nI 0, κ) := by
  unfold opStep; rw [decide_eq_false h0, h]; rfl
theorem opStep_0 {κ : CS} {rk : Int32} (h0 : κ.2.2.1 3 = 0) : opStep κ rk = (1, nI 0, κ) := by unfold opStep; rw [decide_eq_true h0]; rfl
theorem stC_k {κ : CS} {c0 : CT} {rk : Int32} {k : Nat} (h : fstN (nthB κ (κ.2.2.2.1 (κ.2.2.1 3 - 1)) rk) (κ.2.2.1 0) = some k) : stC κ c0 rk = (if decide (refC κ κ.2.2.2.1 (κ.2.2.1 3) k κ.2.2.2.2 = 111) then (va_up c0.1 c0.2.1 (some k), c0.2.1 + 1, c0.2.2) else c0) := by
  unfold stC; rw [h]
set_option maxHeartbeats 4000000 in
set_option maxRecDepth 100000 in
theorem tX6_setNames (l : Launch) (D : va_G) (g : Nat → ClassId) (A : Nat → Prop) (ad : Nat → Nat → Nat) (κ : CS) (X : XT) (cs : Nat → CT) (lf : Nat → Int64) (pr : PT)  (xc : Int32) (xp : Int32) (xe : Int32) (htr : l.stackTraces = false) (hS : ShX κ X) (hT : TIE κ X) (hI : InvM κ) : vx_Met l yX6_setNames (wsA yX6_setNames cX6_setNames 5 (some .int)) ({ frames := 8, cells := 5, slots := 30, locals := 130 } : Room) (va_Pc [.ref (ad 0 0), .int xc, .int xp, .int xe] (PRE D g A (iW ad g κ X cs lf pr))) (va_Qi (fun (r : Int32) (_ : Unit) => ((opSetNames κ xc xp xe)).1 = 0 ∧ r = ((opSetNames κ xc xp xe)).2.1) (fun _ => PO D A (iW ad g (((opSetNames κ xc xp xe)).2.2) X cs lf pr)) A) (XQ (fun E => thrE [nsE, "java/lang/IllegalArgumentException", "java/lang/IllegalStateException"] ((opSetNames κ xc xp xe)).1 E) D A (iW ad g κ X cs lf pr)) 5 30 A := by
  have hn := hS.1
  refine metX (by decide) (Nat.le_of_ble_eq_true rfl) ?_
  intro p e s m args below meth c _ hex cx
  refine J_aload_n cx dX6_setNames_0 rfl 0 rfl ?_
  refine J_iload_n cx dX6_setNames_1 rfl 1 rfl ?_
  refine J_xcallVq cx hex kX6_73 (As := [.int xc]) (tX6_find l D g A ad κ X cs lf pr  xc htr hS) (fun E h => by obtain ⟨h1, h2⟩ := h; subst h2; exact ⟨by simp [opSetNames, xj, h1, true_and], by simp [opSetNames, xj, h1, true_and]⟩) ⟨by decide, by decide⟩ ⟨rfl, rfl, by decide, by decide⟩ ⟨by decide, by decide⟩ rfl 0 rfl rfl rfl (Nat.le_of_ble_eq_true rfl) dX6_setNames_2 ?_
  intro _ j hr; obtain ⟨hj, hxj, hr⟩ := hr; subst hr; subst hxj
  refine J_top (v' := .ref (ad 1 j)) rfl ?_
  have hjR : inR (κ.2.2.1 0) (nI j) = true := by rw [inR_nI (by omega)]; exact decide_eq_true hj
  have hjc : (nI j).toNatClampNeg = j := nI_clamp (by omega)
  refine J_astore cx (L' := [(4, .ref (ad 1 j)), (0, .ref (ad 0 0)), (1, .int (nI j)), (2, .int xp), (3, .int xe)]) dX6_setNames_5 (by decide) rfl ?_
  refine J_iload_n cx dX6_setNames_7 rfl 3 rfl ?_
  refine J_xcallSv cx hex kX6_100 (As := [.int xp]) (tX6_requireNameOrNone l D g A ad κ X cs lf pr  xp htr ) (fun E h => by obtain ⟨h1, h2⟩ := h; subst h2; exact ⟨by simp [opSetNames, xj, h1, hjR, hjc], by simp [opSetNames, xj, h1, hjR, hjc]⟩) ⟨by decide, by decide⟩ ⟨rfl, rfl, by decide, by decide⟩ ⟨by decide, by decide⟩ rfl rfl (Nat.le_of_ble_eq_true rfl) dX6_setNames_8 ?_
  intro _ hr
  have hnn1 := hr
  refine J_iload_n cx dX6_setNames_11 rfl 4 rfl ?_
  refine J_xcallSv cx hex kX6_100 (As := [.int xe]) (tX6_requireNameOrNone l D g A ad κ X cs lf pr  xe htr ) (fun E h => by obtain ⟨h1, h2⟩ := h; subst h2; exact ⟨by simp [opSetNames, xj, h1, hjR, hjc, hnn1], by simp [opSetNames, xj, h1, hjR, hjc, hnn1]⟩) ⟨by decide, by decide⟩ ⟨rfl, rfl, by decide, by decide⟩ ⟨by decide, by decide⟩ rfl rfl (Nat.le_of_ble_eq_true rfl) dX6_setNames_12 ?_
  intro _ hr
  have hnn2 := hr
  refine J_aload cx dX6_setNames_15 0 rfl ?_
  refine J_xcallSv cx hex kX6_77 (As := [.ref (ad 1 j)]) (tX6_requireAuthority l D g A ad κ X cs lf pr  j htr hI hj) (fun E h => by obtain ⟨h1, h2⟩ := h; subst h2; exact ⟨by simp [opSetNames, xj, h1, hjR, hjc, hnn1, hnn2], by simp [opSetNames, xj, h1, hjR, hjc, hnn1, hnn2]⟩) ⟨by decide, by decide⟩ ⟨rfl, rfl, by decide, by decide⟩ ⟨by decide, by decide⟩ rfl rfl (Nat.le_of_ble_eq_true rfl) dX6_setNames_17 ?_
  intro _ hr
  have hau := hr
  refine J_aload_n cx dX6_setNames_20 rfl 1 rfl ?_
  refine J_aload cx dX6_setNames_21 0 rfl ?_
  refine J_get cx (v := .ref (ad 2 (X.1 j))) fX6_81 (17 + j) (iG_c (by first | assumption | omega)) rfl dX6_setNames_23 ?_
  refine J_callVi cx kX6_103 (As := [.ref (ad 2 (X.1 j))]) (tX6_hasIssued l D g A ad κ X cs lf pr  (X.1 j) hS (hS.sb hj)) ⟨rfl, rfl, by decide, by decide⟩ ⟨by decide, by decide⟩ rfl 0 rfl rfl rfl (Nat.le_of_ble_eq_true rfl) dX6_setNames_26 ?_
  intro _ _ hr; cases hr
  refine J_top (v' := .int (zb (anyN (issB κ (κ.1 1 j)) (κ.2.2.1 0)))) (by rw [his_eq hT hS hj]) ?_
  refine J_ifz_eq cx (tgt := 42) dX6_setNames_29 (by decide) (fun c_1 => ?_) (fun c_1 => ?_)
  · refine J_aload cx dX6_setNames_42 0 rfl ?_
    refine J_iload_n cx dX6_setNames_44 rfl 3 rfl ?_
    refine J_put cx (ws' := (iW ad g (upI κ.1 7 j xp, κ.2.1, κ.2.2.1, κ.2.2.2.1, κ.2.2.2.2) X cs lf pr)) fX6_109 ⟨tyX0_ok, nmX0, tyX0_ok 6 (by decide)⟩ rfl (17 + j) (iG_c (by first | assumption | omega)) rfl rfl (Nat.le_of_ble_eq_true rfl) (iG_setc (by first | assumption | omega) rfl (by simp [crt, lenI, upI, upd, upB, upb]; try rfl) (by intro z _ hne; simp [crt, lenI, upI, upd, upB, upb, hne])) dX6_setNames_45 ?_
    refine J_aload cx dX6_setNames_48 0 rfl ?_
    refine J_iload_n cx dX6_setNames_50 rfl 4 rfl ?_
    refine J_put cx (ws' := (iW ad g (upI (upI κ.1 7 j xp) 8 j xe, κ.2.1, κ.2.2.1, κ.2.2.2.1, κ.2.2.2.2) X cs lf pr)) fX6_112 ⟨tyX0_ok, nmX0, tyX0_ok 7 (by decide)⟩ rfl (17 + j) (iG_c (by first | assumption | omega)) rfl rfl (Nat.le_of_ble_eq_true rfl) (iG_setc (by first | assumption | omega) rfl (by simp [crt, lenI, upI, upd, upB, upb]; try rfl) (by intro z _ hne; simp [crt, lenI, upI, upd, upB, upb, hne])) dX6_setNames_51 ?_
    refine J_iload_n cx dX6_setNames_54 rfl 3 rfl ?_
    refine J_if_ne cx (tgt := 62) dX6_setNames_55 (by decide) (fun c_2 => ?_) (fun c_2 => ?_)
    · have c_2d := decide_eq_false c_2
      refine J_iconst cx (v := nI 1) dX6_setNames_62 (by decide) ?_
      refine J_iload_n cx dX6_setNames_63 rfl 4 rfl ?_
      refine J_if_ne cx (tgt := 71) dX6_setNames_64 (by decide) (fun c_3 => ?_) (fun c_3 => ?_)
      · have c_3d := decide_eq_false c_3
        refine J_iconst cx (v := nI 1) dX6_setNames_71 (by decide) ?_
        refine J_iadd cx dX6_setNames_72 ?_
        refine J_top (v' := .int (nI (1 + 1))) (congrArg Value.int (nI_add 1 1)) ?_
        refine J_x ?_
        exact J_iret cx rfl (u := ()) ⟨by simp [opSetNames, xj, hjR, hjc, hnn1, hnn2, hau, c_1, c_2, c_2d, c_3, c_3d], by simp [opSetNames, xj, hjR, hjc, hnn1, hnn2, hau, c_1, c_2, c_2d, c_3, c_3d]⟩ (by simp [opSetNames, xj, hjR, hjc, hnn1, hnn2, hau, c_1, c_2, c_2d, c_3, c_3d]; try rfl) (Nat.le_of_ble_eq_true rfl) (Nat.le_of_ble_eq_true rfl) dX6_setNames_73
      · have c_3d := decide_eq_true c_3
        refine J_iconst cx (v := nI 0) dX6_setNames_67 (by decide) ?_
        refine J_goto cx (tgt := 72) dX6_setNames_68 (by decide) ?_
        refine J_iadd cx dX6_setNames_72 ?_
        refine J_top (v' := .int (nI (1 + 0))) (congrArg Value.int (nI_add 1 0)) ?_
        refine J_x ?_
        exact J_iret cx rfl (u := ()) ⟨by simp [opSetNames, xj, hjR, hjc, hnn1, hnn2, hau, c_1, c_2, c_2d, c_3d], by simp [opSetNames, xj, hjR, hjc, hnn1, hnn2, hau, c_1, c_2, c_2d, c_3d]⟩ (by simp [opSetNames, xj, hjR, hjc, hnn1, hnn2, hau, c_1, c_2, c_2d, c_3d]; try rfl) (Nat.le_of_ble_eq_true rfl) (Nat.le_of_ble_eq_true rfl) dX6_setNames_73
    · have c_2d := decide_eq_true c_2
      refine J_iconst cx (v := nI 0) dX6_setNames_58 (by decide) ?_
      refine J_goto cx (tgt := 63) dX6_setNames_59 (by decide) ?_
      refine J_iload_n cx dX6_setNames_63 rfl 4 rfl ?_
      refine J_if_ne cx (tgt := 71) dX6_setNames_64 (by decide) (fun c_4 => ?_) (fun c_4 => ?_)
      · have c_4d := decide_eq_false c_4
        refine J_iconst cx (v := nI 1) dX6_setNames_71 (by decide) ?_
        refine J_iadd cx dX6_setNames_72 ?_
        refine J_top (v' := .int (nI (0 + 1))) (congrArg Value.int (nI_add 0 1)) ?_
        refine J_x ?_
        exact J_iret cx rfl (u := ()) ⟨by simp [opSetNames, xj, hjR, hjc, hnn1, hnn2, hau, c_1, c_2d, c_4, c_4d], by simp [opSetNames, xj, hjR, hjc, hnn1, hnn2, hau, c_1, c_2d, c_4, c_4d]⟩ (by simp [opSetNames, xj, hjR, hjc, hnn1, hnn2, hau, c_1, c_2d, c_4, c_4d]; try rfl) (Nat.le_of_ble_eq_true rfl) (Nat.le_of_ble_eq_true rfl) dX6_setNames_73
      · have c_4d := decide_eq_true c_4
        refine J_iconst cx (v := nI 0) dX6_setNames_67 (by decide) ?_
        refine J_goto cx (tgt := 72) dX6_setNames_68 (by decide) ?_
        refine J_iadd cx dX6_setNames_72 ?_
        refine J_top (v' := .int (nI (0 + 0))) (congrArg Value.int (nI_add 0 0)) ?_
        refine J_x ?_
        exact J_iret cx rfl (u := ()) ⟨by simp [opSetNames, xj, hjR, hjc, hnn1, hnn2, hau, c_1, c_2d, c_4d], by simp [opSetNames, xj, hjR, hjc, hnn1, hnn2, hau, c_1, c_2d, c_4d]⟩ (by simp [opSetNames, xj, hjR, hjc, hnn1, hnn2, hau, c_1, c_2d, c_4d]; try rfl) (Nat.le_of_ble_eq_true rfl) (Nat.le_of_ble_eq_true rfl) dX6_setNames_73
  · exact J_throw cx hex htr rfl th_89 (List.mem_of_getElem? (i := 9) rfl) ⟨by simp [opSetNames, xj, hjR, hjc, hnn1, hnn2, hau, c_1], by simp [opSetNames, xj, hjR, hjc, hnn1, hnn2, hau, c_1]⟩ dX6_setNames_32 dX6_setNames_35 (Or.inl ⟨dX6_setNames_36, dX6_setNames_38, dX6_setNames_41⟩) ⟨by decide, by decide, by decide, by decide⟩ ⟨by decide, by decide⟩
set_option maxHeartbeats 4000000 in
set_option maxRecDepth 100000 in
theorem tX6_trust (l : Launch) (D : va_G) (g : Nat → ClassId) (A : Nat → Prop) (ad : Nat → Nat → Nat) (κ : CS) (X : XT) (cs : Nat → CT) (lf : Nat → Int64) (pr : PT)  (xc : Int32) (b : Bool) (htr : l.stackTraces = false) (hS : ShX κ X) (hT : TIE κ X) : vx_Met l yX6_trust (wsA yX6_trust cX6_trust 4 (some .int)) ({ frames := 7, cells := 2, slots := 12, locals := 112 } : Room) (va_Pc [.ref (ad 0 0), .int xc, .int (zb b)] (PRE D g A (iW ad g κ X cs lf pr))) (va_Qi (fun (r : Int32) (_ : Unit) => ((opTrust κ xc b)).1 = 0 ∧ r = ((opTrust κ xc b)).2.1) (fun _ => PO D A (iW ad g (((opTrust κ xc b)).2.2) X cs lf pr)) A) (XQ (fun E => thrE [nsE, "java/lang/IllegalStateException"] ((opTrust κ xc b)).1 E) D A (iW ad g κ X cs lf pr)) 2 12 A := by
  have hn := hS.1
  refine metX (by decide) (Nat.le_of_ble_eq_true rfl) ?_
  intro p e s m args below meth c _ hex cx
  refine J_aload_n cx dX6_trust_0 rfl 0 rfl ?_
  refine J_iload_n cx dX6_trust_1 rfl 1 rfl ?_
  refine J_xcallVq cx hex kX6_73 (As := [.int xc]) (tX6_find l D g A ad κ X cs lf pr  xc htr hS) (fun E h => by obtain ⟨h1, h2⟩ := h; subst h2; exact ⟨by simp [opTrust, xj, h1, true_and], by simp [opTrust, xj, h1, true_and]⟩) ⟨by decide, by decide⟩ ⟨rfl, rfl, by decide, by decide⟩ ⟨by decide, by decide⟩ rfl 0 rfl rfl rfl (Nat.le_of_ble_eq_true rfl) dX6_trust_2 ?_
  intro _ j hr; obtain ⟨hj, hxj, hr⟩ := hr; subst hr; subst hxj
  refine J_top (v' := .ref (ad 1 j)) rfl ?_
  have hjR : inR (κ.2.2.1 0) (nI j) = true := by rw [inR_nI (by omega)]; exact decide_eq_true hj
  have hjc : (nI j).toNatClampNeg = j := nI_clamp (by omega)
  refine J_astore_n cx (L' := [(3, .ref (ad 1 j)), (0, .ref (ad 0 0)), (1, .int (nI j)), (2, .int (zb b))]) dX6_trust_5 rfl (by decide) rfl ?_
  refine J_aload_n cx dX6_trust_6 rfl 0 rfl ?_
  refine J_callVi cx kX6_115 (As := []) (tX0_isRoot l D g A ad κ X cs lf pr  j hS hj) ⟨rfl, rfl, by decide, by decide⟩ ⟨by decide, by decide⟩ rfl (17 + j) (iG_c (by first | assumption | omega)) rfl rfl (Nat.le_of_ble_eq_true rfl) dX6_trust_7 ?_
  intro _ _ hr; cases hr
  have hTj := hT j hj
  refine J_top (v' := .int (zb (κ.2.1 1 j))) (by rw [hTj.1]) ?_
  refine J_ifz_ne cx (tgt := 23) dX6_trust_10 (by decide) (fun c_1 => ?_) (fun c_1 => ?_)
  · refine J_aload_n cx dX6_trust_23 rfl 0 rfl ?_
    refine J_iload_n cx dX6_trust_24 rfl 3 rfl ?_
    refine J_put cx (ws' := (iW ad g (κ.1, upB κ.2.1 2 j b, κ.2.2.1, κ.2.2.2.1, κ.2.2.2.2) X cs lf pr)) fX6_120 ⟨tyX0_ok, nmX0, tyX0_ok 8 (by decide)⟩ rfl (17 + j) (iG_c (by first | assumption | omega)) (zb_nar b) (zb_fit b) (Nat.le_of_ble_eq_true rfl) (iG_setc (by first | assumption | omega) rfl (by simp [crt, lenI, upI, upd, upB, upb]; try rfl) (by intro z _ hne; simp [crt, lenI, upI, upd, upB, upb, hne])) dX6_trust_25 ?_
    refine J_aload_n cx dX6_trust_28 rfl 1 rfl ?_
    refine J_callVi cx kX6_124 (As := []) (tX6_trustedRoots l D g A ad (κ.1, upB κ.2.1 2 j b, κ.2.2.1, κ.2.2.2.1, κ.2.2.2.2) X cs lf pr   hn) ⟨rfl, rfl, by decide, by decide⟩ ⟨by decide, by decide⟩ rfl 0 rfl rfl rfl (Nat.le_of_ble_eq_true rfl) dX6_trust_29 ?_
    intro _ _ hr; cases hr
    refine J_x ?_
    exact J_iret cx rfl (u := ()) ⟨by simp [opTrust, xj, hjR, hjc, c_1], by simp [opTrust, xj, zb, hjR, hjc, c_1]⟩ (by simp [opTrust, xj, hjR, hjc, c_1]; try rfl) (Nat.le_of_ble_eq_true rfl) (Nat.le_of_ble_eq_true rfl) dX6_trust_32
  · exact J_throw cx hex htr rfl th_89 (List.mem_of_getElem? (i := 10) rfl) ⟨by simp [opTrust, xj, hjR, hjc, c_1], by simp [opTrust, xj, hjR, hjc, c_1]⟩ dX6_trust_13 dX6_trust_16 (Or.inl ⟨dX6_trust_17, dX6_trust_19, dX6_trust_22⟩) ⟨by decide, by decide, by decide, by decide⟩ ⟨by decide, by decide⟩
set_option maxHeartbeats 4000000 in
set_option maxRecDepth 100000 in
theorem tX6_revoke (l : Launch) (D : va_G) (g : Nat → ClassId) (A : Nat → Prop) (ad : Nat → Nat → Nat) (κ : CS) (X : XT) (cs : Nat → CT) (lf : Nat → Int64) (pr : PT)  (xc : Int32) (htr : l.stackTraces = false) (hS : ShX κ X) (hT : TIE κ X) : vx_Met l yX6_revoke (wsA yX6_revoke cX6_revoke 3 (some .int)) ({ frames := 7, cells := 2, slots := 12, locals := 112 } : Room) (va_Pc [.ref (ad 0 0), .int xc] (PRE D g A (iW ad g κ X cs lf pr))) (va_Qi (fun (r : Int32) (_ : Unit) => ((opRevoke κ xc)).1 = 0 ∧ r = ((opRevoke κ xc)).2.1) (fun _ => PO D A (iW ad g (((opRevoke κ xc)).2.2) X cs lf pr)) A) (XQ (fun E => thrE [nsE, "java/lang/IllegalStateException"] ((opRevoke κ xc)).1 E) D A (iW ad g κ X cs lf pr)) 2 12 A := by
  have hn := hS.1
  refine metX (by decide) (Nat.le_of_ble_eq_true rfl) ?_
  intro p e s m args below meth c _ hex cx
  refine J_aload_n cx dX6_revoke_0 rfl 0 rfl ?_
  refine J_iload_n cx dX6_revoke_1 rfl 1 rfl ?_
  refine J_xcallVq cx hex kX6_73 (As := [.int xc]) (tX6_find l D g A ad κ X cs lf pr  xc htr hS) (fun E h => by obtain ⟨h1, h2⟩ := h; subst h2; exact ⟨by simp [opRevoke, xj, h1, true_and], by simp [opRevoke, xj, h1, true_and]⟩) ⟨by decide, by decide⟩ ⟨rfl, rfl, by decide, by decide⟩ ⟨by decide, by decide⟩ rfl 0 rfl rfl rfl (Nat.le_of_ble_eq_true rfl) dX6_revoke_2 ?_
  intro _ j hr; obtain ⟨hj, hxj, hr⟩ := hr; subst hr; subst hxj
  refine J_top (v' := .ref (ad 1 j)) rfl ?_
  have hjR : inR (κ.2.2.1 0) (nI j) = true := by rw [inR_nI (by omega)]; exact decide_eq_true hj
  have hjc : (nI j).toNatClampNeg = j := nI_clamp (by omega)
  refine J_astore_n cx (L' := [(2, .ref (ad 1 j)), (0, .ref (ad 0 0)), (1, .int (nI j))]) dX6_revoke_5 rfl (by decide) rfl ?_
  refine J_aload_n cx dX6_revoke_6 rfl 0 rfl ?_
  refine J_callVi cx kX6_115 (As := []) (tX0_isRoot l D g A ad κ X cs lf pr  j hS hj) ⟨rfl, rfl, by decide, by decide⟩ ⟨by decide, by decide⟩ rfl (17 + j) (iG_c (by first | assumption | omega)) rfl rfl (Nat.le_of_ble_eq_true rfl) dX6_revoke_7 ?_
  intro _ _ hr; cases hr
  have hTj := hT j hj
  refine J_top (v' := .int (zb (κ.2.1 1 j))) (by rw [hTj.1]) ?_
  refine J_ifz_eq cx (tgt := 23) dX6_revoke_10 (by decide) (fun c_1 => ?_) (fun c_1 => ?_)
  · refine J_aload_n cx dX6_revoke_23 rfl 0 rfl ?_
    refine J_get cx (v := .int (zb (κ.2.1 3 j))) fX6_130 (17 + j) (iG_c (by first | assumption | omega)) rfl dX6_revoke_24 ?_
    refine J_ifz_eq cx (tgt := 40) dX6_revoke_27 (by decide) (fun c_2 => ?_) (fun c_2 => ?_)
    · refine J_aload_n cx dX6_revoke_40 rfl 0 rfl ?_
      refine J_iconst cx (v := nI 1) dX6_revoke_41 (by decide) ?_
      refine J_put cx (ws' := (iW ad g (κ.1, upB κ.2.1 3 j true, κ.2.2.1, κ.2.2.2.1, κ.2.2.2.2) X cs lf pr)) fX6_130 ⟨tyX0_ok, nmX0, tyX0_ok 9 (by decide)⟩ rfl (17 + j) (iG_c (by first | assumption | omega)) (zb_nar true) (zb_fit true) (Nat.le_of_ble_eq_true rfl) (iG_setc (by first | assumption | omega) rfl (by simp [crt, lenI, upI, upd, upB, upb]; try rfl) (by intro z _ hne; simp [crt, lenI, upI, upd, upB, upb, hne])) dX6_revoke_42 ?_
      refine J_aload_n cx dX6_revoke_45 rfl 1 rfl ?_
      refine J_aload_n cx dX6_revoke_46 rfl 0 rfl ?_
      refine J_get cx (v := .ref (ad 2 (X.2.1 j))) fX6_135 (17 + j) (iG_c (by first | assumption | omega)) rfl dX6_revoke_47 ?_
      refine J_callVi cx kX6_138 (As := [.ref (ad 2 (X.2.1 j))]) (tX6_pendingOf l D g A ad (κ.1, upB κ.2.1 3 j true, κ.2.2.1, κ.2.2.2.1, κ.2.2.2.2) X cs lf pr  (X.2.1 j) hS (hS.is hj)) ⟨rfl, rfl, by decide, by decide⟩ ⟨by decide, by decide⟩ rfl 0 rfl rfl rfl (Nat.le_of_ble_eq_true rfl) dX6_revoke_50 ?_
      intro _ _ hr; cases hr
      refine J_top (v' := .int (nI (cnt (pendF (κ.1 5) (κ.1 9) (upB κ.2.1 3 j true 3) (κ.1 5 j)) (κ.2.2.1 0)))) (congrArg (fun z => Value.int (nI z)) (cnt_congr fun k hk => by rw [show κ.1 5 j = nI (X.2.1 j + 1) from hTj.2.2.2.2]; exact pen_k hT hS (hS.is hj) hk _)) ?_
      refine J_x ?_
      exact J_iret cx rfl (u := ()) ⟨by simp [opRevoke, xj, hjR, hjc, c_1, c_2], by simp [opRevoke, xj, zb, hjR, hjc, c_1, c_2]⟩ (by simp [opRevoke, xj, hjR, hjc, c_1, c_2]; try rfl) (Nat.le_of_ble_eq_true rfl) (Nat.le_of_ble_eq_true rfl) dX6_revoke_53
    · exact J_throw cx hex htr rfl th_89 (List.mem_of_getElem? (i := 12) rfl) ⟨by simp [opRevoke, xj, hjR, hjc, c_1, c_2], by simp [opRevoke, xj, hjR, hjc, c_1, c_2]⟩ dX6_revoke_30 dX6_revoke_33 (Or.inl ⟨dX6_revoke_34, dX6_revoke_36, dX6_revoke_39⟩) ⟨by decide, by decide, by decide, by decide⟩ ⟨by decide, by decide⟩
  · exact J_throw cx hex htr rfl th_89 (List.mem_of_getElem? (i := 11) rfl) ⟨by simp [opRevoke, xj, hjR, hjc, c_1], by simp [opRevoke, xj, hjR, hjc, c_1]⟩ dX6_revoke_13 dX6_revoke_16 (Or.inl ⟨dX6_revoke_17, dX6_revoke_19, dX6_revoke_22⟩) ⟨by decide, by decide, by decide, by decide⟩ ⟨by decide, by decide⟩
set_option maxHeartbeats 4000000 in
set_option maxRecDepth 100000 in
theorem tX6_begin (l : Launch) (D : va_G) (g : Nat → ClassId) (A : Nat → Prop) (ad : Nat → Nat → Nat) (κ : CS) (X : XT) (cs : Nat → CT) (lf : Nat → Int64) (pr : PT)  (c0 : CT) (xc : Int32) (dy : Int32) (htr : l.stackTraces = false) (hS : ShX κ X) : vx_Met l yX6_begin (wsA yX6_begin cX6_begin 5 (some .char)) ({ frames := 7, cells := 2, slots := 12, locals := 112 } : Room) (va_Pc [.ref (ad 0 0), .int xc, .int dy] (PRE D g A (iW ad g κ X (upc cs 0 c0) lf pr))) (va_Qi (fun (r : Int32) (_ : Unit) => ((opBegin κ xc dy)).1 = 0 ∧ r = ((opBegin κ xc dy)).2.1) (fun _ => PO D A (iW ad g (((opBegin κ xc dy)).2.2) X (upc cs 0 (bgC κ c0 xc dy)) lf pr)) A) (XQ (fun E => thrE [nsE, "java/lang/IllegalArgumentException"] ((opBegin κ xc dy)).1 E) D A (iW ad g κ X (upc cs 0 c0) lf pr)) 2 12 A := by
  have hn := hS.1
  refine metX (by decide) (Nat.le_of_ble_eq_true rfl) ?_
  intro p e s m args below meth c _ hex cx
  refine J_aload_n cx dX6_begin_0 rfl 0 rfl ?_
  refine J_iload_n cx dX6_begin_1 rfl 1 rfl ?_
  refine J_xcallVq cx hex kX6_73 (As := [.int xc]) (tX6_find l D g A ad κ X (upc cs 0 c0) lf pr  xc htr hS) (fun E h => by obtain ⟨h1, h2⟩ := h; subst h2; exact ⟨by simp [opBegin, wrongC, xj, h1, true_and], by simp [opBegin, wrongC, xj, h1, true_and]⟩) ⟨by decide, by decide⟩ ⟨rfl, rfl, by decide, by decide⟩ ⟨by decide, by decide⟩ rfl 0 rfl rfl rfl (Nat.le_of_ble_eq_true rfl) dX6_begin_2 ?_
  intro _ j hr; obtain ⟨hj, hxj, hr⟩ := hr; subst hr; subst hxj
  refine J_top (v' := .ref (ad 1 j)) rfl ?_
  have hjR : inR (κ.2.2.1 0) (nI j) = true := by rw [inR_nI (by omega)]; exact decide_eq_true hj
  have hjc : (nI j).toNatClampNeg = j := nI_clamp (by omega)
  refine J_astore_n cx (L' := [(3, .ref (ad 1 j)), (0, .ref (ad 0 0)), (1, .int (nI j)), (2, .int dy)]) dX6_begin_5 rfl (by decide) rfl ?_
  refine J_iload_n cx dX6_begin_6 rfl 3 rfl ?_
  refine J_xcallSv cx hex kX6_166 (As := [.int dy]) (tX6_requireDay l D g A ad κ X (upc cs 0 c0) lf pr  dy htr ) (fun E h => by obtain ⟨h1, h2⟩ := h; subst h2; exact ⟨by simp [opBegin, wrongC, xj, h1, hjR, hjc], by simp [opBegin, wrongC, xj, h1, hjR, hjc]⟩) ⟨by decide, by decide⟩ ⟨rfl, rfl, by decide, by decide⟩ ⟨by decide, by decide⟩ rfl rfl (Nat.le_of_ble_eq_true rfl) dX6_begin_7 ?_
  intro _ hr
  have hdz := hr
  refine J_aload_n cx dX6_begin_10 rfl 0 rfl ?_
  refine J_iload_n cx dX6_begin_11 rfl 3 rfl ?_
  refine J_callVi cx kX6_206 (As := [.int dy]) (tX0_refusalOn l D g A ad κ X (upc cs 0 c0) lf pr  j dy hj) ⟨rfl, rfl, by decide, by decide⟩ ⟨by decide, by decide⟩ rfl (17 + j) (iG_c (by first | assumption | omega)) rfl rfl (Nat.le_of_ble_eq_true rfl) dX6_begin_12 ?_
  intro _ _ hr; cases hr
  have hrl := rfI_le κ j dy
  refine J_istore cx (L' := [(4, .int (nI (rfI κ j dy))), (3, .ref (ad 1 j)), (0, .ref (ad 0 0)), (1, .int (nI j)), (2, .int dy)]) dX6_begin_15 (by decide) rfl ?_
  refine J_iload cx dX6_begin_17 0 rfl ?_
  refine J_bipush cx (v := nI 111) dX6_begin_19 (by decide) ?_
  refine J_icmp_ne cx (tgt := 33) dX6_begin_21 (by decide) (fun c_1 => ?_) (fun c_1 => ?_)
  · have c_1 := (nat_ic_ne (by omega) (by omega)).mp c_1
    have c_1d := decide_eq_false c_1
    obtain ⟨hb1, hb2⟩ := begin_n hS hj c_1
    refine J_iload cx dX6_begin_33 0 rfl ?_
    refine J_x ?_
    exact J_zret cx rfl (u := ()) (by first | decide | exact (pk_charN (by omega)).1) ⟨by simp [opBegin, bgC, wrongC, xj, hjR, hjc, hdz, hb1, hb2], by simp [opBegin, bgC, wrongC, xj, hjR, hjc, hdz, hb1, hb2]; try (split <;> rfl)⟩ (by simp [opBegin, bgC, wrongC, xj, hjR, hjc, hdz, hb1, hb2]; try rfl) (Nat.le_of_ble_eq_true rfl) (Nat.le_of_ble_eq_true rfl) dX6_begin_35
  · have c_1 := (nat_ic_ne_f (by omega) (by omega)).mp c_1
    have c_1d := decide_eq_true c_1
    have hb1 := begin_o hS hj c_1
    have hb2 := c_1
    refine J_aload_n cx dX6_begin_24 rfl 2 rfl ?_
    refine J_get cx (v := .ref (ad 0 11)) fX6_32 0 rfl rfl dX6_begin_25 ?_
    refine J_aload_n cx dX6_begin_28 rfl 1 rfl ?_
    refine J_iload_n cx dX6_begin_29 rfl 4 rfl ?_
    refine J_callVv cx kX6_198 (As := [.ref (ad 1 j), .int dy]) (tX1_restart l D g A ad κ X cs lf pr  0 c0 j dy (by decide) hj) ⟨rfl, rfl, by decide, by decide⟩ ⟨by decide, by decide⟩ rfl (11 + 2 * 0) (iG_ch (by decide)) rfl rfl (Nat.le_of_ble_eq_true rfl) dX6_begin_30 ?_
    intro _ _
    refine J_iload cx dX6_begin_33 0 rfl ?_
    refine J_x ?_
    exact J_zret cx rfl (u := ()) (by first | decide | exact (pk_charN (by omega)).1) ⟨by simp [opBegin, bgC, wrongC, xj, hjR, hjc, hdz, hb1, hb2], by simp [opBegin, bgC, wrongC, xj, hjR, hjc, hdz, hb1, hb2]; try (split <;> rfl)⟩ (by simp [opBegin, bgC, wrongC, xj, hjR, hjc, hdz, hb1, hb2]; try rfl) (Nat.le_of_ble_eq_true rfl) (Nat.le_of_ble_eq_true rfl) dX6_begin_35
