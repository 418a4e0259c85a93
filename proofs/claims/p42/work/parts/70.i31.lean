theorem J_st {p : Program} {l : Launch} {e : Env} {R : Room} {s : State} {m : MethodId} {args : Array Value} {below : List Frame} {meth : Method} {c : Code} {nL : Nat} {D : va_G} {A : Nat → Prop} {Q : State → Prop} {cells slots : Nat} {ws : va_W} {L : List (Nat × Value)} {pc : Nat} {st st' : List Value} (h : st = st') (kk : J p l e R s m args below meth c D A nL Q cells slots ws L pc st') : J p l e R s m args below meth c D A nL Q cells slots ws L pc st := h ▸ kk
/-- rows of certificates that are not there yet -/
def FRS (κ : CS) : Prop := ∀ i, κ.2.2.1 0 ≤ i → κ.1 7 i = nI 0 ∧ κ.1 8 i = nI 0 ∧ ∀ f, κ.2.1 f i = false
theorem upI_ne {I : Nat → Nat → Int32} {f j : Nat} {x : Int32} {g i : Nat} (h : g ≠ f ∨ i ≠ j) : upI I f j x g i = I g i := by
  unfold upI
  by_cases e : g = f
  · rw [if_pos e]; subst e
    rcases h with h | h
    · exact absurd rfl h
    · exact if_neg h
  · rw [if_neg e]
theorem upI_eq {I : Nat → Nat → Int32} {f j : Nat} {x : Int32} : upI I f j x f j = x := by unfold upI; rw [if_pos rfl]; exact if_pos rfl
theorem upB_ne {B : Nat → Nat → Bool} {f j : Nat} {x : Bool} {g i : Nat} (h : g ≠ f ∨ i ≠ j) : upB B f j x g i = B g i := by
  unfold upB
  by_cases e : g = f
  · rw [if_pos e]; subst e
    rcases h with h | h
    · exact absurd rfl h
    · exact if_neg h
  · rw [if_neg e]
theorem upB_eq {B : Nat → Nat → Bool} {f j : Nat} {x : Bool} : upB B f j x f j = x := by unfold upB; rw [if_pos rfl]; exact if_pos rfl
theorem mkK_f (κ : CS) (nm ky bn bk dy : Int32) : (∀ f i, i ≠ κ.2.2.1 0 → (mkK κ nm ky bn bk dy).1 f i = κ.1 f i) ∧ (mkK κ nm ky bn bk dy).1 0 (κ.2.2.1 0) = nm ∧ (mkK κ nm ky bn bk dy).1 1 (κ.2.2.1 0) = ky ∧ (mkK κ nm ky bn bk dy).1 2 (κ.2.2.1 0) = nI (κ.2.2.1 2) ∧ (mkK κ nm ky bn bk dy).1 3 (κ.2.2.1 0) = nI (κ.2.2.1 2) + dy - nI 1 ∧ (mkK κ nm ky bn bk dy).1 4 (κ.2.2.1 0) = bn ∧ (mkK κ nm ky bn bk dy).1 5 (κ.2.2.1 0) = bk ∧ (mkK κ nm ky bn bk dy).1 6 (κ.2.2.1 0) = κ.1 6 (κ.2.2.1 0) ∧ (mkK κ nm ky bn bk dy).1 7 (κ.2.2.1 0) = κ.1 7 (κ.2.2.1 0) ∧ (mkK κ nm ky bn bk dy).1 8 (κ.2.2.1 0) = κ.1 8 (κ.2.2.1 0) ∧ (mkK κ nm ky bn bk dy).1 9 (κ.2.2.1 0) = -1 := by
  refine ⟨fun f i hi => ?_, ?_, ?_, ?_, ?_, ?_, ?_, ?_, ?_, ?_, ?_⟩
  · unfold mkK; dsimp only; rw [upI_ne (Or.inr hi), upI_ne (Or.inr hi), upI_ne (Or.inr hi), upI_ne (Or.inr hi), upI_ne (Or.inr hi), upI_ne (Or.inr hi), upI_ne (Or.inr hi)]
  all_goals (unfold mkK; dsimp only; repeat (first | rw [upI_eq] | rw [upI_ne (Or.inl (by decide))]))
theorem NEW_mk {κ : CS} (hF : FRS κ) (nm ky bn bk dy : Int32) : NEW κ (mkK κ nm ky bn bk dy) dy (-1) := by
  obtain ⟨m0, a0, a1, a2, a3, a4, a5, a6, a7, a8, a9⟩ := mkK_f κ nm ky bn bk dy
  obtain ⟨f7, f8, fB⟩ := hF (κ.2.2.1 0) (Nat.le_refl _)
  exact ⟨rfl, rfl, rfl, fun i hi f => m0 f i (by omega), fun i hi f => rfl, a2, a3, by unfold lenI; rw [show (mkK κ nm ky bn bk dy).2.1 0 (κ.2.2.1 0) = false from fB 0]; rfl, a7.trans f7, a8.trans f8, fB 2, fB 3, a9⟩
theorem NEW_au {κ κ1 : CS} {dy ln ln' : Int32} (h : NEW κ κ1 dy ln') : NEW κ (auK κ1 (κ.2.2.1 0) ln) dy ln := by
  obtain ⟨b0, b1, b2, bI, bB, e2, e3, e6, e7, e8, f2, f3, e9⟩ := h
  refine ⟨b0, b1, b2, fun i hi f => ?_, fun i hi f => ?_, ?_, ?_, ?_, ?_, ?_, ?_, ?_, ?_⟩
  · show upI κ1.1 6 (κ.2.2.1 0) ln f i = _; rw [upI_ne (Or.inr (by omega))]; exact bI i hi f
  · show upB κ1.2.1 0 (κ.2.2.1 0) true f i = _; rw [upB_ne (Or.inr (by omega))]; exact bB i hi f
  · show upI κ1.1 6 (κ.2.2.1 0) ln 2 _ = _; rw [upI_ne (Or.inl (by decide))]; exact e2
  · show upI κ1.1 6 (κ.2.2.1 0) ln 3 _ = _; rw [upI_ne (Or.inl (by decide))]; exact e3
  · show (if upB κ1.2.1 0 (κ.2.2.1 0) true 0 (κ.2.2.1 0) then upI κ1.1 6 (κ.2.2.1 0) ln 6 (κ.2.2.1 0) else -1) = ln; rw [upB_eq, upI_eq]; rfl
  · show upI κ1.1 6 (κ.2.2.1 0) ln 7 _ = _; rw [upI_ne (Or.inl (by decide))]; exact e7
  · show upI κ1.1 6 (κ.2.2.1 0) ln 8 _ = _; rw [upI_ne (Or.inl (by decide))]; exact e8
  · show upB κ1.2.1 0 (κ.2.2.1 0) true 2 _ = _; rw [upB_ne (Or.inl (by decide))]; exact f2
  · show upB κ1.2.1 0 (κ.2.2.1 0) true 3 _ = _; rw [upB_ne (Or.inl (by decide))]; exact f3
  · show upI κ1.1 6 (κ.2.2.1 0) ln 9 _ = _; rw [upI_ne (Or.inl (by decide))]; exact e9
theorem NEW_rt {κ κ1 : CS} {dy ln : Int32} (h : NEW κ κ1 dy ln) : NEW κ (setB κ1 1 (κ.2.2.1 0) true) dy ln := by
  obtain ⟨b0, b1, b2, bI, bB, e2, e3, e6, e7, e8, f2, f3, e9⟩ := h
  refine ⟨b0, b1, b2, bI, fun i hi f => ?_, e2, e3, ?_, e7, e8, ?_, ?_, e9⟩
  · show upB κ1.2.1 1 (κ.2.2.1 0) true f i = _; rw [upB_ne (Or.inr (by omega))]; exact bB i hi f
  · show (if upB κ1.2.1 1 (κ.2.2.1 0) true 0 (κ.2.2.1 0) then κ1.1 6 (κ.2.2.1 0) else -1) = ln; rw [upB_ne (Or.inl (by decide))]; exact e6
  · show upB κ1.2.1 1 (κ.2.2.1 0) true 2 _ = _; rw [upB_ne (Or.inl (by decide))]; exact f2
  · show upB κ1.2.1 1 (κ.2.2.1 0) true 3 _ = _; rw [upB_ne (Or.inl (by decide))]; exact f3
theorem ShX_hl {κ : CS} {X : XT} (h : ShX κ X) (hk : κ.2.2.1 1 < 40) (nm : Int32) : ShX (kyK κ) (hlX X (κ.2.2.1 1) nm) := by
  obtain ⟨h1, h2, h3, h4, h5, h6⟩ := h
  refine ⟨h1, by show upn κ.2.2.1 1 (κ.2.2.1 1 + 1) 1 ≤ 40; rw [upn_eq]; omega, fun i hi => ?_, fun h hh r hr k hk2 => ?_, fun i hi => ?_, h6⟩
  · have := h3 i hi; show X.1 i < upn κ.2.2.1 1 (κ.2.2.1 1 + 1) 1 ∧ X.2.1 i < upn κ.2.2.1 1 (κ.2.2.1 1 + 1) 1; rw [upn_eq]; omega
  · have hh2 : h < upn κ.2.2.1 1 (κ.2.2.1 1 + 1) 1 := hh
    rw [upn_eq] at hh2
    have hk3 : (if h = κ.2.2.1 1 then (fun _ => none) else X.2.2.2.2.1 h) r = some k := hk2
    by_cases e : h = κ.2.2.1 1
    · rw [if_pos e] at hk3; cases hk3
    · rw [if_neg e] at hk3; exact h4 h (by omega) r hr k hk3
  · refine ⟨(h5 i hi).1, ?_⟩
    have h3i := (h3 i hi).1
    rw [show (kyK κ).1 0 i = κ.1 0 i from rfl, (h5 i hi).2]
    exact (show upd X.2.2.1 (κ.2.2.1 1) nm (X.1 i) = X.2.2.1 (X.1 i) from if_neg (by omega)).symm
theorem hHe_hl {κ : CS} {X : XT} (h : ∀ h, h < κ.2.2.1 1 → ∀ r k, X.2.2.2.2.1 h r = some k → k < κ.2.2.1 0) (nm : Int32) : ∀ h, h < (kyK κ).2.2.1 1 → ∀ r k, (hlX X (κ.2.2.1 1) nm).2.2.2.2.1 h r = some k → k < (kyK κ).2.2.1 0 := by
  intro j hj r k hk
  have hj2 : j < upn κ.2.2.1 1 (κ.2.2.1 1 + 1) 1 := hj
  rw [upn_eq] at hj2
  have hk3 : (if j = κ.2.2.1 1 then (fun _ => none) else X.2.2.2.2.1 j) r = some k := hk
  by_cases e : j = κ.2.2.1 1
  · rw [if_pos e] at hk3; cases hk3
  · rw [if_neg e] at hk3; exact h j (by omega) r k hk3
theorem key_jj {κ : CS} {X : XT} (hT : TIE κ X) (hS : ShX κ X) {i j : Nat} (hi : i < κ.2.2.1 0) (hj : j < κ.2.2.1 0) : decide (κ.1 1 j = κ.1 1 i) = decide (X.1 j = X.1 i) := by
  have h2 := hS.2.1
  have h3 := hS.sb hi
  rw [(hT i hi).2.2.1]; exact key_eq1 hT hS hj (by omega)
theorem wk_cnt {κ : CS} {X : XT} (hT : TIE κ X) (hS : ShX κ X) (hH : HLD κ X) {i : Nat} (hi : i < κ.2.2.1 0) : cnt (wkB κ (κ.1 1 i)) (κ.2.2.1 0) = X.2.2.2.1 (X.1 i) ∧ X.2.2.2.1 (X.1 i) ≤ 3 := by
  obtain ⟨a, h1, h2, h3, _⟩ := hH (X.1 i) (hS.sb hi)
  rw [h2, ← h3]
  exact ⟨cnt_congr fun k hk => key_jj hT hS hi hk, by omega⟩
set_option maxHeartbeats 4000000 in
set_option maxRecDepth 100000 in
theorem tX6_makeRoot (l : Launch) (D : va_G) (g : Nat → ClassId) (A : Nat → Prop) (ad : Nat → Nat → Nat) (κ : CS) (X : XT) (cs : Nat → CT) (lf : Nat → Int64) (pr : PT) (nm : Int32) (dy : Int32) (ln : Int32) (htr : l.stackTraces = false) (hS : ShX κ X) (hkn : κ.2.2.1 1 ≤ κ.2.2.1 0) (hF : FRS κ) (hHe : ∀ h, h < κ.2.2.1 1 → ∀ r k, X.2.2.2.2.1 h r = some k → k < κ.2.2.1 0) (hCq : ∀ j, j < 3 → ShC κ (cs j))  : vx_Met l yX6_makeRoot (wsA yX6_makeRoot cX6_makeRoot 5 (some .int)) ({ frames := 7, cells := 7, slots := 42, locals := 110 } : Room) (va_Pc [.ref (ad 0 0), .int nm, .int dy, .int ln] (PRE D g A (iW ad g κ X cs lf pr))) (va_Qi (fun (r : Int32) (u : Nat → Nat → Nat) => ((opMakeRoot κ nm dy ln)).1 = 0 ∧ r = ((opMakeRoot κ nm dy ln)).2.1 ∧ u 0 = ad 0) (fun u => PO D A (iW u g ((opMakeRoot κ nm dy ln)).2.2 (enX (hlX X (κ.2.2.1 1) nm) (κ.2.2.1 0) (κ.2.2.1 1) (κ.2.2.1 1)) (fun q => nrC (cs q)) lf pr)) A) (XQ (fun E => thrE ["java/lang/IllegalArgumentException", "java/lang/IllegalStateException"] ((opMakeRoot κ nm dy ln)).1 E) D A (iW ad g κ X cs lf pr)) 7 42 A := by
  have hn := hS.1
  refine metX (by decide) (Nat.le_of_ble_eq_true rfl) ?_
  intro p e s m args below meth c _ hex cx
  refine J_iload_n cx dX6_makeRoot_0 rfl 1 rfl ?_
  refine J_xcallSv cx hex kX6_52 (As := [.int nm]) (tX6_requireName l D g A ad κ X cs lf pr  nm htr ) (fun E h => by obtain ⟨h1, h2⟩ := h; subst h2; exact ⟨by simp [opMakeRoot, xj, h1, true_and], by simp [opMakeRoot, xj, h1, true_and]⟩) ⟨by decide, by decide⟩ ⟨rfl, rfl, by decide, by decide⟩ ⟨by decide, by decide⟩ rfl rfl (Nat.le_of_ble_eq_true rfl) dX6_makeRoot_1 ?_
  intro _ hr
  have hnm := hr
  refine J_iload_n cx dX6_makeRoot_4 rfl 2 rfl ?_
  refine J_xcallSv cx hex kX6_56 (As := [.int dy]) (tX6_requireDays l D g A ad κ X cs lf pr  dy htr ) (fun E h => by obtain ⟨h1, h2⟩ := h; subst h2; exact ⟨by simp [opMakeRoot, xj, h1, hnm], by simp [opMakeRoot, xj, h1, hnm]⟩) ⟨by decide, by decide⟩ ⟨rfl, rfl, by decide, by decide⟩ ⟨by decide, by decide⟩ rfl rfl (Nat.le_of_ble_eq_true rfl) dX6_makeRoot_5 ?_
  intro _ hr
  have hdy := hr
  refine J_iload_n cx dX6_makeRoot_8 rfl 3 rfl ?_
  refine J_xcallSv cx hex kX6_59 (As := [.int ln]) (tX6_requireLength l D g A ad κ X cs lf pr  ln htr ) (fun E h => by obtain ⟨h1, h2⟩ := h; subst h2; exact ⟨by simp [opMakeRoot, xj, h1, hnm, hdy], by simp [opMakeRoot, xj, h1, hnm, hdy]⟩) ⟨by decide, by decide⟩ ⟨rfl, rfl, by decide, by decide⟩ ⟨by decide, by decide⟩ rfl rfl (Nat.le_of_ble_eq_true rfl) dX6_makeRoot_9 ?_
  intro _ hr
  have hln := hr
  refine J_aload_n cx dX6_makeRoot_12 rfl 0 rfl ?_
  refine J_xcallVv cx hex kX6_62 (As := []) (tX6_requireRoom l D g A ad κ X cs lf pr   htr hn) (fun E h => by obtain ⟨h1, h2⟩ := h; subst h2; exact ⟨by simp [opMakeRoot, xj, h1, hnm, hdy, hln], by simp [opMakeRoot, xj, h1, hnm, hdy, hln]⟩) ⟨by decide, by decide⟩ ⟨rfl, rfl, by decide, by decide⟩ ⟨by decide, by decide⟩ rfl 0 rfl rfl rfl (Nat.le_of_ble_eq_true rfl) dX6_makeRoot_13 ?_
  intro _ hr
  have hrm := hr
  refine J_aload_n cx dX6_makeRoot_16 rfl 0 rfl ?_
  refine J_iload_n cx dX6_makeRoot_17 rfl 1 rfl ?_
  have hN0 : decide (κ.2.2.1 0 = 40) = false := decide_eq_false (by omega)
  refine J_callVq cx kX6_65 (As := [.int nm]) (tX6_newHolder l D g A ad κ X cs lf pr nm hS) ⟨rfl, rfl, by decide, by decide⟩ ⟨by decide, by decide⟩ rfl 0 rfl rfl rfl (Nat.le_of_ble_eq_true rfl) dX6_makeRoot_18 ?_
  intro _ u9 hr; obtain ⟨hr, h90, h91, h92⟩ := hr; subst hr
  refine J_Le (L' := [(0, .ref (u9 0 0)), (1, .int nm), (2, .int dy), (3, .int ln)]) (by rw [h90]; try rfl) ?_
  refine J_top (v' := .ref (u9 2 (κ.2.2.1 1))) rfl ?_
  refine J_astore cx (L' := [(4, .ref (u9 2 (κ.2.2.1 1))), (0, .ref (u9 0 0)), (1, .int nm), (2, .int dy), (3, .int ln)]) dX6_makeRoot_21 (by decide) rfl ?_
  refine J_aload_n cx dX6_makeRoot_23 rfl 1 rfl ?_
  refine J_aload cx dX6_makeRoot_24 0 rfl ?_
  refine J_aload cx dX6_makeRoot_26 0 rfl ?_
  refine J_iload_n cx dX6_makeRoot_28 rfl 3 rfl ?_
  refine J_iload_n cx dX6_makeRoot_29 rfl 4 rfl ?_
  have hm1 : (kyK κ).2.2.1 1 = κ.2.2.1 1 + 1 := by show upn κ.2.2.1 1 (κ.2.2.1 1 + 1) 1 = _; exact upn_eq
  have hF9 : FRS (kyK κ) := hF
  refine J_callVi cx kX6_69 (As := [.ref (u9 2 (κ.2.2.1 1)), .ref (u9 2 (κ.2.2.1 1)), .int dy, .int ln]) (tX6_enter l D g A u9 (kyK κ) (hlX X (κ.2.2.1 1) nm) cs lf pr (κ.2.2.1 1) (κ.2.2.1 1) dy ln _ (ShX_hl hS (by omega) nm) (by show κ.2.2.1 0 < 40; omega) (by rw [hm1]; omega) (by rw [hm1]; omega) (by show upn X.2.2.2.1 (κ.2.2.1 1) 0 (κ.2.2.1 1) < 3; rw [upn_eq]; decide) (hHe_hl hHe nm) hCq (NEW_rt (NEW_au (NEW_mk hF9 nm (nI (κ.2.2.1 1 + 1)) nm (nI (κ.2.2.1 1 + 1)) dy)))) ⟨rfl, rfl, by decide, by decide⟩ ⟨by decide, by decide⟩ rfl 0 rfl rfl rfl (Nat.le_of_ble_eq_true rfl) dX6_makeRoot_30 ?_
  intro _ u10 hr; obtain ⟨hr, h100⟩ := hr; subst hr
  refine J_x ?_
  exact J_iret cx rfl (u := u10) ⟨by simp [opMakeRoot, xj, hN0, hnm, hdy, hln, hrm], by simp [opMakeRoot, xj, hN0, hnm, hdy, hln, hrm]; try rfl, h100.trans h90⟩ (by simp [opMakeRoot, xj, hN0, hnm, hdy, hln, hrm]; try rfl) (Nat.le_of_ble_eq_true rfl) (Nat.le_of_ble_eq_true rfl) dX6_makeRoot_33
set_option maxHeartbeats 4000000 in
set_option maxRecDepth 100000 in
theorem tX6_issue (l : Launch) (D : va_G) (g : Nat → ClassId) (A : Nat → Prop) (ad : Nat → Nat → Nat) (κ : CS) (X : XT) (cs : Nat → CT) (lf : Nat → Int64) (pr : PT) (xc : Int32) (nm : Int32) (dy : Int32) (htr : l.stackTraces = false) (hS : ShX κ X) (hkn : κ.2.2.1 1 ≤ κ.2.2.1 0) (hF : FRS κ) (hHe : ∀ h, h < κ.2.2.1 1 → ∀ r k, X.2.2.2.2.1 h r = some k → k < κ.2.2.1 0) (hCq : ∀ j, j < 3 → ShC κ (cs j)) (hI : InvM κ) : vx_Met l yX6_issue (wsA yX6_issue cX6_issue 5 (some .int)) ({ frames := 7, cells := 8, slots := 48, locals := 112 } : Room) (va_Pc [.ref (ad 0 0), .int xc, .int nm, .int dy] (PRE D g A (iW ad g κ X cs lf pr))) (va_Qi (fun (r : Int32) (u : Nat → Nat → Nat) => ((opIssue κ xc nm dy)).1 = 0 ∧ r = ((opIssue κ xc nm dy)).2.1 ∧ u 0 = ad 0) (fun u => PO D A (iW u g ((opIssue κ xc nm dy)).2.2 (enX (hlX X (κ.2.2.1 1) nm) (κ.2.2.1 0) (κ.2.2.1 1) (X.1 (xj xc))) (fun q => nrC (cs q)) lf pr)) A) (XQ (fun E => thrE [nsE, "java/lang/IllegalArgumentException", "java/lang/IllegalStateException"] ((opIssue κ xc nm dy)).1 E) D A (iW ad g κ X cs lf pr)) 8 48 A := by
  have hn := hS.1
  refine metX (by decide) (Nat.le_of_ble_eq_true rfl) ?_
  intro p e s m args below meth c _ hex cx
  refine J_aload_n cx dX6_issue_0 rfl 0 rfl ?_
  refine J_iload_n cx dX6_issue_1 rfl 1 rfl ?_
  refine J_xcallVq cx hex kX6_73 (As := [.int xc]) (tX6_find l D g A ad κ X cs lf pr  xc htr hS) (fun E h => by obtain ⟨h1, h2⟩ := h; subst h2; exact ⟨by simp [opIssue, canI, xj, h1, true_and], by simp [opIssue, canI, xj, h1, true_and]⟩) ⟨by decide, by decide⟩ ⟨rfl, rfl, by decide, by decide⟩ ⟨by decide, by decide⟩ rfl 0 rfl rfl rfl (Nat.le_of_ble_eq_true rfl) dX6_issue_2 ?_
  intro _ j hr; obtain ⟨hj, hxj, hr⟩ := hr; subst hr; subst hxj
  refine J_top (v' := .ref (ad 1 j)) rfl ?_
  have hjR : inR (κ.2.2.1 0) (nI j) = true := by rw [inR_nI (by omega)]; exact decide_eq_true hj
  have hjc : (nI j).toNatClampNeg = j := nI_clamp (by omega)
  refine J_astore cx (L' := [(4, .ref (ad 1 j)), (0, .ref (ad 0 0)), (1, .int (nI j)), (2, .int nm), (3, .int dy)]) dX6_issue_5 (by decide) rfl ?_
  refine J_iload_n cx dX6_issue_7 rfl 3 rfl ?_
  refine J_xcallSv cx hex kX6_52 (As := [.int nm]) (tX6_requireName l D g A ad κ X cs lf pr  nm htr ) (fun E h => by obtain ⟨h1, h2⟩ := h; subst h2; exact ⟨by simp [opIssue, canI, xj, h1, hjR, hjc], by simp [opIssue, canI, xj, h1, hjR, hjc]⟩) ⟨by decide, by decide⟩ ⟨rfl, rfl, by decide, by decide⟩ ⟨by decide, by decide⟩ rfl rfl (Nat.le_of_ble_eq_true rfl) dX6_issue_8 ?_
  intro _ hr
  have hnm := hr
  refine J_iload_n cx dX6_issue_11 rfl 4 rfl ?_
  refine J_xcallSv cx hex kX6_56 (As := [.int dy]) (tX6_requireDays l D g A ad κ X cs lf pr  dy htr ) (fun E h => by obtain ⟨h1, h2⟩ := h; subst h2; exact ⟨by simp [opIssue, canI, xj, h1, hjR, hjc, hnm], by simp [opIssue, canI, xj, h1, hjR, hjc, hnm]⟩) ⟨by decide, by decide⟩ ⟨rfl, rfl, by decide, by decide⟩ ⟨by decide, by decide⟩ rfl rfl (Nat.le_of_ble_eq_true rfl) dX6_issue_12 ?_
  intro _ hr
  have hdy := hr
  refine J_aload cx dX6_issue_15 0 rfl ?_
  refine J_xcallSv cx hex kX6_77 (As := [.ref (ad 1 j)]) (tX6_requireAuthority l D g A ad κ X cs lf pr  j htr hI hj) (fun E h => by obtain ⟨h1, h2⟩ := h; subst h2; exact ⟨by simp [opIssue, canI, xj, h1, hjR, hjc, hnm, hdy], by simp [opIssue, canI, xj, h1, hjR, hjc, hnm, hdy]⟩) ⟨by decide, by decide⟩ ⟨rfl, rfl, by decide, by decide⟩ ⟨by decide, by decide⟩ rfl rfl (Nat.le_of_ble_eq_true rfl) dX6_issue_17 ?_
  intro _ hr
  have hau := hr
  refine J_aload_n cx dX6_issue_20 rfl 1 rfl ?_
  refine J_xcallVv cx hex kX6_62 (As := []) (tX6_requireRoom l D g A ad κ X cs lf pr   htr hn) (fun E h => by obtain ⟨h1, h2⟩ := h; subst h2; rw [h1] at hjR; exact ⟨by simp [opIssue, canI, xj, h1, hjR, hjc, hnm, hdy, hau], by simp [opIssue, canI, xj, h1, hjR, hjc, hnm, hdy, hau]⟩) ⟨by decide, by decide⟩ ⟨rfl, rfl, by decide, by decide⟩ ⟨by decide, by decide⟩ rfl 0 rfl rfl rfl (Nat.le_of_ble_eq_true rfl) dX6_issue_21 ?_
  intro _ hr
  have hrm := hr
  refine J_aload_n cx dX6_issue_24 rfl 1 rfl ?_
  refine J_aload_n cx dX6_issue_25 rfl 1 rfl ?_
  refine J_iload_n cx dX6_issue_26 rfl 3 rfl ?_
  have hN0 : decide (κ.2.2.1 0 = 40) = false := decide_eq_false (by omega)
  refine J_callVq cx kX6_65 (As := [.int nm]) (tX6_newHolder l D g A ad κ X cs lf pr nm hS) ⟨rfl, rfl, by decide, by decide⟩ ⟨by decide, by decide⟩ rfl 0 rfl rfl rfl (Nat.le_of_ble_eq_true rfl) dX6_issue_27 ?_
  intro _ u9 hr; obtain ⟨hr, h90, h91, h92⟩ := hr; subst hr
  refine J_Le (L' := [(4, .ref (u9 1 j)), (0, .ref (u9 0 0)), (1, .int (nI j)), (2, .int nm), (3, .int dy)]) (by rw [h90, h91]; try rfl) ?_
  refine J_st (st' := [va_rf (some (u9 2 (κ.2.2.1 1))), .ref (u9 0 0)]) (by rw [h90]; try rfl) ?_
  refine J_top (v' := .ref (u9 2 (κ.2.2.1 1))) rfl ?_
  refine J_aload cx dX6_issue_30 0 rfl ?_
  refine J_get cx (v := .ref (u9 2 (X.1 j))) fX6_81 (17 + j) (iG_c (by first | assumption | omega)) rfl dX6_issue_32 ?_
  refine J_iload_n cx dX6_issue_35 rfl 4 rfl ?_
  refine J_iconst cx (v := (-1)) dX6_issue_36 (by decide) ?_
  have hm1 : (kyK κ).2.2.1 1 = κ.2.2.1 1 + 1 := by show upn κ.2.2.1 1 (κ.2.2.1 1 + 1) 1 = _; exact upn_eq
  have hF9 : FRS (kyK κ) := hF
  refine J_callVi cx kX6_69 (As := [.ref (u9 2 (κ.2.2.1 1)), .ref (u9 2 (X.1 j)), .int dy, .int (-1)]) (tX6_enter l D g A u9 (kyK κ) (hlX X (κ.2.2.1 1) nm) cs lf pr (κ.2.2.1 1) (X.1 j) dy (-1) _ (ShX_hl hS (by omega) nm) (by show κ.2.2.1 0 < 40; omega) (by rw [hm1]; omega) (by rw [hm1]; have := hS.sb hj; omega) (by show upn X.2.2.2.1 (κ.2.2.1 1) 0 (κ.2.2.1 1) < 3; rw [upn_eq]; decide) (hHe_hl hHe nm) hCq (NEW_mk hF9 nm (nI (κ.2.2.1 1 + 1)) (κ.1 0 j) (κ.1 1 j) dy)) ⟨rfl, rfl, by decide, by decide⟩ ⟨by decide, by decide⟩ rfl 0 rfl rfl rfl (Nat.le_of_ble_eq_true rfl) dX6_issue_37 ?_
  intro _ u10 hr; obtain ⟨hr, h100⟩ := hr; subst hr
  refine J_x ?_
  exact J_iret cx rfl (u := u10) ⟨by simp [opIssue, canI, xj, hN0, hjR, hjc, hnm, hdy, hau, hrm], by simp [opIssue, canI, xj, hN0, hjR, hjc, hnm, hdy, hau, hrm]; try rfl, h100.trans h90⟩ (by simp [opIssue, canI, xj, hN0, hjR, hjc, hnm, hdy, hau, hrm]; try rfl) (Nat.le_of_ble_eq_true rfl) (Nat.le_of_ble_eq_true rfl) dX6_issue_40
set_option maxHeartbeats 4000000 in
set_option maxRecDepth 100000 in
theorem tX6_issueAuthority (l : Launch) (D : va_G) (g : Nat → ClassId) (A : Nat → Prop) (ad : Nat → Nat → Nat) (κ : CS) (X : XT) (cs : Nat → CT) (lf : Nat → Int64) (pr : PT) (xc : Int32) (nm : Int32) (dy : Int32) (ln : Int32) (htr : l.stackTraces = false) (hS : ShX κ X) (hkn : κ.2.2.1 1 ≤ κ.2.2.1 0) (hF : FRS κ) (hHe : ∀ h, h < κ.2.2.1 1 → ∀ r k, X.2.2.2.2.1 h r = some k → k < κ.2.2.1 0) (hCq : ∀ j, j < 3 → ShC κ (cs j)) (hI : InvM κ) : vx_Met l yX6_issueAuthority (wsA yX6_issueAuthority cX6_issueAuthority 6 (some .int)) ({ frames := 7, cells := 9, slots := 54, locals := 112 } : Room) (va_Pc [.ref (ad 0 0), .int xc, .int nm, .int dy, .int ln] (PRE D g A (iW ad g κ X cs lf pr))) (va_Qi (fun (r : Int32) (u : Nat → Nat → Nat) => ((opIssueA κ xc nm dy ln)).1 = 0 ∧ r = ((opIssueA κ xc nm dy ln)).2.1 ∧ u 0 = ad 0) (fun u => PO D A (iW u g ((opIssueA κ xc nm dy ln)).2.2 (enX (hlX X (κ.2.2.1 1) nm) (κ.2.2.1 0) (κ.2.2.1 1) (X.1 (xj xc))) (fun q => nrC (cs q)) lf pr)) A) (XQ (fun E => thrE [nsE, "java/lang/IllegalArgumentException", "java/lang/IllegalStateException"] ((opIssueA κ xc nm dy ln)).1 E) D A (iW ad g κ X cs lf pr)) 9 54 A := by
  have hn := hS.1
  refine metX (by decide) (Nat.le_of_ble_eq_true rfl) ?_
  intro p e s m args below meth c _ hex cx
  refine J_aload_n cx dX6_issueAuthority_0 rfl 0 rfl ?_
  refine J_iload_n cx dX6_issueAuthority_1 rfl 1 rfl ?_
  refine J_xcallVq cx hex kX6_73 (As := [.int xc]) (tX6_find l D g A ad κ X cs lf pr  xc htr hS) (fun E h => by obtain ⟨h1, h2⟩ := h; subst h2; exact ⟨by simp [opIssueA, canI, xj, h1, true_and], by simp [opIssueA, canI, xj, h1, true_and]⟩) ⟨by decide, by decide⟩ ⟨rfl, rfl, by decide, by decide⟩ ⟨by decide, by decide⟩ rfl 0 rfl rfl rfl (Nat.le_of_ble_eq_true rfl) dX6_issueAuthority_2 ?_
  intro _ j hr; obtain ⟨hj, hxj, hr⟩ := hr; subst hr; subst hxj
  refine J_top (v' := .ref (ad 1 j)) rfl ?_
  have hjR : inR (κ.2.2.1 0) (nI j) = true := by rw [inR_nI (by omega)]; exact decide_eq_true hj
  have hjc : (nI j).toNatClampNeg = j := nI_clamp (by omega)
  refine J_astore cx (L' := [(5, .ref (ad 1 j)), (0, .ref (ad 0 0)), (1, .int (nI j)), (2, .int nm), (3, .int dy), (4, .int ln)]) dX6_issueAuthority_5 (by decide) rfl ?_
  refine J_iload_n cx dX6_issueAuthority_7 rfl 3 rfl ?_
  refine J_xcallSv cx hex kX6_52 (As := [.int nm]) (tX6_requireName l D g A ad κ X cs lf pr  nm htr ) (fun E h => by obtain ⟨h1, h2⟩ := h; subst h2; exact ⟨by simp [opIssueA, canI, xj, h1, hjR, hjc], by simp [opIssueA, canI, xj, h1, hjR, hjc]⟩) ⟨by decide, by decide⟩ ⟨rfl, rfl, by decide, by decide⟩ ⟨by decide, by decide⟩ rfl rfl (Nat.le_of_ble_eq_true rfl) dX6_issueAuthority_8 ?_
  intro _ hr
  have hnm := hr
  refine J_iload_n cx dX6_issueAuthority_11 rfl 4 rfl ?_
  refine J_xcallSv cx hex kX6_56 (As := [.int dy]) (tX6_requireDays l D g A ad κ X cs lf pr  dy htr ) (fun E h => by obtain ⟨h1, h2⟩ := h; subst h2; exact ⟨by simp [opIssueA, canI, xj, h1, hjR, hjc, hnm], by simp [opIssueA, canI, xj, h1, hjR, hjc, hnm]⟩) ⟨by decide, by decide⟩ ⟨rfl, rfl, by decide, by decide⟩ ⟨by decide, by decide⟩ rfl rfl (Nat.le_of_ble_eq_true rfl) dX6_issueAuthority_12 ?_
  intro _ hr
  have hdy := hr
  refine J_iload cx dX6_issueAuthority_15 5 rfl ?_
  refine J_xcallSv cx hex kX6_59 (As := [.int ln]) (tX6_requireLength l D g A ad κ X cs lf pr  ln htr ) (fun E h => by obtain ⟨h1, h2⟩ := h; subst h2; exact ⟨by simp [opIssueA, canI, xj, h1, hjR, hjc, hnm, hdy], by simp [opIssueA, canI, xj, h1, hjR, hjc, hnm, hdy]⟩) ⟨by decide, by decide⟩ ⟨rfl, rfl, by decide, by decide⟩ ⟨by decide, by decide⟩ rfl rfl (Nat.le_of_ble_eq_true rfl) dX6_issueAuthority_17 ?_
  intro _ hr
  have hln := hr
  refine J_aload cx dX6_issueAuthority_20 0 rfl ?_
  refine J_xcallSv cx hex kX6_77 (As := [.ref (ad 1 j)]) (tX6_requireAuthority l D g A ad κ X cs lf pr  j htr hI hj) (fun E h => by obtain ⟨h1, h2⟩ := h; subst h2; exact ⟨by simp [opIssueA, canI, xj, h1, hjR, hjc, hnm, hdy, hln], by simp [opIssueA, canI, xj, h1, hjR, hjc, hnm, hdy, hln]⟩) ⟨by decide, by decide⟩ ⟨rfl, rfl, by decide, by decide⟩ ⟨by decide, by decide⟩ rfl rfl (Nat.le_of_ble_eq_true rfl) dX6_issueAuthority_22 ?_
  intro _ hr
  have hau := hr
  refine J_aload_n cx dX6_issueAuthority_25 rfl 1 rfl ?_
  refine J_xcallVv cx hex kX6_62 (As := []) (tX6_requireRoom l D g A ad κ X cs lf pr   htr hn) (fun E h => by obtain ⟨h1, h2⟩ := h; subst h2; rw [h1] at hjR; exact ⟨by simp [opIssueA, canI, xj, h1, hjR, hjc, hnm, hdy, hln, hau], by simp [opIssueA, canI, xj, h1, hjR, hjc, hnm, hdy, hln, hau]⟩) ⟨by decide, by decide⟩ ⟨rfl, rfl, by decide, by decide⟩ ⟨by decide, by decide⟩ rfl 0 rfl rfl rfl (Nat.le_of_ble_eq_true rfl) dX6_issueAuthority_26 ?_
  intro _ hr
  have hrm := hr
  refine J_aload_n cx dX6_issueAuthority_29 rfl 1 rfl ?_
  refine J_aload_n cx dX6_issueAuthority_30 rfl 1 rfl ?_
  refine J_iload_n cx dX6_issueAuthority_31 rfl 3 rfl ?_
  have hN0 : decide (κ.2.2.1 0 = 40) = false := decide_eq_false (by omega)
  refine J_callVq cx kX6_65 (As := [.int nm]) (tX6_newHolder l D g A ad κ X cs lf pr nm hS) ⟨rfl, rfl, by decide, by decide⟩ ⟨by decide, by decide⟩ rfl 0 rfl rfl rfl (Nat.le_of_ble_eq_true rfl) dX6_issueAuthority_32 ?_
  intro _ u9 hr; obtain ⟨hr, h90, h91, h92⟩ := hr; subst hr
  refine J_Le (L' := [(5, .ref (u9 1 j)), (0, .ref (u9 0 0)), (1, .int (nI j)), (2, .int nm), (3, .int dy), (4, .int ln)]) (by rw [h90, h91]; try rfl) ?_
  refine J_st (st' := [va_rf (some (u9 2 (κ.2.2.1 1))), .ref (u9 0 0)]) (by rw [h90]; try rfl) ?_
  refine J_top (v' := .ref (u9 2 (κ.2.2.1 1))) rfl ?_
  refine J_aload cx dX6_issueAuthority_35 0 rfl ?_
  refine J_get cx (v := .ref (u9 2 (X.1 j))) fX6_81 (17 + j) (iG_c (by first | assumption | omega)) rfl dX6_issueAuthority_37 ?_
  refine J_iload_n cx dX6_issueAuthority_40 rfl 4 rfl ?_
  refine J_iload cx dX6_issueAuthority_41 5 rfl ?_
  have hm1 : (kyK κ).2.2.1 1 = κ.2.2.1 1 + 1 := by show upn κ.2.2.1 1 (κ.2.2.1 1 + 1) 1 = _; exact upn_eq
  have hF9 : FRS (kyK κ) := hF
  refine J_callVi cx kX6_69 (As := [.ref (u9 2 (κ.2.2.1 1)), .ref (u9 2 (X.1 j)), .int dy, .int ln]) (tX6_enter l D g A u9 (kyK κ) (hlX X (κ.2.2.1 1) nm) cs lf pr (κ.2.2.1 1) (X.1 j) dy ln _ (ShX_hl hS (by omega) nm) (by show κ.2.2.1 0 < 40; omega) (by rw [hm1]; omega) (by rw [hm1]; have := hS.sb hj; omega) (by show upn X.2.2.2.1 (κ.2.2.1 1) 0 (κ.2.2.1 1) < 3; rw [upn_eq]; decide) (hHe_hl hHe nm) hCq (NEW_au (NEW_mk hF9 nm (nI (κ.2.2.1 1 + 1)) (κ.1 0 j) (κ.1 1 j) dy))) ⟨rfl, rfl, by decide, by decide⟩ ⟨by decide, by decide⟩ rfl 0 rfl rfl rfl (Nat.le_of_ble_eq_true rfl) dX6_issueAuthority_43 ?_
  intro _ u10 hr; obtain ⟨hr, h100⟩ := hr; subst hr
  refine J_x ?_
  exact J_iret cx rfl (u := u10) ⟨by simp [opIssueA, canI, xj, hN0, hjR, hjc, hnm, hdy, hln, hau, hrm], by simp [opIssueA, canI, xj, hN0, hjR, hjc, hnm, hdy, hln, hau, hrm]; try rfl, h100.trans h90⟩ (by simp [opIssueA, canI, xj, hN0, hjR, hjc, hnm, hdy, hln, hau, hrm]; try rfl) (Nat.le_of_ble_eq_true rfl) (Nat.le_of_ble_eq_true rfl) dX6_issueAuthority_46
set_option maxHeartbeats 4000000 in
set_option maxRecDepth 100000 in
theorem tX6_cross (l : Launch) (D : va_G) (g : Nat → ClassId) (A : Nat → Prop) (ad : Nat → Nat → Nat) (κ : CS) (X : XT) (cs : Nat → CT) (lf : Nat → Int64) (pr : PT) (xc : Int32) (xs : Int32) (dy : Int32) (ln : Int32) (htr : l.stackTraces = false) (hS : ShX κ X) (hkn : κ.2.2.1 1 ≤ κ.2.2.1 0) (hF : FRS κ) (hHe : ∀ h, h < κ.2.2.1 1 → ∀ r k, X.2.2.2.2.1 h r = some k → k < κ.2.2.1 0) (hCq : ∀ j, j < 3 → ShC κ (cs j)) (hI : InvM κ) (hT : TIE κ X) (hH : HLD κ X) : vx_Met l yX6_cross (wsA yX6_cross cX6_cross 7 (some .int)) ({ frames := 7, cells := 9, slots := 59, locals := 112 } : Room) (va_Pc [.ref (ad 0 0), .int xc, .int xs, .int dy, .int ln] (PRE D g A (iW ad g κ X cs lf pr))) (va_Qi (fun (r : Int32) (u : Nat → Nat → Nat) => ((opCross κ xc xs dy ln)).1 = 0 ∧ r = ((opCross κ xc xs dy ln)).2.1 ∧ u 0 = ad 0) (fun u => PO D A (iW u g ((opCross κ xc xs dy ln)).2.2 (enX X (κ.2.2.1 0) (X.1 (xj xs)) (X.1 (xj xc))) (fun q => nrC (cs q)) lf pr)) A) (XQ (fun E => thrE [nsE, "java/lang/IllegalArgumentException", "java/lang/IllegalStateException"] ((opCross κ xc xs dy ln)).1 E) D A (iW ad g κ X cs lf pr)) 9 59 A := by
  have hn := hS.1
  refine metX (by decide) (Nat.le_of_ble_eq_true rfl) ?_
  intro p e s m args below meth c _ hex cx
  refine J_apart (fun hDD => ?_)
  refine J_aload_n cx dX6_cross_0 rfl 0 rfl ?_
  refine J_iload_n cx dX6_cross_1 rfl 1 rfl ?_
  refine J_xcallVq cx hex kX6_73 (As := [.int xc]) (tX6_find l D g A ad κ X cs lf pr  xc htr hS) (fun E h => by obtain ⟨h1, h2⟩ := h; subst h2; exact ⟨by simp [opCross, xj, h1, true_and], by simp [opCross, xj, h1, true_and]⟩) ⟨by decide, by decide⟩ ⟨rfl, rfl, by decide, by decide⟩ ⟨by decide, by decide⟩ rfl 0 rfl rfl rfl (Nat.le_of_ble_eq_true rfl) dX6_cross_2 ?_
  intro _ j hr; obtain ⟨hj, hxj, hr⟩ := hr; subst hr; subst hxj
  refine J_top (v' := .ref (ad 1 j)) rfl ?_
  have hjR : inR (κ.2.2.1 0) (nI j) = true := by rw [inR_nI (by omega)]; exact decide_eq_true hj
  have hjc : (nI j).toNatClampNeg = j := nI_clamp (by omega)
  refine J_astore cx (L' := [(5, .ref (ad 1 j)), (0, .ref (ad 0 0)), (1, .int (nI j)), (2, .int xs), (3, .int dy), (4, .int ln)]) dX6_cross_5 (by decide) rfl ?_
  refine J_aload_n cx dX6_cross_7 rfl 1 rfl ?_
  refine J_iload_n cx dX6_cross_8 rfl 3 rfl ?_
  refine J_xcallVq cx hex kX6_73 (As := [.int xs]) (tX6_find l D g A ad κ X cs lf pr  xs htr hS) (fun E h => by obtain ⟨h1, h2⟩ := h; subst h2; exact ⟨by simp [opCross, xj, h1, hjR, hjc], by simp [opCross, xj, h1, hjR, hjc]⟩) ⟨by decide, by decide⟩ ⟨rfl, rfl, by decide, by decide⟩ ⟨by decide, by decide⟩ rfl 0 rfl rfl rfl (Nat.le_of_ble_eq_true rfl) dX6_cross_9 ?_
  intro _ i hr; obtain ⟨hi, hxi, hr⟩ := hr; subst hr; subst hxi
  refine J_top (v' := .ref (ad 1 i)) rfl ?_
  have hiR : inR (κ.2.2.1 0) (nI i) = true := by rw [inR_nI (by omega)]; exact decide_eq_true hi
  have hic : (nI i).toNatClampNeg = i := nI_clamp (by omega)
  refine J_astore cx (L' := [(6, .ref (ad 1 i)), (5, .ref (ad 1 j)), (0, .ref (ad 0 0)), (1, .int (nI j)), (2, .int (nI i)), (3, .int dy), (4, .int ln)]) dX6_cross_12 (by decide) rfl ?_
  refine J_iload_n cx dX6_cross_14 rfl 5 rfl ?_
  refine J_xcallSv cx hex kX6_56 (As := [.int dy]) (tX6_requireDays l D g A ad κ X cs lf pr  dy htr ) (fun E h => by obtain ⟨h1, h2⟩ := h; subst h2; exact ⟨by simp [opCross, xj, h1, hjR, hjc, hiR, hic], by simp [opCross, xj, h1, hjR, hjc, hiR, hic]⟩) ⟨by decide, by decide⟩ ⟨rfl, rfl, by decide, by decide⟩ ⟨by decide, by decide⟩ rfl rfl (Nat.le_of_ble_eq_true rfl) dX6_cross_15 ?_
  intro _ hr
  have hdy := hr
  refine J_iload cx dX6_cross_18 6 rfl ?_
  refine J_xcallSv cx hex kX6_59 (As := [.int ln]) (tX6_requireLength l D g A ad κ X cs lf pr  ln htr ) (fun E h => by obtain ⟨h1, h2⟩ := h; subst h2; exact ⟨by simp [opCross, xj, h1, hjR, hjc, hiR, hic, hdy], by simp [opCross, xj, h1, hjR, hjc, hiR, hic, hdy]⟩) ⟨by decide, by decide⟩ ⟨rfl, rfl, by decide, by decide⟩ ⟨by decide, by decide⟩ rfl rfl (Nat.le_of_ble_eq_true rfl) dX6_cross_20 ?_
  intro _ hr
  have hln := hr
  refine J_aload cx dX6_cross_23 1 rfl ?_
  refine J_xcallSv cx hex kX6_77 (As := [.ref (ad 1 j)]) (tX6_requireAuthority l D g A ad κ X cs lf pr  j htr hI hj) (fun E h => by obtain ⟨h1, h2⟩ := h; subst h2; exact ⟨by simp [opCross, xj, h1, hjR, hjc, hiR, hic, hdy, hln], by simp [opCross, xj, h1, hjR, hjc, hiR, hic, hdy, hln]⟩) ⟨by decide, by decide⟩ ⟨rfl, rfl, by decide, by decide⟩ ⟨by decide, by decide⟩ rfl rfl (Nat.le_of_ble_eq_true rfl) dX6_cross_25 ?_
  intro _ hr
  have hau_j := hr
  refine J_aload cx dX6_cross_28 0 rfl ?_
  refine J_xcallSv cx hex kX6_77 (As := [.ref (ad 1 i)]) (tX6_requireAuthority l D g A ad κ X cs lf pr  i htr hI hi) (fun E h => by obtain ⟨h1, h2⟩ := h; subst h2; exact ⟨by simp [opCross, xj, h1, hjR, hjc, hiR, hic, hdy, hln, hau_j], by simp [opCross, xj, h1, hjR, hjc, hiR, hic, hdy, hln, hau_j]⟩) ⟨by decide, by decide⟩ ⟨rfl, rfl, by decide, by decide⟩ ⟨by decide, by decide⟩ rfl rfl (Nat.le_of_ble_eq_true rfl) dX6_cross_30 ?_
  intro _ hr
  have hau_i := hr
  refine J_aload cx dX6_cross_33 0 rfl ?_
  refine J_get cx (v := .ref (ad 2 (X.1 i))) fX6_81 (17 + i) (iG_c (by first | assumption | omega)) rfl dX6_cross_35 ?_
  refine J_aload cx dX6_cross_38 1 rfl ?_
  refine J_get cx (v := .ref (ad 2 (X.1 j))) fX6_81 (17 + j) (iG_c (by first | assumption | omega)) rfl dX6_cross_40 ?_
  refine J_acmp_ne cx (rx := some (ad 2 (X.1 i))) (ry := some (ad 2 (X.1 j))) (tgt := 56) dX6_cross_43 (by decide) (fun c_1 => ?_) (fun c_1 => ?_)
  · have c_1 : ¬ X.1 i = X.1 j := fun z => c_1 (by rw [z])
    have c_1d := decide_eq_false c_1
    have hsk : decide (κ.1 1 j = κ.1 1 i) = false := (key_jj hT hS hi hj).trans (decide_eq_false (fun z => c_1 z.symm))
    refine J_aload cx dX6_cross_56 0 rfl ?_
    refine J_get cx (v := .ref (ad 2 (X.1 i))) fX6_81 (17 + i) (iG_c (by first | assumption | omega)) rfl dX6_cross_58 ?_
    refine J_callVi cx kX6_92 (As := []) (tX2_isFull l D g A ad κ X cs lf pr  (X.1 i) (hS.sb hi) (by have := (wk_cnt hT hS hH hi).2; omega)) ⟨rfl, rfl, by decide, by decide⟩ ⟨by decide, by decide⟩ rfl (17 + κ.2.2.1 0 + (X.1 i)) (iG_h (hS.sb (by first | assumption | omega))) rfl rfl (Nat.le_of_ble_eq_true rfl) dX6_cross_61 ?_
    intro _ _ hr; cases hr
    refine J_ifz_eq cx (tgt := 77) dX6_cross_64 (by decide) (fun c_2 => ?_) (fun c_2 => ?_)
    · have c_2 := bn_f c_2
      have c_2 := of_decide_eq_true c_2
      have hwk := wk_cnt hT hS hH hi
      have hc3 := c_2
      have hw2 : decide (2 < cnt (wkB κ (κ.1 1 i)) (κ.2.2.1 0)) = false := decide_eq_false (by rw [hwk.1]; omega)
      refine J_aload_n cx dX6_cross_77 rfl 2 rfl ?_
      refine J_xcallVv cx hex kX6_62 (As := []) (tX6_requireRoom l D g A ad κ X cs lf pr   htr hn) (fun E h => by obtain ⟨h1, h2⟩ := h; subst h2; rw [h1] at hjR hiR; exact ⟨by simp [opCross, xj, h1, hjR, hjc, hiR, hic, hdy, hln, hau_j, hau_i, hsk, hw2], by simp [opCross, xj, h1, hjR, hjc, hiR, hic, hdy, hln, hau_j, hau_i, hsk, hw2]⟩) ⟨by decide, by decide⟩ ⟨rfl, rfl, by decide, by decide⟩ ⟨by decide, by decide⟩ rfl 0 rfl rfl rfl (Nat.le_of_ble_eq_true rfl) dX6_cross_78 ?_
      intro _ hr
      have hrm := hr
      have hN0 : decide (κ.2.2.1 0 = 40) = false := decide_eq_false (by omega)
      refine J_aload_n cx dX6_cross_81 rfl 2 rfl ?_
      refine J_aload cx dX6_cross_82 0 rfl ?_
      refine J_get cx (v := .ref (ad 2 (X.1 i))) fX6_81 (17 + i) (iG_c (by first | assumption | omega)) rfl dX6_cross_84 ?_
      refine J_aload cx dX6_cross_87 1 rfl ?_
      refine J_get cx (v := .ref (ad 2 (X.1 j))) fX6_81 (17 + j) (iG_c (by first | assumption | omega)) rfl dX6_cross_89 ?_
      refine J_iload_n cx dX6_cross_92 rfl 5 rfl ?_
      refine J_iload cx dX6_cross_93 6 rfl ?_
      refine J_callVi cx kX6_69 (As := [.ref (ad 2 (X.1 i)), .ref (ad 2 (X.1 j)), .int dy, .int ln]) (tX6_enter l D g A ad κ X cs lf pr (X.1 i) (X.1 j) dy ln _ hS (by show κ.2.2.1 0 < 40; omega) (hS.sb (by assumption)) (hS.sb hj) hc3 hHe hCq (NEW_au (NEW_mk hF (κ.1 0 i) (κ.1 1 i) (κ.1 0 j) (κ.1 1 j) dy))) ⟨rfl, rfl, by decide, by decide⟩ ⟨by decide, by decide⟩ rfl 0 rfl rfl rfl (Nat.le_of_ble_eq_true rfl) dX6_cross_95 ?_
      intro _ u10 hr; obtain ⟨hr, h100⟩ := hr; subst hr
      refine J_x ?_
      exact J_iret cx rfl (u := u10) ⟨by simp [opCross, xj, hN0, hjR, hjc, hiR, hic, hdy, hln, hau_j, hau_i, hsk, hw2, hrm], by simp [opCross, xj, hN0, hjR, hjc, hiR, hic, hdy, hln, hau_j, hau_i, hsk, hw2, hrm]; try rfl, h100⟩ (by simp [opCross, xj, hN0, hjR, hjc, hiR, hic, hdy, hln, hau_j, hau_i, hsk, hw2, hrm]; try rfl) (Nat.le_of_ble_eq_true rfl) (Nat.le_of_ble_eq_true rfl) dX6_cross_98
    · have c_2 := bn_t c_2
      have c_2 := of_decide_eq_false c_2
      have hwk := wk_cnt hT hS hH hi
      have hw2 : decide (2 < cnt (wkB κ (κ.1 1 i)) (κ.2.2.1 0)) = true := decide_eq_true (by rw [hwk.1]; omega)
      exact J_throw cx hex htr rfl th_89 (List.mem_of_getElem? (i := 8) rfl) ⟨by simp [opCross, xj, hjR, hjc, hiR, hic, hdy, hln, hau_j, hau_i, hsk, hw2], by simp [opCross, xj, hjR, hjc, hiR, hic, hdy, hln, hau_j, hau_i, hsk, hw2]⟩ dX6_cross_67 dX6_cross_70 (Or.inl ⟨dX6_cross_71, dX6_cross_73, dX6_cross_76⟩) ⟨by decide, by decide, by decide, by decide⟩ ⟨by decide, by decide⟩
  · have c_1 : X.1 i = X.1 j := iG_ad2 hDD (hS.sb hi) (hS.sb hj) (Option.some.inj c_1)
    have c_1d := decide_eq_true c_1
    have hsk : decide (κ.1 1 j = κ.1 1 i) = true := (key_jj hT hS hi hj).trans (decide_eq_true c_1.symm)
    exact J_throw cx hex htr rfl th_89 (List.mem_of_getElem? (i := 7) rfl) ⟨by simp [opCross, xj, hjR, hjc, hiR, hic, hdy, hln, hau_j, hau_i, hsk], by simp [opCross, xj, hjR, hjc, hiR, hic, hdy, hln, hau_j, hau_i, hsk]⟩ dX6_cross_46 dX6_cross_49 (Or.inl ⟨dX6_cross_50, dX6_cross_52, dX6_cross_55⟩) ⟨by decide, by decide, by decide, by decide⟩ ⟨by decide, by decide⟩
