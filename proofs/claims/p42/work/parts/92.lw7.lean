/-! the law's adapters: what a call answers, or which of its exceptions it throws, as a number -/
abbrev UT : Type := (Nat → Nat → Nat) × XT × (Nat → CT) × (Nat → Int64) × PT
def adI (code : Nat) (v : Int32) : Int32 := match code with
  | 0 => v
  | 1 => -900001
  | 2 => -900002
  | _ => -900003
abbrev INV (κ : CS) (X : XT) (cs : Nat → CT) : Prop := IV κ X ∧ WV κ cs ∧ κ.2.2.1 1 ≤ κ.2.2.1 0
def bL (b : Bool) : Int64 := if b then lN 1 else lN 0
theorem at_end {w : va_W} {x : Nat × va_E} : (w ++ [x])[w.length]? = some x := by rw [List.getElem?_append_right (Nat.le_refl _)]; simp
theorem set_end {w : va_W} {x y : Nat × va_E} : (w ++ [x]).set w.length y = w ++ [y] := by rw [List.set_append_right _ _ (Nat.le_refl _)]; simp
theorem thr1 {a E : String} {c : Nat} (h : thrE [a] c E) : c = 1 ∧ E = a := by
  obtain ⟨h1, h2⟩ := h
  match c, h1, h2 with
  | 1, _, h2 => exact ⟨rfl, (Option.some.inj h2).symm⟩
  | c + 2, _, h2 => exact absurd h2 (by simp)
theorem thr2 {a b E : String} {c : Nat} (h : thrE [a, b] c E) : (c = 1 ∧ E = a) ∨ (c = 2 ∧ E = b) := by
  obtain ⟨h1, h2⟩ := h
  match c, h1, h2 with
  | 1, _, h2 => exact Or.inl ⟨rfl, (Option.some.inj h2).symm⟩
  | 2, _, h2 => exact Or.inr ⟨rfl, (Option.some.inj h2).symm⟩
  | c + 3, _, h2 => exact absurd h2 (by simp)
theorem thr3 {a b d E : String} {c : Nat} (h : thrE [a, b, d] c E) : (c = 1 ∧ E = a) ∨ (c = 2 ∧ E = b) ∨ (c = 3 ∧ E = d) := by
  obtain ⟨h1, h2⟩ := h
  match c, h1, h2 with
  | 1, _, h2 => exact Or.inl ⟨rfl, (Option.some.inj h2).symm⟩
  | 2, _, h2 => exact Or.inr (Or.inl ⟨rfl, (Option.some.inj h2).symm⟩)
  | 3, _, h2 => exact Or.inr (Or.inr ⟨rfl, (Option.some.inj h2).symm⟩)
  | c + 4, _, h2 => exact absurd h2 (by simp)
theorem pass_k {κ : CS} (hk : κ.2.2.1 1 ≤ κ.2.2.1 0) (dy : Int32) : (opPass κ dy).2.2.2.2.1 1 ≤ (opPass κ dy).2.2.2.2.1 0 := by
  rcases opPass_c (κ := κ) (dy := dy) with e | ⟨j, hj, e⟩
  · rw [e]; exact hk
  · rw [e]; exact hk
theorem begin_k {κ : CS} (hn : κ.2.2.1 0 ≤ 40) (hk : κ.2.2.1 1 ≤ κ.2.2.1 0) (xc dy : Int32) : (opBegin κ xc dy).2.2.2.2.1 1 ≤ (opBegin κ xc dy).2.2.2.2.1 0 := by
  rcases opBegin_c (κ := κ) (xc := xc) (dy := dy) hn with ⟨e, _⟩ | ⟨j, hj, e, _⟩
  · rw [e]; exact hk
  · rw [e]; exact hk
theorem step_k {κ : CS} (hk : κ.2.2.1 1 ≤ κ.2.2.1 0) (rk : Int32) : (opStep κ rk).2.2.2.2.1 1 ≤ (opStep κ rk).2.2.2.2.1 0 := by
  rcases opStep_c (κ := κ) (rk := rk) with ⟨e, _⟩ | ⟨k, _, _, _, e, _⟩
  · rw [e]; exact hk
  · rw [e]; exact hk
theorem wr_lt {κ : CS} {xc dy : Int32} {a b : Int32} (h : (if decide (wrongC κ xc dy = 0) then ((0 : Nat), a) else (wrongC κ xc dy, b)).1 = 0) (hn : κ.2.2.1 0 ≤ 40) : xj xc < κ.2.2.1 0 := by
  by_cases q : wrongC κ xc dy = 0
  · obtain ⟨j, hj, rfl, _⟩ := wrong_0 q hn
    rw [show xj (nI j) = j from nI_clamp (by omega)]; exact hj
  · rw [decide_eq_false q] at h; exact absurd h q
theorem csW_ok {κ : CS} {X : XT} {cs : Nat → CT} {xc dy : Int32} (hV : IV κ X) (hw : WV κ cs) : ShC κ (csW κ X (cs 1) (cs 2) xc dy).1 ∧ ShC κ (csW κ X (cs 1) (cs 2) xc dy).2 := by
  unfold csW
  by_cases q : wrongC κ xc dy = 0
  · rw [decide_eq_true q]
    obtain ⟨j, hj, rfl, _⟩ := wrong_0 q hV.1.1
    have := hV.1.1
    rw [show xj (nI j) = j from nI_clamp (by omega)]
    exact sbK_ok hV.2.2.2.1 hV.1 hj hw.2.1 hw.2.2
  · rw [decide_eq_false q]; exact ⟨hw.2.1, hw.2.2⟩
theorem gw_ok {κ : CS} {X : XT} {t : CT} {i : Nat} {dy : Int32} (hV : IV κ X) (ht : ShC κ t) (hi : i < κ.2.2.1 0) : ShC κ (gwK2 κ X t i dy).2 := by
  unfold gwK2
  by_cases q : rfI κ i dy = 111
  · rw [decide_eq_true q]; exact (ctK_keep (okL_7 hV.2.2.2.1) hV.1 7 _ (restart_ok ht hi) (Nat.le_refl 1)).1
  · rw [decide_eq_false q]; exact ht
theorem sound_0 {κ : CS} (h : ¬ κ.2.2.1 0 = 0) : opSound κ = (0, FP.fdiv (FP.i2f (nI (cnt (sndB κ) (κ.2.2.1 0)))) (FP.i2f (nI (κ.2.2.1 0)))) := by unfold opSound; rw [decide_eq_false h]; rfl
theorem sound_1 {κ : CS} (h : κ.2.2.1 0 = 0) : (opSound κ).1 = 1 := by unfold opSound; rw [decide_eq_true h]; rfl
theorem f2d_ok : ∀ a, a < 41 → ∀ b, b < 41 → b ≠ 0 → vf_n64 (FP.f2d (FP.fdiv (FP.i2f (nI a)) (FP.i2f (nI b)))) := by
  have h : ∀ a : Fin 41, ∀ b : Fin 41, b.val ≠ 0 → (FP.f2d (FP.fdiv (FP.i2f (nI a.val)) (FP.i2f (nI b.val)))) &&& 0x7fffffffffffffff ≤ 0x7ff0000000000000 := by decide +kernel
  exact fun a ha b hb h0 => h ⟨a, ha⟩ ⟨b, hb⟩ h0
theorem sound_nan {κ : CS} (h : ¬ κ.2.2.1 0 = 0) (hn : κ.2.2.1 0 ≤ 40) : vf_n64 (FP.f2d (opSound κ).2) := by
  rw [sound_0 h]
  have := cnt_le (sndB κ) (κ.2.2.1 0)
  exact f2d_ok _ (by omega) _ (by omega) h
def ocM (κ : CS) (X : XT) (t b : CT) : Nat × UInt64 := if decide ((mcC κ X t b (κ.2.2.1 0)).2.1 = 0) then (1, 0) else (0, FP.ddiv (FP.i2d (nI (mcC κ X t b (κ.2.2.1 0)).1)) (FP.i2d (nI (mcC κ X t b (κ.2.2.1 0)).2.1)))
theorem ocM_0 {κ : CS} {X : XT} {t b : CT} (h : ¬ (mcC κ X t b (κ.2.2.1 0)).2.1 = 0) : ocM κ X t b = (0, FP.ddiv (FP.i2d (nI (mcC κ X t b (κ.2.2.1 0)).1)) (FP.i2d (nI (mcC κ X t b (κ.2.2.1 0)).2.1))) := by unfold ocM; rw [decide_eq_false h]; rfl
theorem ocM_1 {κ : CS} {X : XT} {t b : CT} (h : (mcC κ X t b (κ.2.2.1 0)).2.1 = 0) : (ocM κ X t b).1 = 1 := by unfold ocM; rw [decide_eq_true h]; rfl
theorem oc_M {κ : CS} {X : XT} (hI : InvM κ) (hS : ShX κ X) (hT : TIE κ X) (hH : HLD κ X) {t b : CT} (ht : ShC κ t) (hb : ShC κ b) (ch : Nat → Nat) : ocM κ X t b = opMean κ ch := by
  obtain ⟨a1, a2⟩ := mc_mc hI hS hT hH ht hb ch (κ.2.2.1 0) (Nat.le_refl _)
  unfold ocM opMean; rw [a1, a2]
theorem upc_1 {cs : Nat → CT} {q : Nat} : cs = upc cs q (cs q) := upc_self.symm
theorem upc_12 {cs : Nat → CT} : cs = upc (upc cs 1 (cs 1)) 2 (cs 2) := by rw [upc_self, upc_self]
theorem WV_1 {κ : CS} {cs : Nat → CT} {t : CT} (h : WV κ cs) (ht : ShC κ t) : WV κ (upc cs 1 t) := ⟨by rw [upc_ne (by decide)]; exact h.1, by rw [upc_eq]; exact ht, by rw [upc_ne (by decide)]; exact h.2.2⟩
theorem WV_12 {κ : CS} {cs : Nat → CT} {t b : CT} (h : WV κ cs) (ht : ShC κ t) (hb : ShC κ b) : WV κ (upc (upc cs 1 t) 2 b) := ⟨by rw [upc_ne (by decide), upc_ne (by decide)]; exact h.1, by rw [upc_ne (by decide), upc_eq]; exact ht, by rw [upc_eq]; exact hb⟩
abbrev AQ (ad : Nat → Nat → Nat) (κ1 : CS) (code : Nat) (val : Int32) (r : Int32) (u : UT) : Prop := r = adI code val ∧ u.1 0 = ad 0 ∧ INV κ1 u.2.1 u.2.2.1
abbrev AQF (ad : Nat → Nat → Nat) (κ1 : CS) (code : Nat) (val cst : UInt32) (r : UInt32) (u : UT) : Prop := r = (if code = 0 then val else cst) ∧ u.1 0 = ad 0 ∧ INV κ1 u.2.1 u.2.2.1
abbrev AQD (ad : Nat → Nat → Nat) (κ1 : CS) (code : Nat) (val cst : UInt64) (r : UInt64) (u : UT) : Prop := r = (if code = 0 then val else cst) ∧ u.1 0 = ad 0 ∧ INV κ1 u.2.1 u.2.2.1
abbrev wT (g : Nat → ClassId) (κ : CS) (u : UT) : va_W := iW u.1 g κ u.2.1 u.2.2.1 u.2.2.2.1 u.2.2.2.2
set_option maxHeartbeats 4000000 in
set_option maxRecDepth 100000 in
theorem tL_makeRoot (l : Launch) (D : va_G) (g : Nat → ClassId) (A : Nat → Prop) (ad : Nat → Nat → Nat) (κ : CS) (X : XT) (cs : Nat → CT) (lf : Nat → Int64) (pr : PT) (nm : Int32) (dy : Int32) (ln : Int32) (htr : l.stackTraces = false) (hV : IV κ X) (hw : WV κ cs) (hk : κ.2.2.1 1 ≤ κ.2.2.1 0) (hd : κ.2.2.1 2 + 999 < 2147483648) : Met l yL_makeRoot (wsH yL_makeRoot cL_makeRoot 5 (some .int) [(0, 7, 8, 28), (0, 7, 13, 31)]) ({ frames := 8, cells := 7, slots := 42, locals := 134 } : Room) (va_Pc [.ref (ad 0 0), .int nm, .int dy, .int ln] (PRE D g A (iW ad g κ X cs lf pr))) (va_Qi (fun (r : Int32) (u : UT) => AQ ad ((opMakeRoot κ nm dy ln).2.2) ((opMakeRoot κ nm dy ln).1) ((opMakeRoot κ nm dy ln).2.1) r u) (fun u => PO D A (wT g ((opMakeRoot κ nm dy ln).2.2) u)) A) 7 42 A := by
  refine metH (by decide) (Nat.le_of_ble_eq_true rfl) ?_
  intro p e s m args below meth c _ htb cx
  refine J_aload_n cx dL_makeRoot_0 rfl 0 rfl ?_
  refine J_iload_n cx dL_makeRoot_1 rfl 1 rfl ?_
  refine J_iload_n cx dL_makeRoot_2 rfl 2 rfl ?_
  refine J_iload_n cx dL_makeRoot_3 rfl 3 rfl ?_
  refine J_hcallVi cx htb kL_24 (As := [.int nm, .int dy, .int ln]) (wsx := iW ad g κ X cs lf pr) (tX6_makeRoot l D g A ad κ X cs lf pr nm dy ln htr hV.1 hk hV.2.2.2.2.1 hV.hHe hw.hCq ) ⟨rfl, rfl, by first | decide | (simp only [rmB]; omega), by first | decide | (simp only [rmB]; omega)⟩ ⟨by decide, by decide⟩ rfl 0 rfl rfl rfl (Nat.le_of_ble_eq_true rfl) dL_makeRoot_4 (fun E q9 hE => ?_) (fun r9 u9 hr => ?_)
  · rcases thr2 hE with ⟨hc1, hEq⟩ | ⟨hc1, hEq⟩
    · subst hEq
      refine ⟨8, ⟨[], ⟨0, 7, 8, 28⟩, [⟨0, 7, 13, 31⟩], _, rfl, (fun _ h => nomatch h), by decide, by decide, lL_28, cstIAE, rfl⟩, ?_⟩
      refine J_astore cx (L' := [(4, .ref q9), (0, .ref (ad 0 0)), (1, .int nm), (2, .int dy), (3, .int ln)]) dL_makeRoot_8 (by decide) rfl ?_
      refine J_ldc cx (v := (-900001)) dL_makeRoot_10 cL_30 ?_
      refine J_x ?_
      exact J_iret cx rfl (u := ((ad, X, cs, lf, pr) : UT)) ⟨(by rw [hc1]; rfl), rfl, by rw [no_root (by rw [hc1]; decide)]; exact ⟨hV, hw, hk⟩⟩ (by rw [no_root (by rw [hc1]; decide)]) (Nat.le_of_ble_eq_true rfl) (Nat.le_of_ble_eq_true rfl) dL_makeRoot_12
    · subst hEq
      refine ⟨13, ⟨[⟨0, 7, 8, 28⟩], ⟨0, 7, 13, 31⟩, [], _, rfl, (List.forall_mem_cons.mpr ⟨⟨by decide, "java/lang/IllegalArgumentException", lL_28, by decide, by decide, by decide⟩, (fun _ h => nomatch h)⟩), by decide, by decide, lL_31, cstISE, rfl⟩, ?_⟩
      refine J_astore cx (L' := [(4, .ref q9), (0, .ref (ad 0 0)), (1, .int nm), (2, .int dy), (3, .int ln)]) dL_makeRoot_13 (by decide) rfl ?_
      refine J_ldc cx (v := (-900002)) dL_makeRoot_15 cL_33 ?_
      refine J_x ?_
      exact J_iret cx rfl (u := ((ad, X, cs, lf, pr) : UT)) ⟨(by rw [hc1]; rfl), rfl, by rw [no_root (by rw [hc1]; decide)]; exact ⟨hV, hw, hk⟩⟩ (by rw [no_root (by rw [hc1]; decide)]) (Nat.le_of_ble_eq_true rfl) (Nat.le_of_ble_eq_true rfl) dL_makeRoot_17
  · obtain ⟨hc0, hr, u9_0⟩ := hr; subst hr
    refine J_x ?_
    exact J_iret cx rfl (u := ((u9, enX (hlX X (κ.2.2.1 1) nm) (κ.2.2.1 0) (κ.2.2.1 1) (κ.2.2.1 1), fun q => nrC (cs q), lf, pr) : UT)) ⟨(by rw [hc0]; rfl), u9_0, (by obtain ⟨m1, m2, m3, _⟩ := mk_root hV hw hk (by omega) hc0; exact ⟨m1, m2, m3⟩)⟩ rfl (Nat.le_of_ble_eq_true rfl) (Nat.le_of_ble_eq_true rfl) dL_makeRoot_7
set_option maxHeartbeats 4000000 in
set_option maxRecDepth 100000 in
theorem tL_issue (l : Launch) (D : va_G) (g : Nat → ClassId) (A : Nat → Prop) (ad : Nat → Nat → Nat) (κ : CS) (X : XT) (cs : Nat → CT) (lf : Nat → Int64) (pr : PT) (xc : Int32) (nm : Int32) (dy : Int32) (htr : l.stackTraces = false) (hV : IV κ X) (hw : WV κ cs) (hk : κ.2.2.1 1 ≤ κ.2.2.1 0) (hd : κ.2.2.1 2 + 999 < 2147483648) : Met l yL_issue (wsH yL_issue cL_issue 5 (some .int) [(0, 7, 8, 37), (0, 7, 13, 28), (0, 7, 18, 31)]) ({ frames := 8, cells := 8, slots := 48, locals := 136 } : Room) (va_Pc [.ref (ad 0 0), .int xc, .int nm, .int dy] (PRE D g A (iW ad g κ X cs lf pr))) (va_Qi (fun (r : Int32) (u : UT) => AQ ad ((opIssue κ xc nm dy).2.2) ((opIssue κ xc nm dy).1) ((opIssue κ xc nm dy).2.1) r u) (fun u => PO D A (wT g ((opIssue κ xc nm dy).2.2) u)) A) 8 48 A := by
  refine metH (by decide) (Nat.le_of_ble_eq_true rfl) ?_
  intro p e s m args below meth c _ htb cx
  refine J_aload_n cx dL_issue_0 rfl 0 rfl ?_
  refine J_iload_n cx dL_issue_1 rfl 1 rfl ?_
  refine J_iload_n cx dL_issue_2 rfl 2 rfl ?_
  refine J_iload_n cx dL_issue_3 rfl 3 rfl ?_
  refine J_hcallVi cx htb kL_34 (As := [.int xc, .int nm, .int dy]) (wsx := iW ad g κ X cs lf pr) (tX6_issue l D g A ad κ X cs lf pr xc nm dy htr hV.1 hk hV.2.2.2.2.1 hV.hHe hw.hCq hV.2.2.2.1) ⟨rfl, rfl, by first | decide | (simp only [rmB]; omega), by first | decide | (simp only [rmB]; omega)⟩ ⟨by decide, by decide⟩ rfl 0 rfl rfl rfl (Nat.le_of_ble_eq_true rfl) dL_issue_4 (fun E q9 hE => ?_) (fun r9 u9 hr => ?_)
  · rcases thr3 hE with ⟨hc1, hEq⟩ | ⟨hc1, hEq⟩ | ⟨hc1, hEq⟩
    · subst hEq
      refine ⟨8, ⟨[], ⟨0, 7, 8, 37⟩, [⟨0, 7, 13, 28⟩, ⟨0, 7, 18, 31⟩], _, rfl, (fun _ h => nomatch h), by decide, by decide, lL_37, cstNSE, rfl⟩, ?_⟩
      refine J_astore cx (L' := [(4, .ref q9), (0, .ref (ad 0 0)), (1, .int xc), (2, .int nm), (3, .int dy)]) dL_issue_8 (by decide) rfl ?_
      refine J_ldc cx (v := (-900001)) dL_issue_10 cL_30 ?_
      refine J_x ?_
      exact J_iret cx rfl (u := ((ad, X, cs, lf, pr) : UT)) ⟨(by rw [hc1]; rfl), rfl, by rw [no_issue (by rw [hc1]; decide)]; exact ⟨hV, hw, hk⟩⟩ (by rw [no_issue (by rw [hc1]; decide)]) (Nat.le_of_ble_eq_true rfl) (Nat.le_of_ble_eq_true rfl) dL_issue_12
    · subst hEq
      refine ⟨13, ⟨[⟨0, 7, 8, 37⟩], ⟨0, 7, 13, 28⟩, [⟨0, 7, 18, 31⟩], _, rfl, (List.forall_mem_cons.mpr ⟨⟨by decide, "java/util/NoSuchElementException", lL_37, by decide, by decide, by decide⟩, (fun _ h => nomatch h)⟩), by decide, by decide, lL_28, cstIAE, rfl⟩, ?_⟩
      refine J_astore cx (L' := [(4, .ref q9), (0, .ref (ad 0 0)), (1, .int xc), (2, .int nm), (3, .int dy)]) dL_issue_13 (by decide) rfl ?_
      refine J_ldc cx (v := (-900002)) dL_issue_15 cL_33 ?_
      refine J_x ?_
      exact J_iret cx rfl (u := ((ad, X, cs, lf, pr) : UT)) ⟨(by rw [hc1]; rfl), rfl, by rw [no_issue (by rw [hc1]; decide)]; exact ⟨hV, hw, hk⟩⟩ (by rw [no_issue (by rw [hc1]; decide)]) (Nat.le_of_ble_eq_true rfl) (Nat.le_of_ble_eq_true rfl) dL_issue_17
    · subst hEq
      refine ⟨18, ⟨[⟨0, 7, 8, 37⟩, ⟨0, 7, 13, 28⟩], ⟨0, 7, 18, 31⟩, [], _, rfl, (List.forall_mem_cons.mpr ⟨⟨by decide, "java/util/NoSuchElementException", lL_37, by decide, by decide, by decide⟩, (List.forall_mem_cons.mpr ⟨⟨by decide, "java/lang/IllegalArgumentException", lL_28, by decide, by decide, by decide⟩, (fun _ h => nomatch h)⟩)⟩), by decide, by decide, lL_31, cstISE, rfl⟩, ?_⟩
      refine J_astore cx (L' := [(4, .ref q9), (0, .ref (ad 0 0)), (1, .int xc), (2, .int nm), (3, .int dy)]) dL_issue_18 (by decide) rfl ?_
      refine J_ldc cx (v := (-900003)) dL_issue_20 cL_39 ?_
      refine J_x ?_
      exact J_iret cx rfl (u := ((ad, X, cs, lf, pr) : UT)) ⟨(by rw [hc1]; rfl), rfl, by rw [no_issue (by rw [hc1]; decide)]; exact ⟨hV, hw, hk⟩⟩ (by rw [no_issue (by rw [hc1]; decide)]) (Nat.le_of_ble_eq_true rfl) (Nat.le_of_ble_eq_true rfl) dL_issue_22
  · obtain ⟨hc0, hr, u9_0⟩ := hr; subst hr
    refine J_x ?_
    exact J_iret cx rfl (u := ((u9, enX (hlX X (κ.2.2.1 1) nm) (κ.2.2.1 0) (κ.2.2.1 1) (X.1 (xj xc)), fun q => nrC (cs q), lf, pr) : UT)) ⟨(by rw [hc0]; rfl), u9_0, (by obtain ⟨m1, m2, m3, _⟩ := mk_issue hV hw hk (by omega) hc0; exact ⟨m1, m2, m3⟩)⟩ rfl (Nat.le_of_ble_eq_true rfl) (Nat.le_of_ble_eq_true rfl) dL_issue_7
set_option maxHeartbeats 4000000 in
set_option maxRecDepth 100000 in
theorem tL_issueAuthority (l : Launch) (D : va_G) (g : Nat → ClassId) (A : Nat → Prop) (ad : Nat → Nat → Nat) (κ : CS) (X : XT) (cs : Nat → CT) (lf : Nat → Int64) (pr : PT) (xc : Int32) (nm : Int32) (dy : Int32) (ln : Int32) (htr : l.stackTraces = false) (hV : IV κ X) (hw : WV κ cs) (hk : κ.2.2.1 1 ≤ κ.2.2.1 0) (hd : κ.2.2.1 2 + 999 < 2147483648) : Met l yL_issueAuthority (wsH yL_issueAuthority cL_issueAuthority 6 (some .int) [(0, 9, 10, 37), (0, 9, 15, 28), (0, 9, 20, 31)]) ({ frames := 8, cells := 9, slots := 54, locals := 137 } : Room) (va_Pc [.ref (ad 0 0), .int xc, .int nm, .int dy, .int ln] (PRE D g A (iW ad g κ X cs lf pr))) (va_Qi (fun (r : Int32) (u : UT) => AQ ad ((opIssueA κ xc nm dy ln).2.2) ((opIssueA κ xc nm dy ln).1) ((opIssueA κ xc nm dy ln).2.1) r u) (fun u => PO D A (wT g ((opIssueA κ xc nm dy ln).2.2) u)) A) 9 54 A := by
  refine metH (by decide) (Nat.le_of_ble_eq_true rfl) ?_
  intro p e s m args below meth c _ htb cx
  refine J_aload_n cx dL_issueAuthority_0 rfl 0 rfl ?_
  refine J_iload_n cx dL_issueAuthority_1 rfl 1 rfl ?_
  refine J_iload_n cx dL_issueAuthority_2 rfl 2 rfl ?_
  refine J_iload_n cx dL_issueAuthority_3 rfl 3 rfl ?_
  refine J_iload cx dL_issueAuthority_4 4 rfl ?_
  refine J_hcallVi cx htb kL_40 (As := [.int xc, .int nm, .int dy, .int ln]) (wsx := iW ad g κ X cs lf pr) (tX6_issueAuthority l D g A ad κ X cs lf pr xc nm dy ln htr hV.1 hk hV.2.2.2.2.1 hV.hHe hw.hCq hV.2.2.2.1) ⟨rfl, rfl, by first | decide | (simp only [rmB]; omega), by first | decide | (simp only [rmB]; omega)⟩ ⟨by decide, by decide⟩ rfl 0 rfl rfl rfl (Nat.le_of_ble_eq_true rfl) dL_issueAuthority_6 (fun E q9 hE => ?_) (fun r9 u9 hr => ?_)
  · rcases thr3 hE with ⟨hc1, hEq⟩ | ⟨hc1, hEq⟩ | ⟨hc1, hEq⟩
    · subst hEq
      refine ⟨10, ⟨[], ⟨0, 9, 10, 37⟩, [⟨0, 9, 15, 28⟩, ⟨0, 9, 20, 31⟩], _, rfl, (fun _ h => nomatch h), by decide, by decide, lL_37, cstNSE, rfl⟩, ?_⟩
      refine J_astore cx (L' := [(5, .ref q9), (0, .ref (ad 0 0)), (1, .int xc), (2, .int nm), (3, .int dy), (4, .int ln)]) dL_issueAuthority_10 (by decide) rfl ?_
      refine J_ldc cx (v := (-900001)) dL_issueAuthority_12 cL_30 ?_
      refine J_x ?_
      exact J_iret cx rfl (u := ((ad, X, cs, lf, pr) : UT)) ⟨(by rw [hc1]; rfl), rfl, by rw [no_issueA (by rw [hc1]; decide)]; exact ⟨hV, hw, hk⟩⟩ (by rw [no_issueA (by rw [hc1]; decide)]) (Nat.le_of_ble_eq_true rfl) (Nat.le_of_ble_eq_true rfl) dL_issueAuthority_14
    · subst hEq
      refine ⟨15, ⟨[⟨0, 9, 10, 37⟩], ⟨0, 9, 15, 28⟩, [⟨0, 9, 20, 31⟩], _, rfl, (List.forall_mem_cons.mpr ⟨⟨by decide, "java/util/NoSuchElementException", lL_37, by decide, by decide, by decide⟩, (fun _ h => nomatch h)⟩), by decide, by decide, lL_28, cstIAE, rfl⟩, ?_⟩
      refine J_astore cx (L' := [(5, .ref q9), (0, .ref (ad 0 0)), (1, .int xc), (2, .int nm), (3, .int dy), (4, .int ln)]) dL_issueAuthority_15 (by decide) rfl ?_
      refine J_ldc cx (v := (-900002)) dL_issueAuthority_17 cL_33 ?_
      refine J_x ?_
      exact J_iret cx rfl (u := ((ad, X, cs, lf, pr) : UT)) ⟨(by rw [hc1]; rfl), rfl, by rw [no_issueA (by rw [hc1]; decide)]; exact ⟨hV, hw, hk⟩⟩ (by rw [no_issueA (by rw [hc1]; decide)]) (Nat.le_of_ble_eq_true rfl) (Nat.le_of_ble_eq_true rfl) dL_issueAuthority_19
    · subst hEq
      refine ⟨20, ⟨[⟨0, 9, 10, 37⟩, ⟨0, 9, 15, 28⟩], ⟨0, 9, 20, 31⟩, [], _, rfl, (List.forall_mem_cons.mpr ⟨⟨by decide, "java/util/NoSuchElementException", lL_37, by decide, by decide, by decide⟩, (List.forall_mem_cons.mpr ⟨⟨by decide, "java/lang/IllegalArgumentException", lL_28, by decide, by decide, by decide⟩, (fun _ h => nomatch h)⟩)⟩), by decide, by decide, lL_31, cstISE, rfl⟩, ?_⟩
      refine J_astore cx (L' := [(5, .ref q9), (0, .ref (ad 0 0)), (1, .int xc), (2, .int nm), (3, .int dy), (4, .int ln)]) dL_issueAuthority_20 (by decide) rfl ?_
      refine J_ldc cx (v := (-900003)) dL_issueAuthority_22 cL_39 ?_
      refine J_x ?_
      exact J_iret cx rfl (u := ((ad, X, cs, lf, pr) : UT)) ⟨(by rw [hc1]; rfl), rfl, by rw [no_issueA (by rw [hc1]; decide)]; exact ⟨hV, hw, hk⟩⟩ (by rw [no_issueA (by rw [hc1]; decide)]) (Nat.le_of_ble_eq_true rfl) (Nat.le_of_ble_eq_true rfl) dL_issueAuthority_24
  · obtain ⟨hc0, hr, u9_0⟩ := hr; subst hr
    refine J_x ?_
    exact J_iret cx rfl (u := ((u9, enX (hlX X (κ.2.2.1 1) nm) (κ.2.2.1 0) (κ.2.2.1 1) (X.1 (xj xc)), fun q => nrC (cs q), lf, pr) : UT)) ⟨(by rw [hc0]; rfl), u9_0, (by obtain ⟨m1, m2, m3, _⟩ := mk_issueA hV hw hk (by omega) hc0; exact ⟨m1, m2, m3⟩)⟩ rfl (Nat.le_of_ble_eq_true rfl) (Nat.le_of_ble_eq_true rfl) dL_issueAuthority_9
set_option maxHeartbeats 4000000 in
set_option maxRecDepth 100000 in
theorem tL_cross (l : Launch) (D : va_G) (g : Nat → ClassId) (A : Nat → Prop) (ad : Nat → Nat → Nat) (κ : CS) (X : XT) (cs : Nat → CT) (lf : Nat → Int64) (pr : PT) (xc : Int32) (xs : Int32) (dy : Int32) (ln : Int32) (htr : l.stackTraces = false) (hV : IV κ X) (hw : WV κ cs) (hk : κ.2.2.1 1 ≤ κ.2.2.1 0) (hd : κ.2.2.1 2 + 999 < 2147483648) : Met l yL_cross (wsH yL_cross cL_cross 6 (some .int) [(0, 9, 10, 37), (0, 9, 15, 28), (0, 9, 20, 31)]) ({ frames := 8, cells := 9, slots := 59, locals := 138 } : Room) (va_Pc [.ref (ad 0 0), .int xc, .int xs, .int dy, .int ln] (PRE D g A (iW ad g κ X cs lf pr))) (va_Qi (fun (r : Int32) (u : UT) => AQ ad ((opCross κ xc xs dy ln).2.2) ((opCross κ xc xs dy ln).1) ((opCross κ xc xs dy ln).2.1) r u) (fun u => PO D A (wT g ((opCross κ xc xs dy ln).2.2) u)) A) 9 59 A := by
  refine metH (by decide) (Nat.le_of_ble_eq_true rfl) ?_
  intro p e s m args below meth c _ htb cx
  refine J_aload_n cx dL_cross_0 rfl 0 rfl ?_
  refine J_iload_n cx dL_cross_1 rfl 1 rfl ?_
  refine J_iload_n cx dL_cross_2 rfl 2 rfl ?_
  refine J_iload_n cx dL_cross_3 rfl 3 rfl ?_
  refine J_iload cx dL_cross_4 4 rfl ?_
  refine J_hcallVi cx htb kL_44 (As := [.int xc, .int xs, .int dy, .int ln]) (wsx := iW ad g κ X cs lf pr) (tX6_cross l D g A ad κ X cs lf pr xc xs dy ln htr hV.1 hk hV.2.2.2.2.1 hV.hHe hw.hCq hV.2.2.2.1 hV.2.1 hV.2.2.1) ⟨rfl, rfl, by first | decide | (simp only [rmB]; omega), by first | decide | (simp only [rmB]; omega)⟩ ⟨by decide, by decide⟩ rfl 0 rfl rfl rfl (Nat.le_of_ble_eq_true rfl) dL_cross_6 (fun E q9 hE => ?_) (fun r9 u9 hr => ?_)
  · rcases thr3 hE with ⟨hc1, hEq⟩ | ⟨hc1, hEq⟩ | ⟨hc1, hEq⟩
    · subst hEq
      refine ⟨10, ⟨[], ⟨0, 9, 10, 37⟩, [⟨0, 9, 15, 28⟩, ⟨0, 9, 20, 31⟩], _, rfl, (fun _ h => nomatch h), by decide, by decide, lL_37, cstNSE, rfl⟩, ?_⟩
      refine J_astore cx (L' := [(5, .ref q9), (0, .ref (ad 0 0)), (1, .int xc), (2, .int xs), (3, .int dy), (4, .int ln)]) dL_cross_10 (by decide) rfl ?_
      refine J_ldc cx (v := (-900001)) dL_cross_12 cL_30 ?_
      refine J_x ?_
      exact J_iret cx rfl (u := ((ad, X, cs, lf, pr) : UT)) ⟨(by rw [hc1]; rfl), rfl, by rw [no_cross (by rw [hc1]; decide)]; exact ⟨hV, hw, hk⟩⟩ (by rw [no_cross (by rw [hc1]; decide)]) (Nat.le_of_ble_eq_true rfl) (Nat.le_of_ble_eq_true rfl) dL_cross_14
    · subst hEq
      refine ⟨15, ⟨[⟨0, 9, 10, 37⟩], ⟨0, 9, 15, 28⟩, [⟨0, 9, 20, 31⟩], _, rfl, (List.forall_mem_cons.mpr ⟨⟨by decide, "java/util/NoSuchElementException", lL_37, by decide, by decide, by decide⟩, (fun _ h => nomatch h)⟩), by decide, by decide, lL_28, cstIAE, rfl⟩, ?_⟩
      refine J_astore cx (L' := [(5, .ref q9), (0, .ref (ad 0 0)), (1, .int xc), (2, .int xs), (3, .int dy), (4, .int ln)]) dL_cross_15 (by decide) rfl ?_
      refine J_ldc cx (v := (-900002)) dL_cross_17 cL_33 ?_
      refine J_x ?_
      exact J_iret cx rfl (u := ((ad, X, cs, lf, pr) : UT)) ⟨(by rw [hc1]; rfl), rfl, by rw [no_cross (by rw [hc1]; decide)]; exact ⟨hV, hw, hk⟩⟩ (by rw [no_cross (by rw [hc1]; decide)]) (Nat.le_of_ble_eq_true rfl) (Nat.le_of_ble_eq_true rfl) dL_cross_19
    · subst hEq
      refine ⟨20, ⟨[⟨0, 9, 10, 37⟩, ⟨0, 9, 15, 28⟩], ⟨0, 9, 20, 31⟩, [], _, rfl, (List.forall_mem_cons.mpr ⟨⟨by decide, "java/util/NoSuchElementException", lL_37, by decide, by decide, by decide⟩, (List.forall_mem_cons.mpr ⟨⟨by decide, "java/lang/IllegalArgumentException", lL_28, by decide, by decide, by decide⟩, (fun _ h => nomatch h)⟩)⟩), by decide, by decide, lL_31, cstISE, rfl⟩, ?_⟩
      refine J_astore cx (L' := [(5, .ref q9), (0, .ref (ad 0 0)), (1, .int xc), (2, .int xs), (3, .int dy), (4, .int ln)]) dL_cross_20 (by decide) rfl ?_
      refine J_ldc cx (v := (-900003)) dL_cross_22 cL_39 ?_
      refine J_x ?_
      exact J_iret cx rfl (u := ((ad, X, cs, lf, pr) : UT)) ⟨(by rw [hc1]; rfl), rfl, by rw [no_cross (by rw [hc1]; decide)]; exact ⟨hV, hw, hk⟩⟩ (by rw [no_cross (by rw [hc1]; decide)]) (Nat.le_of_ble_eq_true rfl) (Nat.le_of_ble_eq_true rfl) dL_cross_24
  · obtain ⟨hc0, hr, u9_0⟩ := hr; subst hr
    refine J_x ?_
    exact J_iret cx rfl (u := ((u9, enX X (κ.2.2.1 0) (X.1 (xj xs)) (X.1 (xj xc)), fun q => nrC (cs q), lf, pr) : UT)) ⟨(by rw [hc0]; rfl), u9_0, (by obtain ⟨m1, m2, m3, _⟩ := mk_cross hV hw hk (by omega) hc0; exact ⟨m1, m2, m3⟩)⟩ rfl (Nat.le_of_ble_eq_true rfl) (Nat.le_of_ble_eq_true rfl) dL_cross_9
set_option maxHeartbeats 4000000 in
set_option maxRecDepth 100000 in
theorem tL_setNames (l : Launch) (D : va_G) (g : Nat → ClassId) (A : Nat → Prop) (ad : Nat → Nat → Nat) (κ : CS) (X : XT) (cs : Nat → CT) (lf : Nat → Int64) (pr : PT) (xc : Int32) (xp : Int32) (xe : Int32) (htr : l.stackTraces = false) (hV : IV κ X) (hw : WV κ cs) (hk : κ.2.2.1 1 ≤ κ.2.2.1 0) (hd : κ.2.2.1 2 + 999 < 2147483648) : Met l yL_setNames (wsH yL_setNames cL_setNames 5 (some .int) [(0, 7, 8, 37), (0, 7, 13, 28), (0, 7, 18, 31)]) ({ frames := 9, cells := 5, slots := 30, locals := 154 } : Room) (va_Pc [.ref (ad 0 0), .int xc, .int xp, .int xe] (PRE D g A (iW ad g κ X cs lf pr))) (va_Qi (fun (r : Int32) (u : UT) => AQ ad ((opSetNames κ xc xp xe).2.2) ((opSetNames κ xc xp xe).1) ((opSetNames κ xc xp xe).2.1) r u) (fun u => PO D A (wT g ((opSetNames κ xc xp xe).2.2) u)) A) 5 30 A := by
  refine metH (by decide) (Nat.le_of_ble_eq_true rfl) ?_
  intro p e s m args below meth c _ htb cx
  refine J_aload_n cx dL_setNames_0 rfl 0 rfl ?_
  refine J_iload_n cx dL_setNames_1 rfl 1 rfl ?_
  refine J_iload_n cx dL_setNames_2 rfl 2 rfl ?_
  refine J_iload_n cx dL_setNames_3 rfl 3 rfl ?_
  refine J_hcallVi cx htb kL_47 (As := [.int xc, .int xp, .int xe]) (wsx := iW ad g κ X cs lf pr) (tX6_setNames l D g A ad κ X cs lf pr xc xp xe htr hV.1 hV.2.1 hV.2.2.2.1) ⟨rfl, rfl, by first | decide | (simp only [rmB]; omega), by first | decide | (simp only [rmB]; omega)⟩ ⟨by decide, by decide⟩ rfl 0 rfl rfl rfl (Nat.le_of_ble_eq_true rfl) dL_setNames_4 (fun E q9 hE => ?_) (fun r9 u9 hr => ?_)
  · rcases thr3 hE with ⟨hc1, hEq⟩ | ⟨hc1, hEq⟩ | ⟨hc1, hEq⟩
    · subst hEq
      refine ⟨8, ⟨[], ⟨0, 7, 8, 37⟩, [⟨0, 7, 13, 28⟩, ⟨0, 7, 18, 31⟩], _, rfl, (fun _ h => nomatch h), by decide, by decide, lL_37, cstNSE, rfl⟩, ?_⟩
      refine J_astore cx (L' := [(4, .ref q9), (0, .ref (ad 0 0)), (1, .int xc), (2, .int xp), (3, .int xe)]) dL_setNames_8 (by decide) rfl ?_
      refine J_ldc cx (v := (-900001)) dL_setNames_10 cL_30 ?_
      refine J_x ?_
      exact J_iret cx rfl (u := ((ad, X, cs, lf, pr) : UT)) ⟨(by rw [hc1]; rfl), rfl, by rw [no_setNames (by rw [hc1]; decide)]; exact ⟨hV, hw, hk⟩⟩ (by rw [no_setNames (by rw [hc1]; decide)]) (Nat.le_of_ble_eq_true rfl) (Nat.le_of_ble_eq_true rfl) dL_setNames_12
    · subst hEq
      refine ⟨13, ⟨[⟨0, 7, 8, 37⟩], ⟨0, 7, 13, 28⟩, [⟨0, 7, 18, 31⟩], _, rfl, (List.forall_mem_cons.mpr ⟨⟨by decide, "java/util/NoSuchElementException", lL_37, by decide, by decide, by decide⟩, (fun _ h => nomatch h)⟩), by decide, by decide, lL_28, cstIAE, rfl⟩, ?_⟩
      refine J_astore cx (L' := [(4, .ref q9), (0, .ref (ad 0 0)), (1, .int xc), (2, .int xp), (3, .int xe)]) dL_setNames_13 (by decide) rfl ?_
      refine J_ldc cx (v := (-900002)) dL_setNames_15 cL_33 ?_
      refine J_x ?_
      exact J_iret cx rfl (u := ((ad, X, cs, lf, pr) : UT)) ⟨(by rw [hc1]; rfl), rfl, by rw [no_setNames (by rw [hc1]; decide)]; exact ⟨hV, hw, hk⟩⟩ (by rw [no_setNames (by rw [hc1]; decide)]) (Nat.le_of_ble_eq_true rfl) (Nat.le_of_ble_eq_true rfl) dL_setNames_17
    · subst hEq
      refine ⟨18, ⟨[⟨0, 7, 8, 37⟩, ⟨0, 7, 13, 28⟩], ⟨0, 7, 18, 31⟩, [], _, rfl, (List.forall_mem_cons.mpr ⟨⟨by decide, "java/util/NoSuchElementException", lL_37, by decide, by decide, by decide⟩, (List.forall_mem_cons.mpr ⟨⟨by decide, "java/lang/IllegalArgumentException", lL_28, by decide, by decide, by decide⟩, (fun _ h => nomatch h)⟩)⟩), by decide, by decide, lL_31, cstISE, rfl⟩, ?_⟩
      refine J_astore cx (L' := [(4, .ref q9), (0, .ref (ad 0 0)), (1, .int xc), (2, .int xp), (3, .int xe)]) dL_setNames_18 (by decide) rfl ?_
      refine J_ldc cx (v := (-900003)) dL_setNames_20 cL_39 ?_
      refine J_x ?_
      exact J_iret cx rfl (u := ((ad, X, cs, lf, pr) : UT)) ⟨(by rw [hc1]; rfl), rfl, by rw [no_setNames (by rw [hc1]; decide)]; exact ⟨hV, hw, hk⟩⟩ (by rw [no_setNames (by rw [hc1]; decide)]) (Nat.le_of_ble_eq_true rfl) (Nat.le_of_ble_eq_true rfl) dL_setNames_22
  · obtain ⟨hc0, hr⟩ := hr; subst hr
    refine J_x ?_
    exact J_iret cx rfl (u := ((ad, X, cs, lf, pr) : UT)) ⟨(by rw [hc0]; rfl), rfl, ⟨IV_setNames hV xc xp xe, WV_cong hw (op_same.1 xc xp xe), by rw [op_same.1 xc xp xe]; exact hk⟩⟩ rfl (Nat.le_of_ble_eq_true rfl) (Nat.le_of_ble_eq_true rfl) dL_setNames_7
set_option maxHeartbeats 4000000 in
set_option maxRecDepth 100000 in
theorem tL_trust (l : Launch) (D : va_G) (g : Nat → ClassId) (A : Nat → Prop) (ad : Nat → Nat → Nat) (κ : CS) (X : XT) (cs : Nat → CT) (lf : Nat → Int64) (pr : PT) (xc : Int32) (b : Bool) (htr : l.stackTraces = false) (hV : IV κ X) (hw : WV κ cs) (hk : κ.2.2.1 1 ≤ κ.2.2.1 0) (hd : κ.2.2.1 2 + 999 < 2147483648) : Met l yL_trust (wsH yL_trust cL_trust 4 (some .int) [(0, 6, 7, 37), (0, 6, 11, 31)]) ({ frames := 8, cells := 2, slots := 12, locals := 135 } : Room) (va_Pc [.ref (ad 0 0), .int xc, .int (zb b)] (PRE D g A (iW ad g κ X cs lf pr))) (va_Qi (fun (r : Int32) (u : UT) => AQ ad ((opTrust κ xc b).2.2) ((opTrust κ xc b).1) ((opTrust κ xc b).2.1) r u) (fun u => PO D A (wT g ((opTrust κ xc b).2.2) u)) A) 2 12 A := by
  refine metH (by decide) (Nat.le_of_ble_eq_true rfl) ?_
  intro p e s m args below meth c _ htb cx
  refine J_aload_n cx dL_trust_0 rfl 0 rfl ?_
  refine J_iload_n cx dL_trust_1 rfl 1 rfl ?_
  refine J_iload_n cx dL_trust_2 rfl 2 rfl ?_
  refine J_hcallVi cx htb kL_50 (As := [.int xc, .int (zb b)]) (wsx := iW ad g κ X cs lf pr) (tX6_trust l D g A ad κ X cs lf pr xc b htr hV.1 hV.2.1) ⟨rfl, rfl, by first | decide | (simp only [rmB]; omega), by first | decide | (simp only [rmB]; omega)⟩ ⟨by decide, by decide⟩ rfl 0 rfl rfl rfl (Nat.le_of_ble_eq_true rfl) dL_trust_3 (fun E q9 hE => ?_) (fun r9 u9 hr => ?_)
  · rcases thr2 hE with ⟨hc1, hEq⟩ | ⟨hc1, hEq⟩
    · subst hEq
      refine ⟨7, ⟨[], ⟨0, 6, 7, 37⟩, [⟨0, 6, 11, 31⟩], _, rfl, (fun _ h => nomatch h), by decide, by decide, lL_37, cstNSE, rfl⟩, ?_⟩
      refine J_astore_n cx (L' := [(3, .ref q9), (0, .ref (ad 0 0)), (1, .int xc), (2, .int (zb b))]) dL_trust_7 rfl (by decide) rfl ?_
      refine J_ldc cx (v := (-900001)) dL_trust_8 cL_30 ?_
      refine J_x ?_
      exact J_iret cx rfl (u := ((ad, X, cs, lf, pr) : UT)) ⟨(by rw [hc1]; rfl), rfl, by rw [no_trust (by rw [hc1]; decide)]; exact ⟨hV, hw, hk⟩⟩ (by rw [no_trust (by rw [hc1]; decide)]) (Nat.le_of_ble_eq_true rfl) (Nat.le_of_ble_eq_true rfl) dL_trust_10
    · subst hEq
      refine ⟨11, ⟨[⟨0, 6, 7, 37⟩], ⟨0, 6, 11, 31⟩, [], _, rfl, (List.forall_mem_cons.mpr ⟨⟨by decide, "java/util/NoSuchElementException", lL_37, by decide, by decide, by decide⟩, (fun _ h => nomatch h)⟩), by decide, by decide, lL_31, cstISE, rfl⟩, ?_⟩
      refine J_astore_n cx (L' := [(3, .ref q9), (0, .ref (ad 0 0)), (1, .int xc), (2, .int (zb b))]) dL_trust_11 rfl (by decide) rfl ?_
      refine J_ldc cx (v := (-900002)) dL_trust_12 cL_33 ?_
      refine J_x ?_
      exact J_iret cx rfl (u := ((ad, X, cs, lf, pr) : UT)) ⟨(by rw [hc1]; rfl), rfl, by rw [no_trust (by rw [hc1]; decide)]; exact ⟨hV, hw, hk⟩⟩ (by rw [no_trust (by rw [hc1]; decide)]) (Nat.le_of_ble_eq_true rfl) (Nat.le_of_ble_eq_true rfl) dL_trust_14
  · obtain ⟨hc0, hr⟩ := hr; subst hr
    refine J_x ?_
    exact J_iret cx rfl (u := ((ad, X, cs, lf, pr) : UT)) ⟨(by rw [hc0]; rfl), rfl, ⟨IV_trust hV xc b, WV_cong hw (op_same.2.1 xc b), by rw [op_same.2.1 xc b]; exact hk⟩⟩ rfl (Nat.le_of_ble_eq_true rfl) (Nat.le_of_ble_eq_true rfl) dL_trust_6
set_option maxHeartbeats 4000000 in
set_option maxRecDepth 100000 in
theorem tL_revoke (l : Launch) (D : va_G) (g : Nat → ClassId) (A : Nat → Prop) (ad : Nat → Nat → Nat) (κ : CS) (X : XT) (cs : Nat → CT) (lf : Nat → Int64) (pr : PT) (xc : Int32) (htr : l.stackTraces = false) (hV : IV κ X) (hw : WV κ cs) (hk : κ.2.2.1 1 ≤ κ.2.2.1 0) (hd : κ.2.2.1 2 + 999 < 2147483648) : Met l yL_revoke (wsH yL_revoke cL_revoke 3 (some .int) [(0, 5, 6, 37), (0, 5, 10, 31)]) ({ frames := 8, cells := 2, slots := 12, locals := 134 } : Room) (va_Pc [.ref (ad 0 0), .int xc] (PRE D g A (iW ad g κ X cs lf pr))) (va_Qi (fun (r : Int32) (u : UT) => AQ ad ((opRevoke κ xc).2.2) ((opRevoke κ xc).1) ((opRevoke κ xc).2.1) r u) (fun u => PO D A (wT g ((opRevoke κ xc).2.2) u)) A) 2 12 A := by
  refine metH (by decide) (Nat.le_of_ble_eq_true rfl) ?_
  intro p e s m args below meth c _ htb cx
  refine J_aload_n cx dL_revoke_0 rfl 0 rfl ?_
  refine J_iload_n cx dL_revoke_1 rfl 1 rfl ?_
  refine J_hcallVi cx htb kL_54 (As := [.int xc]) (wsx := iW ad g κ X cs lf pr) (tX6_revoke l D g A ad κ X cs lf pr xc htr hV.1 hV.2.1) ⟨rfl, rfl, by first | decide | (simp only [rmB]; omega), by first | decide | (simp only [rmB]; omega)⟩ ⟨by decide, by decide⟩ rfl 0 rfl rfl rfl (Nat.le_of_ble_eq_true rfl) dL_revoke_2 (fun E q9 hE => ?_) (fun r9 u9 hr => ?_)
  · rcases thr2 hE with ⟨hc1, hEq⟩ | ⟨hc1, hEq⟩
    · subst hEq
      refine ⟨6, ⟨[], ⟨0, 5, 6, 37⟩, [⟨0, 5, 10, 31⟩], _, rfl, (fun _ h => nomatch h), by decide, by decide, lL_37, cstNSE, rfl⟩, ?_⟩
      refine J_astore_n cx (L' := [(2, .ref q9), (0, .ref (ad 0 0)), (1, .int xc)]) dL_revoke_6 rfl (by decide) rfl ?_
      refine J_ldc cx (v := (-900001)) dL_revoke_7 cL_30 ?_
      refine J_x ?_
      exact J_iret cx rfl (u := ((ad, X, cs, lf, pr) : UT)) ⟨(by rw [hc1]; rfl), rfl, by rw [no_revoke (by rw [hc1]; decide)]; exact ⟨hV, hw, hk⟩⟩ (by rw [no_revoke (by rw [hc1]; decide)]) (Nat.le_of_ble_eq_true rfl) (Nat.le_of_ble_eq_true rfl) dL_revoke_9
    · subst hEq
      refine ⟨10, ⟨[⟨0, 5, 6, 37⟩], ⟨0, 5, 10, 31⟩, [], _, rfl, (List.forall_mem_cons.mpr ⟨⟨by decide, "java/util/NoSuchElementException", lL_37, by decide, by decide, by decide⟩, (fun _ h => nomatch h)⟩), by decide, by decide, lL_31, cstISE, rfl⟩, ?_⟩
      refine J_astore_n cx (L' := [(2, .ref q9), (0, .ref (ad 0 0)), (1, .int xc)]) dL_revoke_10 rfl (by decide) rfl ?_
      refine J_ldc cx (v := (-900002)) dL_revoke_11 cL_33 ?_
      refine J_x ?_
      exact J_iret cx rfl (u := ((ad, X, cs, lf, pr) : UT)) ⟨(by rw [hc1]; rfl), rfl, by rw [no_revoke (by rw [hc1]; decide)]; exact ⟨hV, hw, hk⟩⟩ (by rw [no_revoke (by rw [hc1]; decide)]) (Nat.le_of_ble_eq_true rfl) (Nat.le_of_ble_eq_true rfl) dL_revoke_13
  · obtain ⟨hc0, hr⟩ := hr; subst hr
    refine J_x ?_
    exact J_iret cx rfl (u := ((ad, X, cs, lf, pr) : UT)) ⟨(by rw [hc0]; rfl), rfl, ⟨IV_revoke hV xc, WV_cong hw (op_same.2.2 xc), by rw [op_same.2.2 xc]; exact hk⟩⟩ rfl (Nat.le_of_ble_eq_true rfl) (Nat.le_of_ble_eq_true rfl) dL_revoke_5
set_option maxHeartbeats 4000000 in
set_option maxRecDepth 100000 in
theorem tL_publish (l : Launch) (D : va_G) (g : Nat → ClassId) (A : Nat → Prop) (ad : Nat → Nat → Nat) (κ : CS) (X : XT) (cs : Nat → CT) (lf : Nat → Int64) (pr : PT) (xc : Int32) (htr : l.stackTraces = false) (hV : IV κ X) (hw : WV κ cs) (hk : κ.2.2.1 1 ≤ κ.2.2.1 0) (hd : κ.2.2.1 2 + 999 < 2147483648) : Met l yL_publish (wsH yL_publish cL_publish 3 (some .int) [(0, 5, 6, 37), (0, 5, 10, 31)]) ({ frames := 8, cells := 2, slots := 12, locals := 135 } : Room) (va_Pc [.ref (ad 0 0), .int xc] (PRE D g A (iW ad g κ X cs lf pr))) (va_Qi (fun (r : Int32) (u : UT) => AQ ad ((opPublish κ xc).2.2) ((opPublish κ xc).1) ((opPublish κ xc).2.1) r u) (fun u => PO D A (wT g ((opPublish κ xc).2.2) u)) A) 2 12 A := by
  refine metH (by decide) (Nat.le_of_ble_eq_true rfl) ?_
  intro p e s m args below meth c _ htb cx
  refine J_aload_n cx dL_publish_0 rfl 0 rfl ?_
  refine J_iload_n cx dL_publish_1 rfl 1 rfl ?_
  refine J_hcallVi cx htb kL_58 (As := [.int xc]) (wsx := iW ad g κ X cs lf pr) (tX6_publish l D g A ad κ X cs lf pr xc htr hV.1 hV.2.1 hV.2.2.2.1 hV.hle) ⟨rfl, rfl, by first | decide | (simp only [rmB]; omega), by first | decide | (simp only [rmB]; omega)⟩ ⟨by decide, by decide⟩ rfl 0 rfl rfl rfl (Nat.le_of_ble_eq_true rfl) dL_publish_2 (fun E q9 hE => ?_) (fun r9 u9 hr => ?_)
  · rcases thr2 hE with ⟨hc1, hEq⟩ | ⟨hc1, hEq⟩
    · subst hEq
      refine ⟨6, ⟨[], ⟨0, 5, 6, 37⟩, [⟨0, 5, 10, 31⟩], _, rfl, (fun _ h => nomatch h), by decide, by decide, lL_37, cstNSE, rfl⟩, ?_⟩
      refine J_astore_n cx (L' := [(2, .ref q9), (0, .ref (ad 0 0)), (1, .int xc)]) dL_publish_6 rfl (by decide) rfl ?_
      refine J_ldc cx (v := (-900001)) dL_publish_7 cL_30 ?_
      refine J_x ?_
      exact J_iret cx rfl (u := ((ad, X, cs, lf, pr) : UT)) ⟨(by rw [hc1]; rfl), rfl, by rw [no_publish (by rw [hc1]; decide)]; exact ⟨hV, hw, hk⟩⟩ (by rw [no_publish (by rw [hc1]; decide)]) (Nat.le_of_ble_eq_true rfl) (Nat.le_of_ble_eq_true rfl) dL_publish_9
    · subst hEq
      refine ⟨10, ⟨[⟨0, 5, 6, 37⟩], ⟨0, 5, 10, 31⟩, [], _, rfl, (List.forall_mem_cons.mpr ⟨⟨by decide, "java/util/NoSuchElementException", lL_37, by decide, by decide, by decide⟩, (fun _ h => nomatch h)⟩), by decide, by decide, lL_31, cstISE, rfl⟩, ?_⟩
      refine J_astore_n cx (L' := [(2, .ref q9), (0, .ref (ad 0 0)), (1, .int xc)]) dL_publish_10 rfl (by decide) rfl ?_
      refine J_ldc cx (v := (-900002)) dL_publish_11 cL_33 ?_
      refine J_x ?_
      exact J_iret cx rfl (u := ((ad, X, cs, lf, pr) : UT)) ⟨(by rw [hc1]; rfl), rfl, by rw [no_publish (by rw [hc1]; decide)]; exact ⟨hV, hw, hk⟩⟩ (by rw [no_publish (by rw [hc1]; decide)]) (Nat.le_of_ble_eq_true rfl) (Nat.le_of_ble_eq_true rfl) dL_publish_13
  · obtain ⟨hc0, hr⟩ := hr; subst hr
    refine J_x ?_
    exact J_iret cx rfl (u := ((ad, pbX κ X xc, cs, lf, pr) : UT)) ⟨(by rw [hc0]; rfl), rfl, ⟨IV_publish hV (by omega) xc hc0, WV_cong hw (publish_same xc), by rw [publish_same xc]; exact hk⟩⟩ rfl (Nat.le_of_ble_eq_true rfl) (Nat.le_of_ble_eq_true rfl) dL_publish_5
set_option maxHeartbeats 4000000 in
set_option maxRecDepth 100000 in
theorem tL_pass (l : Launch) (D : va_G) (g : Nat → ClassId) (A : Nat → Prop) (ad : Nat → Nat → Nat) (κ : CS) (X : XT) (cs : Nat → CT) (lf : Nat → Int64) (pr : PT) (dy : Int32) (htr : l.stackTraces = false) (hV : IV κ X) (hw : WV κ cs) (hk : κ.2.2.1 1 ≤ κ.2.2.1 0) (hd : κ.2.2.1 2 + 999 < 2147483648) : Met l yL_pass (wsH yL_pass cL_pass 3 (some .int) [(0, 5, 6, 28)]) ({ frames := 8, cells := 1, slots := 6, locals := 131 } : Room) (va_Pc [.ref (ad 0 0), .int dy] (PRE D g A (iW ad g κ X cs lf pr))) (va_Qi (fun (r : Int32) (u : UT) => AQ ad ((opPass κ dy).2.2) ((opPass κ dy).1) ((opPass κ dy).2.1) r u) (fun u => PO D A (wT g ((opPass κ dy).2.2) u)) A) 1 6 A := by
  refine metH (by decide) (Nat.le_of_ble_eq_true rfl) ?_
  intro p e s m args below meth c _ htb cx
  refine J_aload_n cx dL_pass_0 rfl 0 rfl ?_
  refine J_iload_n cx dL_pass_1 rfl 1 rfl ?_
  refine J_hcallVi cx htb kL_61 (As := [.int dy]) (wsx := iW ad g κ X cs lf pr) (tX6_pass l D g A ad κ X cs lf pr dy htr ) ⟨rfl, rfl, by first | decide | (simp only [rmB]; omega), by first | decide | (simp only [rmB]; omega)⟩ ⟨by decide, by decide⟩ rfl 0 rfl rfl rfl (Nat.le_of_ble_eq_true rfl) dL_pass_2 (fun E q9 hE => ?_) (fun r9 u9 hr => ?_)
  · obtain ⟨hc1, hEq⟩ := thr1 hE
    subst hEq
    refine ⟨6, ⟨[], ⟨0, 5, 6, 28⟩, [], _, rfl, (fun _ h => nomatch h), by decide, by decide, lL_28, cstIAE, rfl⟩, ?_⟩
    refine J_astore_n cx (L' := [(2, .ref q9), (0, .ref (ad 0 0)), (1, .int dy)]) dL_pass_6 rfl (by decide) rfl ?_
    refine J_ldc cx (v := (-900001)) dL_pass_7 cL_30 ?_
    refine J_x ?_
    exact J_iret cx rfl (u := ((ad, X, cs, lf, pr) : UT)) ⟨(by rw [hc1]; rfl), rfl, by rw [no_pass (by rw [hc1]; decide)]; exact ⟨hV, hw, hk⟩⟩ (by rw [no_pass (by rw [hc1]; decide)]) (Nat.le_of_ble_eq_true rfl) (Nat.le_of_ble_eq_true rfl) dL_pass_9
  · obtain ⟨hc0, hr⟩ := hr; subst hr
    refine J_x ?_
    exact J_iret cx rfl (u := ((ad, X, cs, lf, pr) : UT)) ⟨(by rw [hc0]; rfl), rfl, ⟨IV_pass hV hd dy, WV_pass hw dy, pass_k hk dy⟩⟩ rfl (Nat.le_of_ble_eq_true rfl) (Nat.le_of_ble_eq_true rfl) dL_pass_5
set_option maxHeartbeats 4000000 in
set_option maxRecDepth 100000 in
theorem tL_kindOf (l : Launch) (D : va_G) (g : Nat → ClassId) (A : Nat → Prop) (ad : Nat → Nat → Nat) (κ : CS) (X : XT) (cs : Nat → CT) (lf : Nat → Int64) (pr : PT) (xc : Int32) (htr : l.stackTraces = false) (hV : IV κ X) (hw : WV κ cs) (hk : κ.2.2.1 1 ≤ κ.2.2.1 0) (hd : κ.2.2.1 2 + 999 < 2147483648) : Met l yL_kindOf (wsH yL_kindOf cL_kindOf 3 (some .int) [(0, 5, 6, 37)]) ({ frames := 8, cells := 1, slots := 6, locals := 134 } : Room) (va_Pc [.ref (ad 0 0), .int xc] (PRE D g A (iW ad g κ X cs lf pr))) (va_Qi (fun (r : Int32) (u : UT) => AQ ad κ ((opKind κ xc).1) ((opKind κ xc).2) r u) (fun u => PO D A (wT g κ u)) A) 1 6 A := by
  refine metH (by decide) (Nat.le_of_ble_eq_true rfl) ?_
  intro p e s m args below meth c _ htb cx
  refine J_aload_n cx dL_kindOf_0 rfl 0 rfl ?_
  refine J_iload_n cx dL_kindOf_1 rfl 1 rfl ?_
  refine J_hcallVi cx htb kL_64 (As := [.int xc]) (wsx := iW ad g κ X cs lf pr) (tX6_kindOf l D g A ad κ X cs lf pr  xc htr hV.1 hV.2.1 hV.2.2.2.1) ⟨rfl, rfl, by first | decide | (simp only [rmB]; omega), by first | decide | (simp only [rmB]; omega)⟩ ⟨by decide, by decide⟩ rfl 0 rfl rfl rfl (Nat.le_of_ble_eq_true rfl) dL_kindOf_2 (fun E q9 hE => ?_) (fun r9 u9 hr => ?_)
  · obtain ⟨hc1, hEq⟩ := thr1 hE
    subst hEq
    refine ⟨6, ⟨[], ⟨0, 5, 6, 37⟩, [], _, rfl, (fun _ h => nomatch h), by decide, by decide, lL_37, cstNSE, rfl⟩, ?_⟩
    refine J_astore_n cx (L' := [(2, .ref q9), (0, .ref (ad 0 0)), (1, .int xc)]) dL_kindOf_6 rfl (by decide) rfl ?_
    refine J_ldc cx (v := (-900001)) dL_kindOf_7 cL_30 ?_
    refine J_x ?_
    exact J_iret cx rfl (u := ((ad, X, cs, lf, pr) : UT)) ⟨(by rw [hc1]; rfl), rfl, ⟨hV, hw, hk⟩⟩ rfl (Nat.le_of_ble_eq_true rfl) (Nat.le_of_ble_eq_true rfl) dL_kindOf_9
  · obtain ⟨hc0, hr⟩ := hr; subst hr
    refine J_x ?_
    exact J_iret cx rfl (u := ((ad, X, cs, lf, pr) : UT)) ⟨(by rw [hc0]; rfl), rfl, ⟨hV, hw, hk⟩⟩ rfl (Nat.le_of_ble_eq_true rfl) (Nat.le_of_ble_eq_true rfl) dL_kindOf_5
set_option maxHeartbeats 4000000 in
set_option maxRecDepth 100000 in
theorem tL_candidateAt (l : Launch) (D : va_G) (g : Nat → ClassId) (A : Nat → Prop) (ad : Nat → Nat → Nat) (κ : CS) (X : XT) (cs : Nat → CT) (lf : Nat → Int64) (pr : PT) (xc : Int32) (rk : Int32) (htr : l.stackTraces = false) (hV : IV κ X) (hw : WV κ cs) (hk : κ.2.2.1 1 ≤ κ.2.2.1 0) (hd : κ.2.2.1 2 + 999 < 2147483648) : Met l yL_candidateAt (wsH yL_candidateAt cL_candidateAt 4 (some .int) [(0, 6, 7, 37), (0, 6, 11, 72)]) ({ frames := 8, cells := 2, slots := 12, locals := 135 } : Room) (va_Pc [.ref (ad 0 0), .int xc, .int rk] (PRE D g A (iW ad g κ X cs lf pr))) (va_Qi (fun (r : Int32) (u : UT) => AQ ad κ ((ocA κ X xc rk).1) ((ocA κ X xc rk).2) r u) (fun u => PO D A (wT g κ u)) A) 2 12 A := by
  refine metH (by decide) (Nat.le_of_ble_eq_true rfl) ?_
  intro p e s m args below meth c _ htb cx
  refine J_aload_n cx dL_candidateAt_0 rfl 0 rfl ?_
  refine J_iload_n cx dL_candidateAt_1 rfl 1 rfl ?_
  refine J_iload_n cx dL_candidateAt_2 rfl 2 rfl ?_
  refine J_hcallVi cx htb kL_68 (As := [.int xc, .int rk]) (wsx := iW ad g κ X cs lf pr) (tX6_candidateAt l D g A ad κ X cs lf pr  xc rk htr hV.1) ⟨rfl, rfl, by first | decide | (simp only [rmB]; omega), by first | decide | (simp only [rmB]; omega)⟩ ⟨by decide, by decide⟩ rfl 0 rfl rfl rfl (Nat.le_of_ble_eq_true rfl) dL_candidateAt_3 (fun E q9 hE => ?_) (fun r9 u9 hr => ?_)
  · rcases thr2 hE with ⟨hc1, hEq⟩ | ⟨hc1, hEq⟩
    · subst hEq
      refine ⟨7, ⟨[], ⟨0, 6, 7, 37⟩, [⟨0, 6, 11, 72⟩], _, rfl, (fun _ h => nomatch h), by decide, by decide, lL_37, cstNSE, rfl⟩, ?_⟩
      refine J_astore_n cx (L' := [(3, .ref q9), (0, .ref (ad 0 0)), (1, .int xc), (2, .int rk)]) dL_candidateAt_7 rfl (by decide) rfl ?_
      refine J_ldc cx (v := (-900001)) dL_candidateAt_8 cL_30 ?_
      refine J_x ?_
      exact J_iret cx rfl (u := ((ad, X, cs, lf, pr) : UT)) ⟨(by rw [hc1]; rfl), rfl, ⟨hV, hw, hk⟩⟩ rfl (Nat.le_of_ble_eq_true rfl) (Nat.le_of_ble_eq_true rfl) dL_candidateAt_10
    · subst hEq
      refine ⟨11, ⟨[⟨0, 6, 7, 37⟩], ⟨0, 6, 11, 72⟩, [], _, rfl, (List.forall_mem_cons.mpr ⟨⟨by decide, "java/util/NoSuchElementException", lL_37, by decide, by decide, by decide⟩, (fun _ h => nomatch h)⟩), by decide, by decide, lL_72, cstIOB, rfl⟩, ?_⟩
      refine J_astore_n cx (L' := [(3, .ref q9), (0, .ref (ad 0 0)), (1, .int xc), (2, .int rk)]) dL_candidateAt_11 rfl (by decide) rfl ?_
      refine J_ldc cx (v := (-900002)) dL_candidateAt_12 cL_33 ?_
      refine J_x ?_
      exact J_iret cx rfl (u := ((ad, X, cs, lf, pr) : UT)) ⟨(by rw [hc1]; rfl), rfl, ⟨hV, hw, hk⟩⟩ rfl (Nat.le_of_ble_eq_true rfl) (Nat.le_of_ble_eq_true rfl) dL_candidateAt_14
  · obtain ⟨hc0, hr⟩ := hr; subst hr
    refine J_x ?_
    exact J_iret cx rfl (u := ((ad, X, cs, lf, pr) : UT)) ⟨(by rw [hc0]; rfl), rfl, ⟨hV, hw, hk⟩⟩ rfl (Nat.le_of_ble_eq_true rfl) (Nat.le_of_ble_eq_true rfl) dL_candidateAt_6
set_option maxHeartbeats 4000000 in
set_option maxRecDepth 100000 in
theorem tL_begin (l : Launch) (D : va_G) (g : Nat → ClassId) (A : Nat → Prop) (ad : Nat → Nat → Nat) (κ : CS) (X : XT) (cs : Nat → CT) (lf : Nat → Int64) (pr : PT) (xc : Int32) (dy : Int32) (htr : l.stackTraces = false) (hV : IV κ X) (hw : WV κ cs) (hk : κ.2.2.1 1 ≤ κ.2.2.1 0) (hd : κ.2.2.1 2 + 999 < 2147483648) : Met l yL_begin (wsH yL_begin cL_begin 4 (some .int) [(0, 6, 7, 37), (0, 6, 11, 28)]) ({ frames := 8, cells := 2, slots := 12, locals := 136 } : Room) (va_Pc [.ref (ad 0 0), .int xc, .int dy] (PRE D g A (iW ad g κ X cs lf pr))) (va_Qi (fun (r : Int32) (u : UT) => AQ ad ((opBegin κ xc dy).2.2) ((opBegin κ xc dy).1) ((opBegin κ xc dy).2.1) r u) (fun u => PO D A (wT g ((opBegin κ xc dy).2.2) u)) A) 2 12 A := by
  refine metH (by decide) (Nat.le_of_ble_eq_true rfl) ?_
  intro p e s m args below meth c _ htb cx
  refine J_aload_n cx dL_begin_0 rfl 0 rfl ?_
  refine J_iload_n cx dL_begin_1 rfl 1 rfl ?_
  refine J_iload_n cx dL_begin_2 rfl 2 rfl ?_
  refine J_ws (ws' := iW ad g κ X (upc cs 0 (cs 0)) lf pr) (by rw [upc_self]) ?_
  refine J_hcallVi cx htb kL_83 (As := [.int xc, .int dy]) (wsx := iW ad g κ X (upc cs 0 (cs 0)) lf pr) (tX6_begin l D g A ad κ X cs lf pr (cs 0) xc dy htr hV.1) ⟨rfl, rfl, by first | decide | (simp only [rmB]; omega), by first | decide | (simp only [rmB]; omega)⟩ ⟨by decide, by decide⟩ rfl 0 rfl rfl rfl (Nat.le_of_ble_eq_true rfl) dL_begin_3 (fun E q9 hE => ?_) (fun r9 u9 hr => ?_)
  · rcases thr2 hE with ⟨hc1, hEq⟩ | ⟨hc1, hEq⟩
    · subst hEq
      refine ⟨7, ⟨[], ⟨0, 6, 7, 37⟩, [⟨0, 6, 11, 28⟩], _, rfl, (fun _ h => nomatch h), by decide, by decide, lL_37, cstNSE, rfl⟩, ?_⟩
      refine J_astore_n cx (L' := [(3, .ref q9), (0, .ref (ad 0 0)), (1, .int xc), (2, .int dy)]) dL_begin_7 rfl (by decide) rfl ?_
      refine J_ldc cx (v := (-900001)) dL_begin_8 cL_30 ?_
      refine J_x ?_
      exact J_iret cx rfl (u := ((ad, X, upc cs 0 (cs 0), lf, pr) : UT)) ⟨(by rw [hc1]; rfl), rfl, by rw [no_begin (by rw [hc1]; decide)]; exact ⟨hV, by rw [upc_self]; exact hw, hk⟩⟩ (by rw [no_begin (by rw [hc1]; decide)]) (Nat.le_of_ble_eq_true rfl) (Nat.le_of_ble_eq_true rfl) dL_begin_10
    · subst hEq
      refine ⟨11, ⟨[⟨0, 6, 7, 37⟩], ⟨0, 6, 11, 28⟩, [], _, rfl, (List.forall_mem_cons.mpr ⟨⟨by decide, "java/util/NoSuchElementException", lL_37, by decide, by decide, by decide⟩, (fun _ h => nomatch h)⟩), by decide, by decide, lL_28, cstIAE, rfl⟩, ?_⟩
      refine J_astore_n cx (L' := [(3, .ref q9), (0, .ref (ad 0 0)), (1, .int xc), (2, .int dy)]) dL_begin_11 rfl (by decide) rfl ?_
      refine J_ldc cx (v := (-900002)) dL_begin_12 cL_33 ?_
      refine J_x ?_
      exact J_iret cx rfl (u := ((ad, X, upc cs 0 (cs 0), lf, pr) : UT)) ⟨(by rw [hc1]; rfl), rfl, by rw [no_begin (by rw [hc1]; decide)]; exact ⟨hV, by rw [upc_self]; exact hw, hk⟩⟩ (by rw [no_begin (by rw [hc1]; decide)]) (Nat.le_of_ble_eq_true rfl) (Nat.le_of_ble_eq_true rfl) dL_begin_14
  · obtain ⟨hc0, hr⟩ := hr; subst hr
    refine J_x ?_
    exact J_iret cx rfl (u := ((ad, X, upc cs 0 (bgC κ (cs 0) xc dy), lf, pr) : UT)) ⟨(by rw [hc0]; rfl), rfl, ⟨IV_begin hV xc dy, WV_begin hw hV.1.1 xc dy, begin_k hV.1.1 hk xc dy⟩⟩ rfl (Nat.le_of_ble_eq_true rfl) (Nat.le_of_ble_eq_true rfl) dL_begin_6
set_option maxHeartbeats 4000000 in
set_option maxRecDepth 100000 in
theorem tL_step (l : Launch) (D : va_G) (g : Nat → ClassId) (A : Nat → Prop) (ad : Nat → Nat → Nat) (κ : CS) (X : XT) (cs : Nat → CT) (lf : Nat → Int64) (pr : PT) (rk : Int32) (htr : l.stackTraces = false) (hV : IV κ X) (hw : WV κ cs) (hk : κ.2.2.1 1 ≤ κ.2.2.1 0) (hd : κ.2.2.1 2 + 999 < 2147483648) : Met l yL_step (wsH yL_step cL_step 3 (some .int) [(0, 5, 6, 31), (0, 5, 10, 72)]) ({ frames := 8, cells := 2, slots := 12, locals := 136 } : Room) (va_Pc [.ref (ad 0 0), .int rk] (PRE D g A (iW ad g κ X cs lf pr))) (va_Qi (fun (r : Int32) (u : UT) => AQ ad ((opStep κ rk).2.2) ((opStep κ rk).1) ((opStep κ rk).2.1) r u) (fun u => PO D A (wT g ((opStep κ rk).2.2) u)) A) 2 12 A := by
  refine metH (by decide) (Nat.le_of_ble_eq_true rfl) ?_
  intro p e s m args below meth c _ htb cx
  refine J_aload_n cx dL_step_0 rfl 0 rfl ?_
  refine J_iload_n cx dL_step_1 rfl 1 rfl ?_
  refine J_ws (ws' := iW ad g κ X (upc cs 0 (cs 0)) lf pr) (by rw [upc_self]) ?_
  refine J_hcallVi cx htb kL_87 (As := [.int rk]) (wsx := iW ad g κ X (upc cs 0 (cs 0)) lf pr) (tX6_step l D g A ad κ X cs lf pr (cs 0) rk htr hV.1 hV.2.2.2.1 hw.1 (cd_nth hV.2.1 hV.1 hV.2.2.1)) ⟨rfl, rfl, by first | decide | (simp only [rmB]; omega), by first | decide | (simp only [rmB]; omega)⟩ ⟨by decide, by decide⟩ rfl 0 rfl rfl rfl (Nat.le_of_ble_eq_true rfl) dL_step_2 (fun E q9 hE => ?_) (fun r9 u9 hr => ?_)
  · rcases thr2 hE with ⟨hc1, hEq⟩ | ⟨hc1, hEq⟩
    · subst hEq
      refine ⟨6, ⟨[], ⟨0, 5, 6, 31⟩, [⟨0, 5, 10, 72⟩], _, rfl, (fun _ h => nomatch h), by decide, by decide, lL_31, cstISE, rfl⟩, ?_⟩
      refine J_astore_n cx (L' := [(2, .ref q9), (0, .ref (ad 0 0)), (1, .int rk)]) dL_step_6 rfl (by decide) rfl ?_
      refine J_ldc cx (v := (-900001)) dL_step_7 cL_30 ?_
      refine J_x ?_
      exact J_iret cx rfl (u := ((ad, X, upc cs 0 (cs 0), lf, pr) : UT)) ⟨(by rw [hc1]; rfl), rfl, by rw [no_step (by rw [hc1]; decide)]; exact ⟨hV, by rw [upc_self]; exact hw, hk⟩⟩ (by rw [no_step (by rw [hc1]; decide)]) (Nat.le_of_ble_eq_true rfl) (Nat.le_of_ble_eq_true rfl) dL_step_9
    · subst hEq
      refine ⟨10, ⟨[⟨0, 5, 6, 31⟩], ⟨0, 5, 10, 72⟩, [], _, rfl, (List.forall_mem_cons.mpr ⟨⟨by decide, "java/lang/IllegalStateException", lL_31, by decide, by decide, by decide⟩, (fun _ h => nomatch h)⟩), by decide, by decide, lL_72, cstIOB, rfl⟩, ?_⟩
      refine J_astore_n cx (L' := [(2, .ref q9), (0, .ref (ad 0 0)), (1, .int rk)]) dL_step_10 rfl (by decide) rfl ?_
      refine J_ldc cx (v := (-900002)) dL_step_11 cL_33 ?_
      refine J_x ?_
      exact J_iret cx rfl (u := ((ad, X, upc cs 0 (cs 0), lf, pr) : UT)) ⟨(by rw [hc1]; rfl), rfl, by rw [no_step (by rw [hc1]; decide)]; exact ⟨hV, by rw [upc_self]; exact hw, hk⟩⟩ (by rw [no_step (by rw [hc1]; decide)]) (Nat.le_of_ble_eq_true rfl) (Nat.le_of_ble_eq_true rfl) dL_step_13
  · obtain ⟨hc0, hr⟩ := hr; subst hr
    refine J_x ?_
    exact J_iret cx rfl (u := ((ad, X, upc cs 0 (stC κ (cs 0) rk), lf, pr) : UT)) ⟨(by rw [hc0]; rfl), rfl, ⟨IV_step hV rk, WV_step hw hV.2.2.2.1 rk hc0, step_k hk rk⟩⟩ rfl (Nat.le_of_ble_eq_true rfl) (Nat.le_of_ble_eq_true rfl) dL_step_5
set_option maxHeartbeats 4000000 in
set_option maxRecDepth 100000 in
theorem tL_reached (l : Launch) (D : va_G) (g : Nat → ClassId) (A : Nat → Prop) (ad : Nat → Nat → Nat) (κ : CS) (X : XT) (cs : Nat → CT) (lf : Nat → Int64) (pr : PT)  (htr : l.stackTraces = false) (hV : IV κ X) (hw : WV κ cs) (hk : κ.2.2.1 1 ≤ κ.2.2.1 0) (hd : κ.2.2.1 2 + 999 < 2147483648) : Met l yL_reached (wsH yL_reached cL_reached 2 (some .int) [(0, 4, 5, 31)]) ({ frames := 8, cells := 1, slots := 6, locals := 131 } : Room) (va_Pc [.ref (ad 0 0)] (PRE D g A (iW ad g κ X cs lf pr))) (va_Qi (fun (r : Int32) (u : UT) => AQ ad κ ((opReached κ).1) ((opReached κ).2) r u) (fun u => PO D A (wT g κ u)) A) 1 6 A := by
  refine metH (by decide) (Nat.le_of_ble_eq_true rfl) ?_
  intro p e s m args below meth c _ htb cx
  refine J_aload_n cx dL_reached_0 rfl 0 rfl ?_
  refine J_ws (ws' := iW ad g κ X (upc cs 0 (cs 0)) lf pr) (by rw [upc_self]) ?_
  refine J_hcallVi cx htb kL_90 (As := []) (wsx := iW ad g κ X (upc cs 0 (cs 0)) lf pr) (tX6_reached l D g A ad κ X cs lf pr (cs 0)  htr hV.1 hw.1) ⟨rfl, rfl, by first | decide | (simp only [rmB]; omega), by first | decide | (simp only [rmB]; omega)⟩ ⟨by decide, by decide⟩ rfl 0 rfl rfl rfl (Nat.le_of_ble_eq_true rfl) dL_reached_1 (fun E q9 hE => ?_) (fun r9 u9 hr => ?_)
  · obtain ⟨hc1, hEq⟩ := thr1 hE
    subst hEq
    refine ⟨5, ⟨[], ⟨0, 4, 5, 31⟩, [], _, rfl, (fun _ h => nomatch h), by decide, by decide, lL_31, cstISE, rfl⟩, ?_⟩
    refine J_astore_n cx (L' := [(1, .ref q9), (0, .ref (ad 0 0))]) dL_reached_5 rfl (by decide) rfl ?_
    refine J_ldc cx (v := (-900001)) dL_reached_6 cL_30 ?_
    refine J_x ?_
    exact J_iret cx rfl (u := ((ad, X, upc cs 0 (cs 0), lf, pr) : UT)) ⟨(by rw [hc1]; rfl), rfl, ⟨hV, by rw [upc_self]; exact hw, hk⟩⟩ rfl (Nat.le_of_ble_eq_true rfl) (Nat.le_of_ble_eq_true rfl) dL_reached_8
  · obtain ⟨hc0, hr⟩ := hr; subst hr
    refine J_x ?_
    exact J_iret cx rfl (u := ((ad, X, upc cs 0 (cs 0), lf, pr) : UT)) ⟨(by rw [hc0]; rfl), rfl, ⟨hV, by rw [upc_self]; exact hw, hk⟩⟩ rfl (Nat.le_of_ble_eq_true rfl) (Nat.le_of_ble_eq_true rfl) dL_reached_4
set_option maxHeartbeats 4000000 in
set_option maxRecDepth 100000 in
theorem tL_chainSize (l : Launch) (D : va_G) (g : Nat → ClassId) (A : Nat → Prop) (ad : Nat → Nat → Nat) (κ : CS) (X : XT) (cs : Nat → CT) (lf : Nat → Int64) (pr : PT) (xc : Int32) (dy : Int32) (htr : l.stackTraces = false) (hV : IV κ X) (hw : WV κ cs) (hk : κ.2.2.1 1 ≤ κ.2.2.1 0) (hd : κ.2.2.1 2 + 999 < 2147483648) : Met l yL_chainSize (wsH yL_chainSize cL_chainSize 4 (some .int) [(0, 6, 7, 37), (0, 6, 11, 28)]) ({ frames := 14, cells := 2, slots := 12, locals := 369 } : Room) (va_Pc [.ref (ad 0 0), .int xc, .int dy] (PRE D g A (iW ad g κ X cs lf pr))) (va_Qi (fun (r : Int32) (u : UT) => AQ ad κ ((ocS κ X (cs 1) (cs 2) xc dy).1) ((ocS κ X (cs 1) (cs 2) xc dy).2) r u) (fun u => PO D A (wT g κ u)) A) 2 12 A := by
  refine metH (by decide) (Nat.le_of_ble_eq_true rfl) ?_
  intro p e s m args below meth c _ htb cx
  refine J_aload_n cx dL_chainSize_0 rfl 0 rfl ?_
  refine J_iload_n cx dL_chainSize_1 rfl 1 rfl ?_
  refine J_iload_n cx dL_chainSize_2 rfl 2 rfl ?_
  refine J_ws (ws' := iW ad g κ X (upc (upc cs 1 (cs 1)) 2 (cs 2)) lf pr) (by rw [upc_self, upc_self]) ?_
  refine J_hcallVi cx htb kL_74 (As := [.int xc, .int dy]) (wsx := iW ad g κ X (upc (upc cs 1 (cs 1)) 2 (cs 2)) lf pr) (tX6_chainSize l D g A ad κ X cs lf pr (cs 1) (cs 2) xc dy htr hV.1 hV.2.2.2.1 hw.2.1 hw.2.2) ⟨rfl, rfl, by first | decide | (simp only [rmB]; omega), by first | decide | (simp only [rmB]; omega)⟩ ⟨by decide, by decide⟩ rfl 0 rfl rfl rfl (Nat.le_of_ble_eq_true rfl) dL_chainSize_3 (fun E q9 hE => ?_) (fun r9 u9 hr => ?_)
  · rcases thr2 hE with ⟨hc1, hEq⟩ | ⟨hc1, hEq⟩
    · subst hEq
      refine ⟨7, ⟨[], ⟨0, 6, 7, 37⟩, [⟨0, 6, 11, 28⟩], _, rfl, (fun _ h => nomatch h), by decide, by decide, lL_37, cstNSE, rfl⟩, ?_⟩
      refine J_astore_n cx (L' := [(3, .ref q9), (0, .ref (ad 0 0)), (1, .int xc), (2, .int dy)]) dL_chainSize_7 rfl (by decide) rfl ?_
      refine J_ldc cx (v := (-900001)) dL_chainSize_8 cL_30 ?_
      refine J_x ?_
      exact J_iret cx rfl (u := ((ad, X, upc (upc cs 1 (cs 1)) 2 (cs 2), lf, pr) : UT)) ⟨(by rw [hc1]; rfl), rfl, ⟨hV, by rw [upc_self, upc_self]; exact hw, hk⟩⟩ rfl (Nat.le_of_ble_eq_true rfl) (Nat.le_of_ble_eq_true rfl) dL_chainSize_10
    · subst hEq
      refine ⟨11, ⟨[⟨0, 6, 7, 37⟩], ⟨0, 6, 11, 28⟩, [], _, rfl, (List.forall_mem_cons.mpr ⟨⟨by decide, "java/util/NoSuchElementException", lL_37, by decide, by decide, by decide⟩, (fun _ h => nomatch h)⟩), by decide, by decide, lL_28, cstIAE, rfl⟩, ?_⟩
      refine J_astore_n cx (L' := [(3, .ref q9), (0, .ref (ad 0 0)), (1, .int xc), (2, .int dy)]) dL_chainSize_11 rfl (by decide) rfl ?_
      refine J_ldc cx (v := (-900002)) dL_chainSize_12 cL_33 ?_
      refine J_x ?_
      exact J_iret cx rfl (u := ((ad, X, upc (upc cs 1 (cs 1)) 2 (cs 2), lf, pr) : UT)) ⟨(by rw [hc1]; rfl), rfl, ⟨hV, by rw [upc_self, upc_self]; exact hw, hk⟩⟩ rfl (Nat.le_of_ble_eq_true rfl) (Nat.le_of_ble_eq_true rfl) dL_chainSize_14
  · obtain ⟨hc0, hr⟩ := hr; subst hr
    refine J_x ?_
    exact J_iret cx rfl (u := ((ad, X, upc (upc cs 1 (sbK κ X (xj xc) dy (cs 1) (cs 2)).1) 2 (sbK κ X (xj xc) dy (cs 1) (cs 2)).2, lf, pr) : UT)) ⟨(by rw [hc0]; rfl), rfl, (by obtain ⟨k1, k2⟩ := sbK_ok (d := dy) hV.2.2.2.1 hV.1 (wr_lt hc0 hV.1.1) hw.2.1 hw.2.2; exact ⟨hV, WV_12 hw k1 k2, hk⟩)⟩ rfl (Nat.le_of_ble_eq_true rfl) (Nat.le_of_ble_eq_true rfl) dL_chainSize_6
set_option maxHeartbeats 4000000 in
set_option maxRecDepth 100000 in
theorem tL_chainAt (l : Launch) (D : va_G) (g : Nat → ClassId) (A : Nat → Prop) (ad : Nat → Nat → Nat) (κ : CS) (X : XT) (cs : Nat → CT) (lf : Nat → Int64) (pr : PT) (xc : Int32) (dy : Int32) (xi : Int32) (htr : l.stackTraces = false) (hV : IV κ X) (hw : WV κ cs) (hk : κ.2.2.1 1 ≤ κ.2.2.1 0) (hd : κ.2.2.1 2 + 999 < 2147483648) : Met l yL_chainAt (wsH yL_chainAt cL_chainAt 5 (some .int) [(0, 7, 8, 37), (0, 7, 13, 28), (0, 7, 18, 72)]) ({ frames := 14, cells := 3, slots := 18, locals := 371 } : Room) (va_Pc [.ref (ad 0 0), .int xc, .int dy, .int xi] (PRE D g A (iW ad g κ X cs lf pr))) (va_Qi (fun (r : Int32) (u : UT) => AQ ad κ ((ocT κ X (cs 1) (cs 2) xc dy xi).1) ((ocT κ X (cs 1) (cs 2) xc dy xi).2) r u) (fun u => PO D A (wT g κ u)) A) 3 18 A := by
  refine metH (by decide) (Nat.le_of_ble_eq_true rfl) ?_
  intro p e s m args below meth c _ htb cx
  refine J_aload_n cx dL_chainAt_0 rfl 0 rfl ?_
  refine J_iload_n cx dL_chainAt_1 rfl 1 rfl ?_
  refine J_iload_n cx dL_chainAt_2 rfl 2 rfl ?_
  refine J_iload_n cx dL_chainAt_3 rfl 3 rfl ?_
  refine J_ws (ws' := iW ad g κ X (upc (upc cs 1 (cs 1)) 2 (cs 2)) lf pr) (by rw [upc_self, upc_self]) ?_
  refine J_hcallVi cx htb kL_77 (As := [.int xc, .int dy, .int xi]) (wsx := iW ad g κ X (upc (upc cs 1 (csW κ X (cs 1) (cs 2) xc dy).1) 2 (csW κ X (cs 1) (cs 2) xc dy).2) lf pr) (tX6_chainAt l D g A ad κ X cs lf pr (cs 1) (cs 2) xc dy xi htr hV.1 hV.2.2.2.1 hw.2.1 hw.2.2) ⟨rfl, rfl, by first | decide | (simp only [rmB]; omega), by first | decide | (simp only [rmB]; omega)⟩ ⟨by decide, by decide⟩ rfl 0 rfl rfl rfl (Nat.le_of_ble_eq_true rfl) dL_chainAt_4 (fun E q9 hE => ?_) (fun r9 u9 hr => ?_)
  · rcases thr3 hE with ⟨hc1, hEq⟩ | ⟨hc1, hEq⟩ | ⟨hc1, hEq⟩
    · subst hEq
      refine ⟨8, ⟨[], ⟨0, 7, 8, 37⟩, [⟨0, 7, 13, 28⟩, ⟨0, 7, 18, 72⟩], _, rfl, (fun _ h => nomatch h), by decide, by decide, lL_37, cstNSE, rfl⟩, ?_⟩
      refine J_astore cx (L' := [(4, .ref q9), (0, .ref (ad 0 0)), (1, .int xc), (2, .int dy), (3, .int xi)]) dL_chainAt_8 (by decide) rfl ?_
      refine J_ldc cx (v := (-900001)) dL_chainAt_10 cL_30 ?_
      refine J_x ?_
      exact J_iret cx rfl (u := ((ad, X, upc (upc cs 1 (csW κ X (cs 1) (cs 2) xc dy).1) 2 (csW κ X (cs 1) (cs 2) xc dy).2, lf, pr) : UT)) ⟨(by rw [hc1]; rfl), rfl, (by obtain ⟨k1, k2⟩ := csW_ok (xc := xc) (dy := dy) hV hw; exact ⟨hV, WV_12 hw k1 k2, hk⟩)⟩ rfl (Nat.le_of_ble_eq_true rfl) (Nat.le_of_ble_eq_true rfl) dL_chainAt_12
    · subst hEq
      refine ⟨13, ⟨[⟨0, 7, 8, 37⟩], ⟨0, 7, 13, 28⟩, [⟨0, 7, 18, 72⟩], _, rfl, (List.forall_mem_cons.mpr ⟨⟨by decide, "java/util/NoSuchElementException", lL_37, by decide, by decide, by decide⟩, (fun _ h => nomatch h)⟩), by decide, by decide, lL_28, cstIAE, rfl⟩, ?_⟩
      refine J_astore cx (L' := [(4, .ref q9), (0, .ref (ad 0 0)), (1, .int xc), (2, .int dy), (3, .int xi)]) dL_chainAt_13 (by decide) rfl ?_
      refine J_ldc cx (v := (-900002)) dL_chainAt_15 cL_33 ?_
      refine J_x ?_
      exact J_iret cx rfl (u := ((ad, X, upc (upc cs 1 (csW κ X (cs 1) (cs 2) xc dy).1) 2 (csW κ X (cs 1) (cs 2) xc dy).2, lf, pr) : UT)) ⟨(by rw [hc1]; rfl), rfl, (by obtain ⟨k1, k2⟩ := csW_ok (xc := xc) (dy := dy) hV hw; exact ⟨hV, WV_12 hw k1 k2, hk⟩)⟩ rfl (Nat.le_of_ble_eq_true rfl) (Nat.le_of_ble_eq_true rfl) dL_chainAt_17
    · subst hEq
      refine ⟨18, ⟨[⟨0, 7, 8, 37⟩, ⟨0, 7, 13, 28⟩], ⟨0, 7, 18, 72⟩, [], _, rfl, (List.forall_mem_cons.mpr ⟨⟨by decide, "java/util/NoSuchElementException", lL_37, by decide, by decide, by decide⟩, (List.forall_mem_cons.mpr ⟨⟨by decide, "java/lang/IllegalArgumentException", lL_28, by decide, by decide, by decide⟩, (fun _ h => nomatch h)⟩)⟩), by decide, by decide, lL_72, cstIOB, rfl⟩, ?_⟩
      refine J_astore cx (L' := [(4, .ref q9), (0, .ref (ad 0 0)), (1, .int xc), (2, .int dy), (3, .int xi)]) dL_chainAt_18 (by decide) rfl ?_
      refine J_ldc cx (v := (-900003)) dL_chainAt_20 cL_39 ?_
      refine J_x ?_
      exact J_iret cx rfl (u := ((ad, X, upc (upc cs 1 (csW κ X (cs 1) (cs 2) xc dy).1) 2 (csW κ X (cs 1) (cs 2) xc dy).2, lf, pr) : UT)) ⟨(by rw [hc1]; rfl), rfl, (by obtain ⟨k1, k2⟩ := csW_ok (xc := xc) (dy := dy) hV hw; exact ⟨hV, WV_12 hw k1 k2, hk⟩)⟩ rfl (Nat.le_of_ble_eq_true rfl) (Nat.le_of_ble_eq_true rfl) dL_chainAt_22
  · obtain ⟨hc0, hr⟩ := hr; subst hr
    refine J_x ?_
    exact J_iret cx rfl (u := ((ad, X, upc (upc cs 1 (csW κ X (cs 1) (cs 2) xc dy).1) 2 (csW κ X (cs 1) (cs 2) xc dy).2, lf, pr) : UT)) ⟨(by rw [hc0]; rfl), rfl, (by obtain ⟨k1, k2⟩ := csW_ok (xc := xc) (dy := dy) hV hw; exact ⟨hV, WV_12 hw k1 k2, hk⟩)⟩ rfl (Nat.le_of_ble_eq_true rfl) (Nat.le_of_ble_eq_true rfl) dL_chainAt_7
set_option maxHeartbeats 4000000 in
set_option maxRecDepth 100000 in
theorem tL_goodChains (l : Launch) (D : va_G) (g : Nat → ClassId) (A : Nat → Prop) (ad : Nat → Nat → Nat) (κ : CS) (X : XT) (cs : Nat → CT) (lf : Nat → Int64) (pr : PT) (xc : Int32) (dy : Int32) (htr : l.stackTraces = false) (hV : IV κ X) (hw : WV κ cs) (hk : κ.2.2.1 1 ≤ κ.2.2.1 0) (hd : κ.2.2.1 2 + 999 < 2147483648) : Met l yL_goodChains (wsH yL_goodChains cL_goodChains 4 (some .int) [(0, 6, 7, 37), (0, 6, 11, 28)]) ({ frames := 14, cells := 2, slots := 12, locals := 369 } : Room) (va_Pc [.ref (ad 0 0), .int xc, .int dy] (PRE D g A (iW ad g κ X cs lf pr))) (va_Qi (fun (r : Int32) (u : UT) => AQ ad κ ((ocG κ X (cs 1) xc dy).1) ((ocG κ X (cs 1) xc dy).2) r u) (fun u => PO D A (wT g κ u)) A) 2 12 A := by
  refine metH (by decide) (Nat.le_of_ble_eq_true rfl) ?_
  intro p e s m args below meth c _ htb cx
  refine J_aload_n cx dL_goodChains_0 rfl 0 rfl ?_
  refine J_iload_n cx dL_goodChains_1 rfl 1 rfl ?_
  refine J_iload_n cx dL_goodChains_2 rfl 2 rfl ?_
  refine J_ws (ws' := iW ad g κ X (upc cs 1 (cs 1)) lf pr) (by rw [upc_self]) ?_
  refine J_hcallVi cx htb kL_80 (As := [.int xc, .int dy]) (wsx := iW ad g κ X (upc cs 1 (cs 1)) lf pr) (tX6_goodChains l D g A ad κ X cs lf pr (cs 1) xc dy htr hV.1 hV.2.2.2.1 hw.2.1) ⟨rfl, rfl, by first | decide | (simp only [rmB]; omega), by first | decide | (simp only [rmB]; omega)⟩ ⟨by decide, by decide⟩ rfl 0 rfl rfl rfl (Nat.le_of_ble_eq_true rfl) dL_goodChains_3 (fun E q9 hE => ?_) (fun r9 u9 hr => ?_)
  · rcases thr2 hE with ⟨hc1, hEq⟩ | ⟨hc1, hEq⟩
    · subst hEq
      refine ⟨7, ⟨[], ⟨0, 6, 7, 37⟩, [⟨0, 6, 11, 28⟩], _, rfl, (fun _ h => nomatch h), by decide, by decide, lL_37, cstNSE, rfl⟩, ?_⟩
      refine J_astore_n cx (L' := [(3, .ref q9), (0, .ref (ad 0 0)), (1, .int xc), (2, .int dy)]) dL_goodChains_7 rfl (by decide) rfl ?_
      refine J_ldc cx (v := (-900001)) dL_goodChains_8 cL_30 ?_
      refine J_x ?_
      exact J_iret cx rfl (u := ((ad, X, upc cs 1 (cs 1), lf, pr) : UT)) ⟨(by rw [hc1]; rfl), rfl, ⟨hV, by rw [upc_self]; exact hw, hk⟩⟩ rfl (Nat.le_of_ble_eq_true rfl) (Nat.le_of_ble_eq_true rfl) dL_goodChains_10
    · subst hEq
      refine ⟨11, ⟨[⟨0, 6, 7, 37⟩], ⟨0, 6, 11, 28⟩, [], _, rfl, (List.forall_mem_cons.mpr ⟨⟨by decide, "java/util/NoSuchElementException", lL_37, by decide, by decide, by decide⟩, (fun _ h => nomatch h)⟩), by decide, by decide, lL_28, cstIAE, rfl⟩, ?_⟩
      refine J_astore_n cx (L' := [(3, .ref q9), (0, .ref (ad 0 0)), (1, .int xc), (2, .int dy)]) dL_goodChains_11 rfl (by decide) rfl ?_
      refine J_ldc cx (v := (-900002)) dL_goodChains_12 cL_33 ?_
      refine J_x ?_
      exact J_iret cx rfl (u := ((ad, X, upc cs 1 (cs 1), lf, pr) : UT)) ⟨(by rw [hc1]; rfl), rfl, ⟨hV, by rw [upc_self]; exact hw, hk⟩⟩ rfl (Nat.le_of_ble_eq_true rfl) (Nat.le_of_ble_eq_true rfl) dL_goodChains_14
  · obtain ⟨hc0, hr⟩ := hr; subst hr
    refine J_x ?_
    exact J_iret cx rfl (u := ((ad, X, upc cs 1 (cjK κ X 7 (va_up (cs 1).1 0 (some (xj xc)), 1, dy)).2, lf, pr) : UT)) ⟨(by rw [hc0]; rfl), rfl, ⟨hV, WV_1 hw (ctK_keep (okJ_7 (κ := κ)) hV.1 7 _ (restart_ok hw.2.1 (wr_lt hc0 hV.1.1)) (Nat.le_refl 1)).1, hk⟩⟩ rfl (Nat.le_of_ble_eq_true rfl) (Nat.le_of_ble_eq_true rfl) dL_goodChains_6
set_option maxHeartbeats 4000000 in
set_option maxRecDepth 100000 in
theorem tL_soundShare (l : Launch) (D : va_G) (g : Nat → ClassId) (A : Nat → Prop) (ad : Nat → Nat → Nat) (κ : CS) (X : XT) (cs : Nat → CT) (lf : Nat → Int64) (pr : PT)  (htr : l.stackTraces = false) (hV : IV κ X) (hw : WV κ cs) (hk : κ.2.2.1 1 ≤ κ.2.2.1 0) (hd : κ.2.2.1 2 + 999 < 2147483648) : Met l yL_soundShare (wsH yL_soundShare cL_soundShare 2 (some .float) [(0, 4, 5, 15)]) ({ frames := 7, cells := 1, slots := 6, locals := 115 } : Room) (va_Pc [.ref (ad 0 0)] (PRE D g A (iW ad g κ X cs lf pr))) (va_Qf (fun (r : UInt32) (u : UT) => AQF ad κ ((opSound κ).1) ((opSound κ).2) 3378231824 r u) (fun u => PO D A (wT g κ u)) A) 1 6 A := by
  refine metH (by decide) (Nat.le_of_ble_eq_true rfl) ?_
  intro p e s m args below meth c _ htb cx
  refine J_aload_n cx dL_soundShare_0 rfl 0 rfl ?_
  refine J_hcallVf cx htb kL_19 (As := []) (wsx := iW ad g κ X cs lf pr) (tX6_soundShare l D g A ad κ X cs lf pr htr hV.1.1) ⟨rfl, rfl, by first | decide | (simp only [rmB]; omega), by first | decide | (simp only [rmB]; omega)⟩ ⟨by decide, by decide⟩ rfl 0 rfl rfl rfl (Nat.le_of_ble_eq_true rfl) dL_soundShare_1 (fun E q9 hE => ?_) (fun r9 u9 hr => ?_)
  · obtain ⟨hc1, hEq⟩ := hE
    subst hEq
    have hc1 := sound_1 hc1
    refine ⟨5, ⟨[], ⟨0, 4, 5, 15⟩, [], _, rfl, (fun _ h => nomatch h), by decide, by decide, lL_15, cstARI, rfl⟩, ?_⟩
    refine J_astore_n cx (L' := [(1, .ref q9), (0, .ref (ad 0 0))]) dL_soundShare_5 rfl (by decide) rfl ?_
    refine J_ldcf cx (v := 3378231824) dL_soundShare_6 cL_23 ?_
    refine J_x ?_
    exact J_fret cx rfl (u := ((ad, X, cs, lf, pr) : UT)) ⟨(by rw [if_neg (by rw [hc1]; decide)]), rfl, ⟨hV, hw, hk⟩⟩ rfl (Nat.le_of_ble_eq_true rfl) (Nat.le_of_ble_eq_true rfl) dL_soundShare_8
  · obtain ⟨hn0, hr⟩ := hr
    have hq : r9 = (opSound κ).2 := by rw [hr, sound_0 hn0, sd_cnt hV.1 hV.2.2.2.2.2.2.2.2.2]
    subst hq
    have hc0 : (opSound κ).1 = 0 := by rw [sound_0 hn0]
    refine J_x ?_
    exact J_fret cx rfl (u := ((ad, X, cs, lf, pr) : UT)) ⟨(by rw [if_pos hc0]), rfl, ⟨hV, hw, hk⟩⟩ rfl (Nat.le_of_ble_eq_true rfl) (Nat.le_of_ble_eq_true rfl) dL_soundShare_4
set_option maxHeartbeats 4000000 in
set_option maxRecDepth 100000 in
theorem tL_meanChain (l : Launch) (D : va_G) (g : Nat → ClassId) (A : Nat → Prop) (ad : Nat → Nat → Nat) (κ : CS) (X : XT) (cs : Nat → CT) (lf : Nat → Int64) (pr : PT)  (htr : l.stackTraces = false) (hV : IV κ X) (hw : WV κ cs) (hk : κ.2.2.1 1 ≤ κ.2.2.1 0) (hd : κ.2.2.1 2 + 999 < 2147483648) : Met l yL_meanChain (wsH yL_meanChain cL_meanChain 2 (some .double) [(0, 4, 5, 15)]) ({ frames := 14, cells := 1, slots := 6, locals := 373 } : Room) (va_Pc [.ref (ad 0 0)] (PRE D g A (iW ad g κ X cs lf pr))) (va_Qd (fun (r : UInt64) (u : UT) => AQD ad κ ((ocM κ X (cs 1) (cs 2)).1) ((ocM κ X (cs 1) (cs 2)).2) 13919350198670196736 r u) (fun u => PO D A (wT g κ u)) A) 1 6 A := by
  refine metH (by decide) (Nat.le_of_ble_eq_true rfl) ?_
  intro p e s m args below meth c _ htb cx
  refine J_aload_n cx dL_meanChain_0 rfl 0 rfl ?_
  refine J_ws (ws' := iW ad g κ X (upc (upc cs 1 (cs 1)) 2 (cs 2)) lf pr) (by rw [upc_self, upc_self]) ?_
  refine J_hcallVd cx htb kL_9 (As := []) (wsx := iW ad g κ X (upc (upc cs 1 (mcC κ X (cs 1) (cs 2) (κ.2.2.1 0)).2.2.1) 2 (mcC κ X (cs 1) (cs 2) (κ.2.2.1 0)).2.2.2) lf pr) (tX6_meanChain l D g A ad κ X cs lf pr (cs 1) (cs 2) htr hV.1 hV.2.2.2.1 hw.2.1 hw.2.2) ⟨rfl, rfl, by first | decide | (simp only [rmB]; omega), by first | decide | (simp only [rmB]; omega)⟩ ⟨by decide, by decide⟩ rfl 0 rfl rfl rfl (Nat.le_of_ble_eq_true rfl) dL_meanChain_1 (fun E q9 hE => ?_) (fun r9 u9 hr => ?_)
  · obtain ⟨hc1, hEq⟩ := hE
    subst hEq
    have hc1 := ocM_1 hc1
    refine ⟨5, ⟨[], ⟨0, 4, 5, 15⟩, [], _, rfl, (fun _ h => nomatch h), by decide, by decide, lL_15, cstARI, rfl⟩, ?_⟩
    refine J_astore_n cx (L' := [(1, .ref q9), (0, .ref (ad 0 0))]) dL_meanChain_5 rfl (by decide) rfl ?_
    refine J_ldc2d cx (v := 13919350198670196736) dL_meanChain_6 cL_17 ?_
    refine J_x ?_
    exact J_dret cx rfl (u := ((ad, X, upc (upc cs 1 (mcC κ X (cs 1) (cs 2) (κ.2.2.1 0)).2.2.1) 2 (mcC κ X (cs 1) (cs 2) (κ.2.2.1 0)).2.2.2, lf, pr) : UT)) ⟨(by rw [if_neg (by rw [hc1]; decide)]), rfl, (by obtain ⟨k1, k2, _⟩ := mcC_ok hV.2.2.2.1 hV.1 hw.2.1 hw.2.2 (κ.2.2.1 0) (Nat.le_refl _); exact ⟨hV, WV_12 hw k1 k2, hk⟩)⟩ rfl (Nat.le_of_ble_eq_true rfl) (Nat.le_of_ble_eq_true rfl) dL_meanChain_9
  · obtain ⟨hn0, hr⟩ := hr
    have hq : r9 = (ocM κ X (cs 1) (cs 2)).2 := by rw [hr, ocM_0 hn0]
    subst hq
    have hc0 : (ocM κ X (cs 1) (cs 2)).1 = 0 := by rw [ocM_0 hn0]
    refine J_x ?_
    exact J_dret cx rfl (u := ((ad, X, upc (upc cs 1 (mcC κ X (cs 1) (cs 2) (κ.2.2.1 0)).2.2.1) 2 (mcC κ X (cs 1) (cs 2) (κ.2.2.1 0)).2.2.2, lf, pr) : UT)) ⟨(by rw [if_pos hc0]), rfl, (by obtain ⟨k1, k2, _⟩ := mcC_ok hV.2.2.2.1 hV.1 hw.2.1 hw.2.2 (κ.2.2.1 0) (Nat.le_refl _); exact ⟨hV, WV_12 hw k1 k2, hk⟩)⟩ rfl (Nat.le_of_ble_eq_true rfl) (Nat.le_of_ble_eq_true rfl) dL_meanChain_4
