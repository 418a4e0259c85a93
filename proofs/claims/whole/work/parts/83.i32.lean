/-! the law's adapters: what a call answers, or which of its exceptions it throws -/
abbrev US : Type := (Nat → Nat → Nat) × XT × (Nat → CT) × (Nat → Int64) × PT × (Nat → Int64)
abbrev UD : Type := (Nat → Nat → Nat) × XT × (Nat → CT) × (Nat → Int64) × PT × (Nat → UInt64)
abbrev INV (κ : CS) (X : XT) (cs : Nat → CT) : Prop := IV κ X ∧ WV κ cs ∧ κ.2.2.1 1 ≤ κ.2.2.1 0
abbrev AP (ad : Nat → Nat → Nat) (κ1 : CS) (code : Nat) (val : Int64) (r : Int32) (u : US) : Prop := r = nI code ∧ code < 4 ∧ (code = 0 → u.2.2.2.2.2 0 = val) ∧ u.1 0 = ad 0 ∧ INV κ1 u.2.1 u.2.2.1
abbrev APD (ad : Nat → Nat → Nat) (κ1 : CS) (code : Nat) (val : UInt64) (r : Int32) (u : UD) : Prop := r = nI code ∧ code < 4 ∧ (code = 0 → u.2.2.2.2.2 0 = val) ∧ u.1 0 = ad 0 ∧ INV κ1 u.2.1 u.2.2.1
def bL (b : Bool) : Int64 := if b then lN 1 else lN 0
theorem vu0 {f : Nat → Int64} {v : Int64} : vp_updL f 0 v 0 = v := if_pos rfl
theorem vd0 {f : Nat → UInt64} {v : UInt64} : vf_upd f 0 v 0 = v := if_pos rfl
theorem at_end {w : va_W} {x : Nat × va_E} : (w ++ [x])[w.length]? = some x := by rw [List.getElem?_append_right (Nat.le_refl _)]; simp
theorem set_end {w : va_W} {x y : Nat × va_E} : (w ++ [x]).set w.length y = w ++ [y] := by rw [List.set_append_right _ _ (Nat.le_refl _)]; simp
theorem thr1 {a E : String} {c : Nat} (h : thrE [a] c E) : c = 1 ∧ E = a := by
  obtain ⟨h1, h2⟩ := h
  match c, h1, h2 with
  | 1, _, h2 => exact ⟨rfl, (Option.some.inj h2).symm⟩
  | c + 2, _, h2 => exact absurd h2 (by simp)
theorem thr2 {a b E : String} {c : Nat} (h : thrE [a, b] c E) : (c = 1 ∧ E = a) ∨ (c = 2 ∧ E = b) := by
  obtain ⟨h1, h2⟩ := h
  match c, h1, h2 with
  | 1, _, h2 => exact Or.inl ⟨rfl, (Option.some.inj h2).symm⟩
  | 2, _, h2 => exact Or.inr ⟨rfl, (Option.some.inj h2).symm⟩
  | c + 3, _, h2 => exact absurd h2 (by simp)
theorem thr3 {a b d E : String} {c : Nat} (h : thrE [a, b, d] c E) : (c = 1 ∧ E = a) ∨ (c = 2 ∧ E = b) ∨ (c = 3 ∧ E = d) := by
  obtain ⟨h1, h2⟩ := h
  match c, h1, h2 with
  | 1, _, h2 => exact Or.inl ⟨rfl, (Option.some.inj h2).symm⟩
  | 2, _, h2 => exact Or.inr (Or.inl ⟨rfl, (Option.some.inj h2).symm⟩)
  | 3, _, h2 => exact Or.inr (Or.inr ⟨rfl, (Option.some.inj h2).symm⟩)
  | c + 4, _, h2 => exact absurd h2 (by simp)
theorem pass_k {κ : CS} (hk : κ.2.2.1 1 ≤ κ.2.2.1 0) (dy : Int32) : (opPass κ dy).2.2.2.2.1 1 ≤ (opPass κ dy).2.2.2.2.1 0 := by
  rcases opPass_c (κ := κ) (dy := dy) with e | ⟨j, hj, e⟩
  · rw [e]; exact hk
  · rw [e]; exact hk
theorem begin_k {κ : CS} (hn : κ.2.2.1 0 ≤ 40) (hk : κ.2.2.1 1 ≤ κ.2.2.1 0) (xc dy : Int32) : (opBegin κ xc dy).2.2.2.2.1 1 ≤ (opBegin κ xc dy).2.2.2.2.1 0 := by
  rcases opBegin_c (κ := κ) (xc := xc) (dy := dy) hn with ⟨e, _⟩ | ⟨j, hj, e, _⟩
  · rw [e]; exact hk
  · rw [e]; exact hk
theorem step_k {κ : CS} (hk : κ.2.2.1 1 ≤ κ.2.2.1 0) (rk : Int32) : (opStep κ rk).2.2.2.2.1 1 ≤ (opStep κ rk).2.2.2.2.1 0 := by
  rcases opStep_c (κ := κ) (rk := rk) with ⟨e, _⟩ | ⟨k, _, _, _, e, _⟩
  · rw [e]; exact hk
  · rw [e]; exact hk
theorem wr_lt {κ : CS} {xc dy : Int32} {a b : Int32} (h : (if decide (wrongC κ xc dy = 0) then ((0 : Nat), a) else (wrongC κ xc dy, b)).1 = 0) (hn : κ.2.2.1 0 ≤ 40) : xj xc < κ.2.2.1 0 := by
  by_cases q : wrongC κ xc dy = 0
  · obtain ⟨j, hj, rfl, _⟩ := wrong_0 q hn
    rw [show xj (nI j) = j from nI_clamp (by omega)]; exact hj
  · rw [decide_eq_false q] at h; exact absurd h q
theorem csW_ok {κ : CS} {X : XT} {cs : Nat → CT} {xc dy : Int32} (hV : IV κ X) (hw : WV κ cs) : ShC κ (csW κ X (cs 1) (cs 2) xc dy).1 ∧ ShC κ (csW κ X (cs 1) (cs 2) xc dy).2 := by
  unfold csW
  by_cases q : wrongC κ xc dy = 0
  · rw [decide_eq_true q]
    obtain ⟨j, hj, rfl, _⟩ := wrong_0 q hV.1.1
    have := hV.1.1
    rw [show xj (nI j) = j from nI_clamp (by omega)]
    exact sbK_ok hV.2.2.2.1 hV.1 hj hw.2.1 hw.2.2
  · rw [decide_eq_false q]; exact ⟨hw.2.1, hw.2.2⟩
theorem gw_ok {κ : CS} {X : XT} {t : CT} {i : Nat} {dy : Int32} (hV : IV κ X) (ht : ShC κ t) (hi : i < κ.2.2.1 0) : ShC κ (gwK2 κ X t i dy).2 := by
  unfold gwK2
  by_cases q : rfI κ i dy = 111
  · rw [decide_eq_true q]; exact (ctK_keep (okL_7 hV.2.2.2.1) hV.1 7 _ (restart_ok ht hi) (Nat.le_refl 1)).1
  · rw [decide_eq_false q]; exact ht
theorem sound_0 {κ : CS} (h : ¬ κ.2.2.1 0 = 0) : opSound κ = (0, FP.fdiv (FP.i2f (nI (cnt (sndB κ) (κ.2.2.1 0)))) (FP.i2f (nI (κ.2.2.1 0)))) := by unfold opSound; rw [decide_eq_false h]; rfl
theorem sound_1 {κ : CS} (h : κ.2.2.1 0 = 0) : (opSound κ).1 = 1 := by unfold opSound; rw [decide_eq_true h]; rfl
theorem f2d_ok : ∀ a, a < 41 → ∀ b, b < 41 → b ≠ 0 → vf_n64 (FP.f2d (FP.fdiv (FP.i2f (nI a)) (FP.i2f (nI b)))) := by
  have h : ∀ a : Fin 41, ∀ b : Fin 41, b.val ≠ 0 → (FP.f2d (FP.fdiv (FP.i2f (nI a.val)) (FP.i2f (nI b.val)))) &&& 0x7fffffffffffffff ≤ 0x7ff0000000000000 := by decide +kernel
  exact fun a ha b hb h0 => h ⟨a, ha⟩ ⟨b, hb⟩ h0
theorem sound_nan {κ : CS} (h : ¬ κ.2.2.1 0 = 0) (hn : κ.2.2.1 0 ≤ 40) : vf_n64 (FP.f2d (opSound κ).2) := by
  rw [sound_0 h]
  have := cnt_le (sndB κ) (κ.2.2.1 0)
  exact f2d_ok _ (by omega) _ (by omega) h
def ocM (κ : CS) (X : XT) (t b : CT) : Nat × UInt64 := if decide ((mcC κ X t b (κ.2.2.1 0)).2.1 = 0) then (1, 0) else (0, FP.ddiv (FP.i2d (nI (mcC κ X t b (κ.2.2.1 0)).1)) (FP.i2d (nI (mcC κ X t b (κ.2.2.1 0)).2.1)))
theorem ocM_0 {κ : CS} {X : XT} {t b : CT} (h : ¬ (mcC κ X t b (κ.2.2.1 0)).2.1 = 0) : ocM κ X t b = (0, FP.ddiv (FP.i2d (nI (mcC κ X t b (κ.2.2.1 0)).1)) (FP.i2d (nI (mcC κ X t b (κ.2.2.1 0)).2.1))) := by unfold ocM; rw [decide_eq_false h]; rfl
theorem ocM_1 {κ : CS} {X : XT} {t b : CT} (h : (mcC κ X t b (κ.2.2.1 0)).2.1 = 0) : (ocM κ X t b).1 = 1 := by unfold ocM; rw [decide_eq_true h]; rfl
theorem oc_M {κ : CS} {X : XT} (hI : InvM κ) (hS : ShX κ X) (hT : TIE κ X) (hH : HLD κ X) {t b : CT} (ht : ShC κ t) (hb : ShC κ b) (ch : Nat → Nat) : ocM κ X t b = opMean κ ch := by
  obtain ⟨a1, a2⟩ := mc_mc hI hS hT hH ht hb ch (κ.2.2.1 0) (Nat.le_refl _)
  unfold ocM opMean; rw [a1, a2]
theorem upc_1 {cs : Nat → CT} {q : Nat} : cs = upc cs q (cs q) := upc_self.symm
theorem upc_12 {cs : Nat → CT} : cs = upc (upc cs 1 (cs 1)) 2 (cs 2) := by rw [upc_self, upc_self]
theorem WV_1 {κ : CS} {cs : Nat → CT} {t : CT} (h : WV κ cs) (ht : ShC κ t) : WV κ (upc cs 1 t) := ⟨by rw [upc_ne (by decide)]; exact h.1, by rw [upc_eq]; exact ht, by rw [upc_ne (by decide)]; exact h.2.2⟩
theorem WV_12 {κ : CS} {cs : Nat → CT} {t b : CT} (h : WV κ cs) (ht : ShC κ t) (hb : ShC κ b) : WV κ (upc (upc cs 1 t) 2 b) := ⟨by rw [upc_ne (by decide), upc_ne (by decide)]; exact h.1, by rw [upc_ne (by decide), upc_eq]; exact ht, by rw [upc_eq]; exact hb⟩
set_option maxHeartbeats 4000000 in
set_option maxRecDepth 100000 in
theorem tL_makeRoot (l : Launch) (D : va_G) (g : Nat → ClassId) (A : Nat → Prop) (ad : Nat → Nat → Nat) (κ : CS) (X : XT) (cs : Nat → CT) (lf : Nat → Int64) (pr : PT) (o : Nat) (f : Nat → Int64) (nm : Int32) (dy : Int32) (ln : Int32) (htr : l.stackTraces = false) (hV : IV κ X) (hw : WV κ cs) (hk : κ.2.2.1 1 ≤ κ.2.2.1 0) (hd : κ.2.2.1 2 + 999 < 2147483648) : Met l yL_makeRoot (wsH yL_makeRoot cL_makeRoot 6 (some .int) [(0, 12, 15, 13), (0, 12, 19, 15)]) ({ frames := 8, cells := 7, slots := 42, locals := 134 } : Room) (va_Pc [.ref (ad 0 0), .int nm, .int dy, .int ln, .ref o] (PRE D g A (iW ad g κ X cs lf pr ++ [(o, .inl (g 1, 1, .inr (.inl f)))]))) (va_Qi (fun (r : Int32) (u : US) => AP ad ((opMakeRoot κ nm dy ln).2.2) ((opMakeRoot κ nm dy ln).1) ((opMakeRoot κ nm dy ln).2.1.toInt64) r u) (fun u => PO D A (iW u.1 g ((opMakeRoot κ nm dy ln).2.2) u.2.1 u.2.2.1 u.2.2.2.1 u.2.2.2.2.1 ++ [(o, .inl (g 1, 1, .inr (.inl u.2.2.2.2.2)))])) A) 7 42 A := by
  refine metH (by decide) (Nat.le_of_ble_eq_true rfl) ?_
  intro p e s m args below meth c _ htb cx
  refine J_aload cx dL_makeRoot_0 4 rfl ?_
  refine J_iconst cx (v := nI 0) dL_makeRoot_2 (by decide) ?_
  refine J_aload_n cx dL_makeRoot_3 rfl 0 rfl ?_
  refine J_iload_n cx dL_makeRoot_4 rfl 1 rfl ?_
  refine J_iload_n cx dL_makeRoot_5 rfl 2 rfl ?_
  refine J_iload_n cx dL_makeRoot_6 rfl 3 rfl ?_
  refine J_hcallVi cx htb kL_7 (As := [.int nm, .int dy, .int ln]) (frX (w := iW ad g κ X cs lf pr) (wr := [(o, .inl (g 1, 1, .inr (.inl f)))]) (wx := iW ad g κ X cs lf pr) (wx2 := iW ad g κ X cs lf pr ++ [(o, .inl (g 1, 1, .inr (.inl f)))]) (List.Perm.refl _) (List.Perm.refl _) (qI (W2 := fun u9 => iW u9 g ((opMakeRoot κ nm dy ln).2.2) (enX (hlX X (κ.2.2.1 1) nm) (κ.2.2.1 0) (κ.2.2.1 1) (κ.2.2.1 1)) (fun q => nrC (cs q)) lf pr ++ [(o, .inl (g 1, 1, .inr (.inl f)))]) (fun _ => List.Perm.refl _)) (tX6_makeRoot l D g _ ad κ X cs lf pr nm dy ln htr hV.1 hk hV.2.2.2.2.1 hV.hHe hw.hCq )) ⟨rfl, rfl, by first | decide | (simp only [rmB, rmQ, rmJ, rmL]; omega), by first | decide | (simp only [rmB, rmQ, rmJ, rmL]; omega)⟩ ⟨by decide, by decide⟩ rfl 0 rfl rfl rfl (Nat.le_of_ble_eq_true rfl) dL_makeRoot_7 (fun E q9 hE => ?_) (fun r9 u9 hr => ?_)
  · rcases thr2 hE with ⟨hc1, hEq⟩ | ⟨hc1, hEq⟩
    · subst hEq
      refine ⟨15, ⟨[], ⟨0, 12, 15, 13⟩, [⟨0, 12, 19, 15⟩], _, rfl, (fun _ h => nomatch h), by decide, by decide, lL_13, cstIAE, rfl⟩, ?_⟩
      refine J_astore cx (L' := [(5, .ref q9), (0, .ref (ad 0 0)), (1, .int nm), (2, .int dy), (3, .int ln), (4, .ref o)]) dL_makeRoot_15 (by decide) rfl ?_
      refine J_iconst cx (v := nI 1) dL_makeRoot_17 (by decide) ?_
      refine J_x ?_
      exact J_iret cx rfl (u := ((ad, X, cs, lf, pr, f) : US)) ⟨by rw [hc1], by rw [hc1]; decide, fun q => absurd (hc1.symm.trans q) (by decide), rfl, by rw [no_root (by rw [hc1]; decide)]; exact ⟨hV, hw, hk⟩⟩ (by rw [no_root (by rw [hc1]; decide)]) (Nat.le_of_ble_eq_true rfl) (Nat.le_of_ble_eq_true rfl) dL_makeRoot_18
    · subst hEq
      refine ⟨19, ⟨[⟨0, 12, 15, 13⟩], ⟨0, 12, 19, 15⟩, [], _, rfl, (List.forall_mem_cons.mpr ⟨⟨by decide, "java/lang/IllegalArgumentException", lL_13, by decide, by decide, by decide⟩, (fun _ h => nomatch h)⟩), by decide, by decide, lL_15, cstISE, rfl⟩, ?_⟩
      refine J_astore cx (L' := [(5, .ref q9), (0, .ref (ad 0 0)), (1, .int nm), (2, .int dy), (3, .int ln), (4, .ref o)]) dL_makeRoot_19 (by decide) rfl ?_
      refine J_iconst cx (v := nI 2) dL_makeRoot_21 (by decide) ?_
      refine J_x ?_
      exact J_iret cx rfl (u := ((ad, X, cs, lf, pr, f) : US)) ⟨by rw [hc1], by rw [hc1]; decide, fun q => absurd (hc1.symm.trans q) (by decide), rfl, by rw [no_root (by rw [hc1]; decide)]; exact ⟨hV, hw, hk⟩⟩ (by rw [no_root (by rw [hc1]; decide)]) (Nat.le_of_ble_eq_true rfl) (Nat.le_of_ble_eq_true rfl) dL_makeRoot_22
  · obtain ⟨hc0, hr, u9_0⟩ := hr; subst hr
    refine J_i2l cx (v := ((opMakeRoot κ nm dy ln).2.1).toInt64) dL_makeRoot_10 rfl ?_
    refine J_last cx (ws' := (iW u9 g ((opMakeRoot κ nm dy ln).2.2) (enX (hlX X (κ.2.2.1 1) nm) (κ.2.2.1 0) (κ.2.2.1 1) (κ.2.2.1 1)) (fun q => nrC (cs q)) lf pr ++ [(o, .inl (g 1, 1, .inr (.inl (vp_updL f 0 (((opMakeRoot κ nm dy ln).2.1).toInt64)))))])) (j := 0) (iW u9 g ((opMakeRoot κ nm dy ln).2.2) (enX (hlX X (κ.2.2.1 1) nm) (κ.2.2.1 0) (κ.2.2.1 1) (κ.2.2.1 1)) (fun q => nrC (cs q)) lf pr).length at_end  rfl (by decide) (by decide) set_end dL_makeRoot_11 ?_
    refine J_goto cx (tgt := 23) dL_makeRoot_12 (by decide) ?_
    refine J_iconst cx (v := nI 0) dL_makeRoot_23 (by decide) ?_
    refine J_x ?_
    exact J_iret cx rfl (u := ((u9, enX (hlX X (κ.2.2.1 1) nm) (κ.2.2.1 0) (κ.2.2.1 1) (κ.2.2.1 1), fun q => nrC (cs q), lf, pr, vp_updL f 0 (((opMakeRoot κ nm dy ln).2.1).toInt64)) : US)) ⟨by rw [hc0], by rw [hc0]; decide, fun _ => (vu0 (f := f) (v := (((opMakeRoot κ nm dy ln).2.1).toInt64))), u9_0, (by obtain ⟨m1, m2, m3, _⟩ := mk_root hV hw hk (by omega) hc0; exact ⟨m1, m2, m3⟩)⟩ rfl (Nat.le_of_ble_eq_true rfl) (Nat.le_of_ble_eq_true rfl) dL_makeRoot_24
set_option maxHeartbeats 4000000 in
set_option maxRecDepth 100000 in
theorem tL_issue (l : Launch) (D : va_G) (g : Nat → ClassId) (A : Nat → Prop) (ad : Nat → Nat → Nat) (κ : CS) (X : XT) (cs : Nat → CT) (lf : Nat → Int64) (pr : PT) (o : Nat) (f : Nat → Int64) (xc : Int32) (nm : Int32) (dy : Int32) (htr : l.stackTraces = false) (hV : IV κ X) (hw : WV κ cs) (hk : κ.2.2.1 1 ≤ κ.2.2.1 0) (hd : κ.2.2.1 2 + 999 < 2147483648) : Met l yL_issue (wsH yL_issue cL_issue 6 (some .int) [(0, 12, 15, 20), (0, 12, 19, 13), (0, 12, 23, 15)]) ({ frames := 8, cells := 8, slots := 48, locals := 136 } : Room) (va_Pc [.ref (ad 0 0), .int xc, .int nm, .int dy, .ref o] (PRE D g A (iW ad g κ X cs lf pr ++ [(o, .inl (g 1, 1, .inr (.inl f)))]))) (va_Qi (fun (r : Int32) (u : US) => AP ad ((opIssue κ xc nm dy).2.2) ((opIssue κ xc nm dy).1) ((opIssue κ xc nm dy).2.1.toInt64) r u) (fun u => PO D A (iW u.1 g ((opIssue κ xc nm dy).2.2) u.2.1 u.2.2.1 u.2.2.2.1 u.2.2.2.2.1 ++ [(o, .inl (g 1, 1, .inr (.inl u.2.2.2.2.2)))])) A) 8 48 A := by
  refine metH (by decide) (Nat.le_of_ble_eq_true rfl) ?_
  intro p e s m args below meth c _ htb cx
  refine J_aload cx dL_issue_0 4 rfl ?_
  refine J_iconst cx (v := nI 0) dL_issue_2 (by decide) ?_
  refine J_aload_n cx dL_issue_3 rfl 0 rfl ?_
  refine J_iload_n cx dL_issue_4 rfl 1 rfl ?_
  refine J_iload_n cx dL_issue_5 rfl 2 rfl ?_
  refine J_iload_n cx dL_issue_6 rfl 3 rfl ?_
  refine J_hcallVi cx htb kL_17 (As := [.int xc, .int nm, .int dy]) (frX (w := iW ad g κ X cs lf pr) (wr := [(o, .inl (g 1, 1, .inr (.inl f)))]) (wx := iW ad g κ X cs lf pr) (wx2 := iW ad g κ X cs lf pr ++ [(o, .inl (g 1, 1, .inr (.inl f)))]) (List.Perm.refl _) (List.Perm.refl _) (qI (W2 := fun u9 => iW u9 g ((opIssue κ xc nm dy).2.2) (enX (hlX X (κ.2.2.1 1) nm) (κ.2.2.1 0) (κ.2.2.1 1) (X.1 (xj xc))) (fun q => nrC (cs q)) lf pr ++ [(o, .inl (g 1, 1, .inr (.inl f)))]) (fun _ => List.Perm.refl _)) (tX6_issue l D g _ ad κ X cs lf pr xc nm dy htr hV.1 hk hV.2.2.2.2.1 hV.hHe hw.hCq hV.2.2.2.1)) ⟨rfl, rfl, by first | decide | (simp only [rmB, rmQ, rmJ, rmL]; omega), by first | decide | (simp only [rmB, rmQ, rmJ, rmL]; omega)⟩ ⟨by decide, by decide⟩ rfl 0 rfl rfl rfl (Nat.le_of_ble_eq_true rfl) dL_issue_7 (fun E q9 hE => ?_) (fun r9 u9 hr => ?_)
  · rcases thr3 hE with ⟨hc1, hEq⟩ | ⟨hc1, hEq⟩ | ⟨hc1, hEq⟩
    · subst hEq
      refine ⟨15, ⟨[], ⟨0, 12, 15, 20⟩, [⟨0, 12, 19, 13⟩, ⟨0, 12, 23, 15⟩], _, rfl, (fun _ h => nomatch h), by decide, by decide, lL_20, cstNSE, rfl⟩, ?_⟩
      refine J_astore cx (L' := [(5, .ref q9), (0, .ref (ad 0 0)), (1, .int xc), (2, .int nm), (3, .int dy), (4, .ref o)]) dL_issue_15 (by decide) rfl ?_
      refine J_iconst cx (v := nI 1) dL_issue_17 (by decide) ?_
      refine J_x ?_
      exact J_iret cx rfl (u := ((ad, X, cs, lf, pr, f) : US)) ⟨by rw [hc1], by rw [hc1]; decide, fun q => absurd (hc1.symm.trans q) (by decide), rfl, by rw [no_issue (by rw [hc1]; decide)]; exact ⟨hV, hw, hk⟩⟩ (by rw [no_issue (by rw [hc1]; decide)]) (Nat.le_of_ble_eq_true rfl) (Nat.le_of_ble_eq_true rfl) dL_issue_18
    · subst hEq
      refine ⟨19, ⟨[⟨0, 12, 15, 20⟩], ⟨0, 12, 19, 13⟩, [⟨0, 12, 23, 15⟩], _, rfl, (List.forall_mem_cons.mpr ⟨⟨by decide, "java/util/NoSuchElementException", lL_20, by decide, by decide, by decide⟩, (fun _ h => nomatch h)⟩), by decide, by decide, lL_13, cstIAE, rfl⟩, ?_⟩
      refine J_astore cx (L' := [(5, .ref q9), (0, .ref (ad 0 0)), (1, .int xc), (2, .int nm), (3, .int dy), (4, .ref o)]) dL_issue_19 (by decide) rfl ?_
      refine J_iconst cx (v := nI 2) dL_issue_21 (by decide) ?_
      refine J_x ?_
      exact J_iret cx rfl (u := ((ad, X, cs, lf, pr, f) : US)) ⟨by rw [hc1], by rw [hc1]; decide, fun q => absurd (hc1.symm.trans q) (by decide), rfl, by rw [no_issue (by rw [hc1]; decide)]; exact ⟨hV, hw, hk⟩⟩ (by rw [no_issue (by rw [hc1]; decide)]) (Nat.le_of_ble_eq_true rfl) (Nat.le_of_ble_eq_true rfl) dL_issue_22
    · subst hEq
      refine ⟨23, ⟨[⟨0, 12, 15, 20⟩, ⟨0, 12, 19, 13⟩], ⟨0, 12, 23, 15⟩, [], _, rfl, (List.forall_mem_cons.mpr ⟨⟨by decide, "java/util/NoSuchElementException", lL_20, by decide, by decide, by decide⟩, (List.forall_mem_cons.mpr ⟨⟨by decide, "java/lang/IllegalArgumentException", lL_13, by decide, by decide, by decide⟩, (fun _ h => nomatch h)⟩)⟩), by decide, by decide, lL_15, cstISE, rfl⟩, ?_⟩
      refine J_astore cx (L' := [(5, .ref q9), (0, .ref (ad 0 0)), (1, .int xc), (2, .int nm), (3, .int dy), (4, .ref o)]) dL_issue_23 (by decide) rfl ?_
      refine J_iconst cx (v := nI 3) dL_issue_25 (by decide) ?_
      refine J_x ?_
      exact J_iret cx rfl (u := ((ad, X, cs, lf, pr, f) : US)) ⟨by rw [hc1], by rw [hc1]; decide, fun q => absurd (hc1.symm.trans q) (by decide), rfl, by rw [no_issue (by rw [hc1]; decide)]; exact ⟨hV, hw, hk⟩⟩ (by rw [no_issue (by rw [hc1]; decide)]) (Nat.le_of_ble_eq_true rfl) (Nat.le_of_ble_eq_true rfl) dL_issue_26
  · obtain ⟨hc0, hr, u9_0⟩ := hr; subst hr
    refine J_i2l cx (v := ((opIssue κ xc nm dy).2.1).toInt64) dL_issue_10 rfl ?_
    refine J_last cx (ws' := (iW u9 g ((opIssue κ xc nm dy).2.2) (enX (hlX X (κ.2.2.1 1) nm) (κ.2.2.1 0) (κ.2.2.1 1) (X.1 (xj xc))) (fun q => nrC (cs q)) lf pr ++ [(o, .inl (g 1, 1, .inr (.inl (vp_updL f 0 (((opIssue κ xc nm dy).2.1).toInt64)))))])) (j := 0) (iW u9 g ((opIssue κ xc nm dy).2.2) (enX (hlX X (κ.2.2.1 1) nm) (κ.2.2.1 0) (κ.2.2.1 1) (X.1 (xj xc))) (fun q => nrC (cs q)) lf pr).length at_end  rfl (by decide) (by decide) set_end dL_issue_11 ?_
    refine J_goto cx (tgt := 27) dL_issue_12 (by decide) ?_
    refine J_iconst cx (v := nI 0) dL_issue_27 (by decide) ?_
    refine J_x ?_
    exact J_iret cx rfl (u := ((u9, enX (hlX X (κ.2.2.1 1) nm) (κ.2.2.1 0) (κ.2.2.1 1) (X.1 (xj xc)), fun q => nrC (cs q), lf, pr, vp_updL f 0 (((opIssue κ xc nm dy).2.1).toInt64)) : US)) ⟨by rw [hc0], by rw [hc0]; decide, fun _ => (vu0 (f := f) (v := (((opIssue κ xc nm dy).2.1).toInt64))), u9_0, (by obtain ⟨m1, m2, m3, _⟩ := mk_issue hV hw hk (by omega) hc0; exact ⟨m1, m2, m3⟩)⟩ rfl (Nat.le_of_ble_eq_true rfl) (Nat.le_of_ble_eq_true rfl) dL_issue_28
set_option maxHeartbeats 4000000 in
set_option maxRecDepth 100000 in
theorem tL_issueAuthority (l : Launch) (D : va_G) (g : Nat → ClassId) (A : Nat → Prop) (ad : Nat → Nat → Nat) (κ : CS) (X : XT) (cs : Nat → CT) (lf : Nat → Int64) (pr : PT) (o : Nat) (f : Nat → Int64) (xc : Int32) (nm : Int32) (dy : Int32) (ln : Int32) (htr : l.stackTraces = false) (hV : IV κ X) (hw : WV κ cs) (hk : κ.2.2.1 1 ≤ κ.2.2.1 0) (hd : κ.2.2.1 2 + 999 < 2147483648) : Met l yL_issueAuthority (wsH yL_issueAuthority cL_issueAuthority 7 (some .int) [(0, 14, 17, 20), (0, 14, 21, 13), (0, 14, 25, 15)]) ({ frames := 8, cells := 9, slots := 54, locals := 137 } : Room) (va_Pc [.ref (ad 0 0), .int xc, .int nm, .int dy, .int ln, .ref o] (PRE D g A (iW ad g κ X cs lf pr ++ [(o, .inl (g 1, 1, .inr (.inl f)))]))) (va_Qi (fun (r : Int32) (u : US) => AP ad ((opIssueA κ xc nm dy ln).2.2) ((opIssueA κ xc nm dy ln).1) ((opIssueA κ xc nm dy ln).2.1.toInt64) r u) (fun u => PO D A (iW u.1 g ((opIssueA κ xc nm dy ln).2.2) u.2.1 u.2.2.1 u.2.2.2.1 u.2.2.2.2.1 ++ [(o, .inl (g 1, 1, .inr (.inl u.2.2.2.2.2)))])) A) 9 54 A := by
  refine metH (by decide) (Nat.le_of_ble_eq_true rfl) ?_
  intro p e s m args below meth c _ htb cx
  refine J_aload cx dL_issueAuthority_0 5 rfl ?_
  refine J_iconst cx (v := nI 0) dL_issueAuthority_2 (by decide) ?_
  refine J_aload_n cx dL_issueAuthority_3 rfl 0 rfl ?_
  refine J_iload_n cx dL_issueAuthority_4 rfl 1 rfl ?_
  refine J_iload_n cx dL_issueAuthority_5 rfl 2 rfl ?_
  refine J_iload_n cx dL_issueAuthority_6 rfl 3 rfl ?_
  refine J_iload cx dL_issueAuthority_7 4 rfl ?_
  refine J_hcallVi cx htb kL_22 (As := [.int xc, .int nm, .int dy, .int ln]) (frX (w := iW ad g κ X cs lf pr) (wr := [(o, .inl (g 1, 1, .inr (.inl f)))]) (wx := iW ad g κ X cs lf pr) (wx2 := iW ad g κ X cs lf pr ++ [(o, .inl (g 1, 1, .inr (.inl f)))]) (List.Perm.refl _) (List.Perm.refl _) (qI (W2 := fun u9 => iW u9 g ((opIssueA κ xc nm dy ln).2.2) (enX (hlX X (κ.2.2.1 1) nm) (κ.2.2.1 0) (κ.2.2.1 1) (X.1 (xj xc))) (fun q => nrC (cs q)) lf pr ++ [(o, .inl (g 1, 1, .inr (.inl f)))]) (fun _ => List.Perm.refl _)) (tX6_issueAuthority l D g _ ad κ X cs lf pr xc nm dy ln htr hV.1 hk hV.2.2.2.2.1 hV.hHe hw.hCq hV.2.2.2.1)) ⟨rfl, rfl, by first | decide | (simp only [rmB, rmQ, rmJ, rmL]; omega), by first | decide | (simp only [rmB, rmQ, rmJ, rmL]; omega)⟩ ⟨by decide, by decide⟩ rfl 0 rfl rfl rfl (Nat.le_of_ble_eq_true rfl) dL_issueAuthority_9 (fun E q9 hE => ?_) (fun r9 u9 hr => ?_)
  · rcases thr3 hE with ⟨hc1, hEq⟩ | ⟨hc1, hEq⟩ | ⟨hc1, hEq⟩
    · subst hEq
      refine ⟨17, ⟨[], ⟨0, 14, 17, 20⟩, [⟨0, 14, 21, 13⟩, ⟨0, 14, 25, 15⟩], _, rfl, (fun _ h => nomatch h), by decide, by decide, lL_20, cstNSE, rfl⟩, ?_⟩
      refine J_astore cx (L' := [(6, .ref q9), (0, .ref (ad 0 0)), (1, .int xc), (2, .int nm), (3, .int dy), (4, .int ln), (5, .ref o)]) dL_issueAuthority_17 (by decide) rfl ?_
      refine J_iconst cx (v := nI 1) dL_issueAuthority_19 (by decide) ?_
      refine J_x ?_
      exact J_iret cx rfl (u := ((ad, X, cs, lf, pr, f) : US)) ⟨by rw [hc1], by rw [hc1]; decide, fun q => absurd (hc1.symm.trans q) (by decide), rfl, by rw [no_issueA (by rw [hc1]; decide)]; exact ⟨hV, hw, hk⟩⟩ (by rw [no_issueA (by rw [hc1]; decide)]) (Nat.le_of_ble_eq_true rfl) (Nat.le_of_ble_eq_true rfl) dL_issueAuthority_20
    · subst hEq
      refine ⟨21, ⟨[⟨0, 14, 17, 20⟩], ⟨0, 14, 21, 13⟩, [⟨0, 14, 25, 15⟩], _, rfl, (List.forall_mem_cons.mpr ⟨⟨by decide, "java/util/NoSuchElementException", lL_20, by decide, by decide, by decide⟩, (fun _ h => nomatch h)⟩), by decide, by decide, lL_13, cstIAE, rfl⟩, ?_⟩
      refine J_astore cx (L' := [(6, .ref q9), (0, .ref (ad 0 0)), (1, .int xc), (2, .int nm), (3, .int dy), (4, .int ln), (5, .ref o)]) dL_issueAuthority_21 (by decide) rfl ?_
      refine J_iconst cx (v := nI 2) dL_issueAuthority_23 (by decide) ?_
      refine J_x ?_
      exact J_iret cx rfl (u := ((ad, X, cs, lf, pr, f) : US)) ⟨by rw [hc1], by rw [hc1]; decide, fun q => absurd (hc1.symm.trans q) (by decide), rfl, by rw [no_issueA (by rw [hc1]; decide)]; exact ⟨hV, hw, hk⟩⟩ (by rw [no_issueA (by rw [hc1]; decide)]) (Nat.le_of_ble_eq_true rfl) (Nat.le_of_ble_eq_true rfl) dL_issueAuthority_24
    · subst hEq
      refine ⟨25, ⟨[⟨0, 14, 17, 20⟩, ⟨0, 14, 21, 13⟩], ⟨0, 14, 25, 15⟩, [], _, rfl, (List.forall_mem_cons.mpr ⟨⟨by decide, "java/util/NoSuchElementException", lL_20, by decide, by decide, by decide⟩, (List.forall_mem_cons.mpr ⟨⟨by decide, "java/lang/IllegalArgumentException", lL_13, by decide, by decide, by decide⟩, (fun _ h => nomatch h)⟩)⟩), by decide, by decide, lL_15, cstISE, rfl⟩, ?_⟩
      refine J_astore cx (L' := [(6, .ref q9), (0, .ref (ad 0 0)), (1, .int xc), (2, .int nm), (3, .int dy), (4, .int ln), (5, .ref o)]) dL_issueAuthority_25 (by decide) rfl ?_
      refine J_iconst cx (v := nI 3) dL_issueAuthority_27 (by decide) ?_
      refine J_x ?_
      exact J_iret cx rfl (u := ((ad, X, cs, lf, pr, f) : US)) ⟨by rw [hc1], by rw [hc1]; decide, fun q => absurd (hc1.symm.trans q) (by decide), rfl, by rw [no_issueA (by rw [hc1]; decide)]; exact ⟨hV, hw, hk⟩⟩ (by rw [no_issueA (by rw [hc1]; decide)]) (Nat.le_of_ble_eq_true rfl) (Nat.le_of_ble_eq_true rfl) dL_issueAuthority_28
  · obtain ⟨hc0, hr, u9_0⟩ := hr; subst hr
    refine J_i2l cx (v := ((opIssueA κ xc nm dy ln).2.1).toInt64) dL_issueAuthority_12 rfl ?_
    refine J_last cx (ws' := (iW u9 g ((opIssueA κ xc nm dy ln).2.2) (enX (hlX X (κ.2.2.1 1) nm) (κ.2.2.1 0) (κ.2.2.1 1) (X.1 (xj xc))) (fun q => nrC (cs q)) lf pr ++ [(o, .inl (g 1, 1, .inr (.inl (vp_updL f 0 (((opIssueA κ xc nm dy ln).2.1).toInt64)))))])) (j := 0) (iW u9 g ((opIssueA κ xc nm dy ln).2.2) (enX (hlX X (κ.2.2.1 1) nm) (κ.2.2.1 0) (κ.2.2.1 1) (X.1 (xj xc))) (fun q => nrC (cs q)) lf pr).length at_end  rfl (by decide) (by decide) set_end dL_issueAuthority_13 ?_
    refine J_goto cx (tgt := 29) dL_issueAuthority_14 (by decide) ?_
    refine J_iconst cx (v := nI 0) dL_issueAuthority_29 (by decide) ?_
    refine J_x ?_
    exact J_iret cx rfl (u := ((u9, enX (hlX X (κ.2.2.1 1) nm) (κ.2.2.1 0) (κ.2.2.1 1) (X.1 (xj xc)), fun q => nrC (cs q), lf, pr, vp_updL f 0 (((opIssueA κ xc nm dy ln).2.1).toInt64)) : US)) ⟨by rw [hc0], by rw [hc0]; decide, fun _ => (vu0 (f := f) (v := (((opIssueA κ xc nm dy ln).2.1).toInt64))), u9_0, (by obtain ⟨m1, m2, m3, _⟩ := mk_issueA hV hw hk (by omega) hc0; exact ⟨m1, m2, m3⟩)⟩ rfl (Nat.le_of_ble_eq_true rfl) (Nat.le_of_ble_eq_true rfl) dL_issueAuthority_30
set_option maxHeartbeats 4000000 in
set_option maxRecDepth 100000 in
theorem tL_cross (l : Launch) (D : va_G) (g : Nat → ClassId) (A : Nat → Prop) (ad : Nat → Nat → Nat) (κ : CS) (X : XT) (cs : Nat → CT) (lf : Nat → Int64) (pr : PT) (o : Nat) (f : Nat → Int64) (xc : Int32) (xs : Int32) (dy : Int32) (ln : Int32) (htr : l.stackTraces = false) (hV : IV κ X) (hw : WV κ cs) (hk : κ.2.2.1 1 ≤ κ.2.2.1 0) (hd : κ.2.2.1 2 + 999 < 2147483648) : Met l yL_cross (wsH yL_cross cL_cross 7 (some .int) [(0, 14, 17, 20), (0, 14, 21, 13), (0, 14, 25, 15)]) ({ frames := 8, cells := 9, slots := 59, locals := 138 } : Room) (va_Pc [.ref (ad 0 0), .int xc, .int xs, .int dy, .int ln, .ref o] (PRE D g A (iW ad g κ X cs lf pr ++ [(o, .inl (g 1, 1, .inr (.inl f)))]))) (va_Qi (fun (r : Int32) (u : US) => AP ad ((opCross κ xc xs dy ln).2.2) ((opCross κ xc xs dy ln).1) ((opCross κ xc xs dy ln).2.1.toInt64) r u) (fun u => PO D A (iW u.1 g ((opCross κ xc xs dy ln).2.2) u.2.1 u.2.2.1 u.2.2.2.1 u.2.2.2.2.1 ++ [(o, .inl (g 1, 1, .inr (.inl u.2.2.2.2.2)))])) A) 9 59 A := by
  refine metH (by decide) (Nat.le_of_ble_eq_true rfl) ?_
  intro p e s m args below meth c _ htb cx
  refine J_aload cx dL_cross_0 5 rfl ?_
  refine J_iconst cx (v := nI 0) dL_cross_2 (by decide) ?_
  refine J_aload_n cx dL_cross_3 rfl 0 rfl ?_
  refine J_iload_n cx dL_cross_4 rfl 1 rfl ?_
  refine J_iload_n cx dL_cross_5 rfl 2 rfl ?_
  refine J_iload_n cx dL_cross_6 rfl 3 rfl ?_
  refine J_iload cx dL_cross_7 4 rfl ?_
  refine J_hcallVi cx htb kL_26 (As := [.int xc, .int xs, .int dy, .int ln]) (frX (w := iW ad g κ X cs lf pr) (wr := [(o, .inl (g 1, 1, .inr (.inl f)))]) (wx := iW ad g κ X cs lf pr) (wx2 := iW ad g κ X cs lf pr ++ [(o, .inl (g 1, 1, .inr (.inl f)))]) (List.Perm.refl _) (List.Perm.refl _) (qI (W2 := fun u9 => iW u9 g ((opCross κ xc xs dy ln).2.2) (enX X (κ.2.2.1 0) (X.1 (xj xs)) (X.1 (xj xc))) (fun q => nrC (cs q)) lf pr ++ [(o, .inl (g 1, 1, .inr (.inl f)))]) (fun _ => List.Perm.refl _)) (tX6_cross l D g _ ad κ X cs lf pr xc xs dy ln htr hV.1 hk hV.2.2.2.2.1 hV.hHe hw.hCq hV.2.2.2.1 hV.2.1 hV.2.2.1)) ⟨rfl, rfl, by first | decide | (simp only [rmB, rmQ, rmJ, rmL]; omega), by first | decide | (simp only [rmB, rmQ, rmJ, rmL]; omega)⟩ ⟨by decide, by decide⟩ rfl 0 rfl rfl rfl (Nat.le_of_ble_eq_true rfl) dL_cross_9 (fun E q9 hE => ?_) (fun r9 u9 hr => ?_)
  · rcases thr3 hE with ⟨hc1, hEq⟩ | ⟨hc1, hEq⟩ | ⟨hc1, hEq⟩
    · subst hEq
      refine ⟨17, ⟨[], ⟨0, 14, 17, 20⟩, [⟨0, 14, 21, 13⟩, ⟨0, 14, 25, 15⟩], _, rfl, (fun _ h => nomatch h), by decide, by decide, lL_20, cstNSE, rfl⟩, ?_⟩
      refine J_astore cx (L' := [(6, .ref q9), (0, .ref (ad 0 0)), (1, .int xc), (2, .int xs), (3, .int dy), (4, .int ln), (5, .ref o)]) dL_cross_17 (by decide) rfl ?_
      refine J_iconst cx (v := nI 1) dL_cross_19 (by decide) ?_
      refine J_x ?_
      exact J_iret cx rfl (u := ((ad, X, cs, lf, pr, f) : US)) ⟨by rw [hc1], by rw [hc1]; decide, fun q => absurd (hc1.symm.trans q) (by decide), rfl, by rw [no_cross (by rw [hc1]; decide)]; exact ⟨hV, hw, hk⟩⟩ (by rw [no_cross (by rw [hc1]; decide)]) (Nat.le_of_ble_eq_true rfl) (Nat.le_of_ble_eq_true rfl) dL_cross_20
    · subst hEq
      refine ⟨21, ⟨[⟨0, 14, 17, 20⟩], ⟨0, 14, 21, 13⟩, [⟨0, 14, 25, 15⟩], _, rfl, (List.forall_mem_cons.mpr ⟨⟨by decide, "java/util/NoSuchElementException", lL_20, by decide, by decide, by decide⟩, (fun _ h => nomatch h)⟩), by decide, by decide, lL_13, cstIAE, rfl⟩, ?_⟩
      refine J_astore cx (L' := [(6, .ref q9), (0, .ref (ad 0 0)), (1, .int xc), (2, .int xs), (3, .int dy), (4, .int ln), (5, .ref o)]) dL_cross_21 (by decide) rfl ?_
      refine J_iconst cx (v := nI 2) dL_cross_23 (by decide) ?_
      refine J_x ?_
      exact J_iret cx rfl (u := ((ad, X, cs, lf, pr, f) : US)) ⟨by rw [hc1], by rw [hc1]; decide, fun q => absurd (hc1.symm.trans q) (by decide), rfl, by rw [no_cross (by rw [hc1]; decide)]; exact ⟨hV, hw, hk⟩⟩ (by rw [no_cross (by rw [hc1]; decide)]) (Nat.le_of_ble_eq_true rfl) (Nat.le_of_ble_eq_true rfl) dL_cross_24
    · subst hEq
      refine ⟨25, ⟨[⟨0, 14, 17, 20⟩, ⟨0, 14, 21, 13⟩], ⟨0, 14, 25, 15⟩, [], _, rfl, (List.forall_mem_cons.mpr ⟨⟨by decide, "java/util/NoSuchElementException", lL_20, by decide, by decide, by decide⟩, (List.forall_mem_cons.mpr ⟨⟨by decide, "java/lang/IllegalArgumentException", lL_13, by decide, by decide, by decide⟩, (fun _ h => nomatch h)⟩)⟩), by decide, by decide, lL_15, cstISE, rfl⟩, ?_⟩
      refine J_astore cx (L' := [(6, .ref q9), (0, .ref (ad 0 0)), (1, .int xc), (2, .int xs), (3, .int dy), (4, .int ln), (5, .ref o)]) dL_cross_25 (by decide) rfl ?_
      refine J_iconst cx (v := nI 3) dL_cross_27 (by decide) ?_
      refine J_x ?_
      exact J_iret cx rfl (u := ((ad, X, cs, lf, pr, f) : US)) ⟨by rw [hc1], by rw [hc1]; decide, fun q => absurd (hc1.symm.trans q) (by decide), rfl, by rw [no_cross (by rw [hc1]; decide)]; exact ⟨hV, hw, hk⟩⟩ (by rw [no_cross (by rw [hc1]; decide)]) (Nat.le_of_ble_eq_true rfl) (Nat.le_of_ble_eq_true rfl) dL_cross_28
  · obtain ⟨hc0, hr, u9_0⟩ := hr; subst hr
    refine J_i2l cx (v := ((opCross κ xc xs dy ln).2.1).toInt64) dL_cross_12 rfl ?_
    refine J_last cx (ws' := (iW u9 g ((opCross κ xc xs dy ln).2.2) (enX X (κ.2.2.1 0) (X.1 (xj xs)) (X.1 (xj xc))) (fun q => nrC (cs q)) lf pr ++ [(o, .inl (g 1, 1, .inr (.inl (vp_updL f 0 (((opCross κ xc xs dy ln).2.1).toInt64)))))])) (j := 0) (iW u9 g ((opCross κ xc xs dy ln).2.2) (enX X (κ.2.2.1 0) (X.1 (xj xs)) (X.1 (xj xc))) (fun q => nrC (cs q)) lf pr).length at_end  rfl (by decide) (by decide) set_end dL_cross_13 ?_
    refine J_goto cx (tgt := 29) dL_cross_14 (by decide) ?_
    refine J_iconst cx (v := nI 0) dL_cross_29 (by decide) ?_
    refine J_x ?_
    exact J_iret cx rfl (u := ((u9, enX X (κ.2.2.1 0) (X.1 (xj xs)) (X.1 (xj xc)), fun q => nrC (cs q), lf, pr, vp_updL f 0 (((opCross κ xc xs dy ln).2.1).toInt64)) : US)) ⟨by rw [hc0], by rw [hc0]; decide, fun _ => (vu0 (f := f) (v := (((opCross κ xc xs dy ln).2.1).toInt64))), u9_0, (by obtain ⟨m1, m2, m3, _⟩ := mk_cross hV hw hk (by omega) hc0; exact ⟨m1, m2, m3⟩)⟩ rfl (Nat.le_of_ble_eq_true rfl) (Nat.le_of_ble_eq_true rfl) dL_cross_30
set_option maxHeartbeats 4000000 in
set_option maxRecDepth 100000 in
theorem tL_setNames (l : Launch) (D : va_G) (g : Nat → ClassId) (A : Nat → Prop) (ad : Nat → Nat → Nat) (κ : CS) (X : XT) (cs : Nat → CT) (lf : Nat → Int64) (pr : PT) (o : Nat) (f : Nat → Int64) (xc : Int32) (xp : Int32) (xe : Int32) (htr : l.stackTraces = false) (hV : IV κ X) (hw : WV κ cs) (hk : κ.2.2.1 1 ≤ κ.2.2.1 0) (hd : κ.2.2.1 2 + 999 < 2147483648) : Met l yL_setNames (wsH yL_setNames cL_setNames 6 (some .int) [(0, 12, 15, 20), (0, 12, 19, 13), (0, 12, 23, 15)]) ({ frames := 9, cells := 5, slots := 30, locals := 154 } : Room) (va_Pc [.ref (ad 0 0), .int xc, .int xp, .int xe, .ref o] (PRE D g A (iW ad g κ X cs lf pr ++ [(o, .inl (g 1, 1, .inr (.inl f)))]))) (va_Qi (fun (r : Int32) (u : US) => AP ad ((opSetNames κ xc xp xe).2.2) ((opSetNames κ xc xp xe).1) ((opSetNames κ xc xp xe).2.1.toInt64) r u) (fun u => PO D A (iW u.1 g ((opSetNames κ xc xp xe).2.2) u.2.1 u.2.2.1 u.2.2.2.1 u.2.2.2.2.1 ++ [(o, .inl (g 1, 1, .inr (.inl u.2.2.2.2.2)))])) A) 5 30 A := by
  refine metH (by decide) (Nat.le_of_ble_eq_true rfl) ?_
  intro p e s m args below meth c _ htb cx
  refine J_aload cx dL_setNames_0 4 rfl ?_
  refine J_iconst cx (v := nI 0) dL_setNames_2 (by decide) ?_
  refine J_aload_n cx dL_setNames_3 rfl 0 rfl ?_
  refine J_iload_n cx dL_setNames_4 rfl 1 rfl ?_
  refine J_iload_n cx dL_setNames_5 rfl 2 rfl ?_
  refine J_iload_n cx dL_setNames_6 rfl 3 rfl ?_
  refine J_hcallVi cx htb kL_29 (As := [.int xc, .int xp, .int xe]) (frX (w := iW ad g κ X cs lf pr) (wr := [(o, .inl (g 1, 1, .inr (.inl f)))]) (wx := iW ad g κ X cs lf pr) (wx2 := iW ad g κ X cs lf pr ++ [(o, .inl (g 1, 1, .inr (.inl f)))]) (List.Perm.refl _) (List.Perm.refl _) (qI (W2 := fun u9 => iW ad g ((opSetNames κ xc xp xe).2.2) X cs lf pr ++ [(o, .inl (g 1, 1, .inr (.inl f)))]) (fun _ => List.Perm.refl _)) (tX6_setNames l D g _ ad κ X cs lf pr xc xp xe htr hV.1 hV.2.1 hV.2.2.2.1)) ⟨rfl, rfl, by first | decide | (simp only [rmB, rmQ, rmJ, rmL]; omega), by first | decide | (simp only [rmB, rmQ, rmJ, rmL]; omega)⟩ ⟨by decide, by decide⟩ rfl 0 rfl rfl rfl (Nat.le_of_ble_eq_true rfl) dL_setNames_7 (fun E q9 hE => ?_) (fun r9 u9 hr => ?_)
  · rcases thr3 hE with ⟨hc1, hEq⟩ | ⟨hc1, hEq⟩ | ⟨hc1, hEq⟩
    · subst hEq
      refine ⟨15, ⟨[], ⟨0, 12, 15, 20⟩, [⟨0, 12, 19, 13⟩, ⟨0, 12, 23, 15⟩], _, rfl, (fun _ h => nomatch h), by decide, by decide, lL_20, cstNSE, rfl⟩, ?_⟩
      refine J_astore cx (L' := [(5, .ref q9), (0, .ref (ad 0 0)), (1, .int xc), (2, .int xp), (3, .int xe), (4, .ref o)]) dL_setNames_15 (by decide) rfl ?_
      refine J_iconst cx (v := nI 1) dL_setNames_17 (by decide) ?_
      refine J_x ?_
      exact J_iret cx rfl (u := ((ad, X, cs, lf, pr, f) : US)) ⟨by rw [hc1], by rw [hc1]; decide, fun q => absurd (hc1.symm.trans q) (by decide), rfl, by rw [no_setNames (by rw [hc1]; decide)]; exact ⟨hV, hw, hk⟩⟩ (by rw [no_setNames (by rw [hc1]; decide)]) (Nat.le_of_ble_eq_true rfl) (Nat.le_of_ble_eq_true rfl) dL_setNames_18
    · subst hEq
      refine ⟨19, ⟨[⟨0, 12, 15, 20⟩], ⟨0, 12, 19, 13⟩, [⟨0, 12, 23, 15⟩], _, rfl, (List.forall_mem_cons.mpr ⟨⟨by decide, "java/util/NoSuchElementException", lL_20, by decide, by decide, by decide⟩, (fun _ h => nomatch h)⟩), by decide, by decide, lL_13, cstIAE, rfl⟩, ?_⟩
      refine J_astore cx (L' := [(5, .ref q9), (0, .ref (ad 0 0)), (1, .int xc), (2, .int xp), (3, .int xe), (4, .ref o)]) dL_setNames_19 (by decide) rfl ?_
      refine J_iconst cx (v := nI 2) dL_setNames_21 (by decide) ?_
      refine J_x ?_
      exact J_iret cx rfl (u := ((ad, X, cs, lf, pr, f) : US)) ⟨by rw [hc1], by rw [hc1]; decide, fun q => absurd (hc1.symm.trans q) (by decide), rfl, by rw [no_setNames (by rw [hc1]; decide)]; exact ⟨hV, hw, hk⟩⟩ (by rw [no_setNames (by rw [hc1]; decide)]) (Nat.le_of_ble_eq_true rfl) (Nat.le_of_ble_eq_true rfl) dL_setNames_22
    · subst hEq
      refine ⟨23, ⟨[⟨0, 12, 15, 20⟩, ⟨0, 12, 19, 13⟩], ⟨0, 12, 23, 15⟩, [], _, rfl, (List.forall_mem_cons.mpr ⟨⟨by decide, "java/util/NoSuchElementException", lL_20, by decide, by decide, by decide⟩, (List.forall_mem_cons.mpr ⟨⟨by decide, "java/lang/IllegalArgumentException", lL_13, by decide, by decide, by decide⟩, (fun _ h => nomatch h)⟩)⟩), by decide, by decide, lL_15, cstISE, rfl⟩, ?_⟩
      refine J_astore cx (L' := [(5, .ref q9), (0, .ref (ad 0 0)), (1, .int xc), (2, .int xp), (3, .int xe), (4, .ref o)]) dL_setNames_23 (by decide) rfl ?_
      refine J_iconst cx (v := nI 3) dL_setNames_25 (by decide) ?_
      refine J_x ?_
      exact J_iret cx rfl (u := ((ad, X, cs, lf, pr, f) : US)) ⟨by rw [hc1], by rw [hc1]; decide, fun q => absurd (hc1.symm.trans q) (by decide), rfl, by rw [no_setNames (by rw [hc1]; decide)]; exact ⟨hV, hw, hk⟩⟩ (by rw [no_setNames (by rw [hc1]; decide)]) (Nat.le_of_ble_eq_true rfl) (Nat.le_of_ble_eq_true rfl) dL_setNames_26
  · obtain ⟨hc0, hr⟩ := hr; subst hr
    refine J_i2l cx (v := ((opSetNames κ xc xp xe).2.1).toInt64) dL_setNames_10 rfl ?_
    refine J_last cx (ws' := (iW ad g ((opSetNames κ xc xp xe).2.2) X cs lf pr ++ [(o, .inl (g 1, 1, .inr (.inl (vp_updL f 0 (((opSetNames κ xc xp xe).2.1).toInt64)))))])) (j := 0) (iW ad g ((opSetNames κ xc xp xe).2.2) X cs lf pr).length at_end  rfl (by decide) (by decide) set_end dL_setNames_11 ?_
    refine J_goto cx (tgt := 27) dL_setNames_12 (by decide) ?_
    refine J_iconst cx (v := nI 0) dL_setNames_27 (by decide) ?_
    refine J_x ?_
    exact J_iret cx rfl (u := ((ad, X, cs, lf, pr, vp_updL f 0 (((opSetNames κ xc xp xe).2.1).toInt64)) : US)) ⟨by rw [hc0], by rw [hc0]; decide, fun _ => (vu0 (f := f) (v := (((opSetNames κ xc xp xe).2.1).toInt64))), rfl, ⟨IV_setNames hV xc xp xe, WV_cong hw (op_same.1 xc xp xe), by rw [op_same.1 xc xp xe]; exact hk⟩⟩ rfl (Nat.le_of_ble_eq_true rfl) (Nat.le_of_ble_eq_true rfl) dL_setNames_28
set_option maxHeartbeats 4000000 in
set_option maxRecDepth 100000 in
theorem tL_trust (l : Launch) (D : va_G) (g : Nat → ClassId) (A : Nat → Prop) (ad : Nat → Nat → Nat) (κ : CS) (X : XT) (cs : Nat → CT) (lf : Nat → Int64) (pr : PT) (o : Nat) (f : Nat → Int64) (xc : Int32) (b : Bool) (htr : l.stackTraces = false) (hV : IV κ X) (hw : WV κ cs) (hk : κ.2.2.1 1 ≤ κ.2.2.1 0) (hd : κ.2.2.1 2 + 999 < 2147483648) : Met l yL_trust (wsH yL_trust cL_trust 5 (some .int) [(0, 10, 13, 20), (0, 10, 17, 15)]) ({ frames := 8, cells := 2, slots := 12, locals := 135 } : Room) (va_Pc [.ref (ad 0 0), .int xc, .int (zb b), .ref o] (PRE D g A (iW ad g κ X cs lf pr ++ [(o, .inl (g 1, 1, .inr (.inl f)))]))) (va_Qi (fun (r : Int32) (u : US) => AP ad ((opTrust κ xc b).2.2) ((opTrust κ xc b).1) ((opTrust κ xc b).2.1.toInt64) r u) (fun u => PO D A (iW u.1 g ((opTrust κ xc b).2.2) u.2.1 u.2.2.1 u.2.2.2.1 u.2.2.2.2.1 ++ [(o, .inl (g 1, 1, .inr (.inl u.2.2.2.2.2)))])) A) 2 12 A := by
  refine metH (by decide) (Nat.le_of_ble_eq_true rfl) ?_
  intro p e s m args below meth c _ htb cx
  refine J_aload_n cx dL_trust_0 rfl 3 rfl ?_
  refine J_iconst cx (v := nI 0) dL_trust_1 (by decide) ?_
  refine J_aload_n cx dL_trust_2 rfl 0 rfl ?_
  refine J_iload_n cx dL_trust_3 rfl 1 rfl ?_
  refine J_iload_n cx dL_trust_4 rfl 2 rfl ?_
  refine J_hcallVi cx htb kL_32 (As := [.int xc, .int (zb b)]) (frX (w := iW ad g κ X cs lf pr) (wr := [(o, .inl (g 1, 1, .inr (.inl f)))]) (wx := iW ad g κ X cs lf pr) (wx2 := iW ad g κ X cs lf pr ++ [(o, .inl (g 1, 1, .inr (.inl f)))]) (List.Perm.refl _) (List.Perm.refl _) (qI (W2 := fun u9 => iW ad g ((opTrust κ xc b).2.2) X cs lf pr ++ [(o, .inl (g 1, 1, .inr (.inl f)))]) (fun _ => List.Perm.refl _)) (tX6_trust l D g _ ad κ X cs lf pr xc b htr hV.1 hV.2.1)) ⟨rfl, rfl, by first | decide | (simp only [rmB, rmQ, rmJ, rmL]; omega), by first | decide | (simp only [rmB, rmQ, rmJ, rmL]; omega)⟩ ⟨by decide, by decide⟩ rfl 0 rfl rfl rfl (Nat.le_of_ble_eq_true rfl) dL_trust_5 (fun E q9 hE => ?_) (fun r9 u9 hr => ?_)
  · rcases thr2 hE with ⟨hc1, hEq⟩ | ⟨hc1, hEq⟩
    · subst hEq
      refine ⟨13, ⟨[], ⟨0, 10, 13, 20⟩, [⟨0, 10, 17, 15⟩], _, rfl, (fun _ h => nomatch h), by decide, by decide, lL_20, cstNSE, rfl⟩, ?_⟩
      refine J_astore cx (L' := [(4, .ref q9), (0, .ref (ad 0 0)), (1, .int xc), (2, .int (zb b)), (3, .ref o)]) dL_trust_13 (by decide) rfl ?_
      refine J_iconst cx (v := nI 1) dL_trust_15 (by decide) ?_
      refine J_x ?_
      exact J_iret cx rfl (u := ((ad, X, cs, lf, pr, f) : US)) ⟨by rw [hc1], by rw [hc1]; decide, fun q => absurd (hc1.symm.trans q) (by decide), rfl, by rw [no_trust (by rw [hc1]; decide)]; exact ⟨hV, hw, hk⟩⟩ (by rw [no_trust (by rw [hc1]; decide)]) (Nat.le_of_ble_eq_true rfl) (Nat.le_of_ble_eq_true rfl) dL_trust_16
    · subst hEq
      refine ⟨17, ⟨[⟨0, 10, 13, 20⟩], ⟨0, 10, 17, 15⟩, [], _, rfl, (List.forall_mem_cons.mpr ⟨⟨by decide, "java/util/NoSuchElementException", lL_20, by decide, by decide, by decide⟩, (fun _ h => nomatch h)⟩), by decide, by decide, lL_15, cstISE, rfl⟩, ?_⟩
      refine J_astore cx (L' := [(4, .ref q9), (0, .ref (ad 0 0)), (1, .int xc), (2, .int (zb b)), (3, .ref o)]) dL_trust_17 (by decide) rfl ?_
      refine J_iconst cx (v := nI 2) dL_trust_19 (by decide) ?_
      refine J_x ?_
      exact J_iret cx rfl (u := ((ad, X, cs, lf, pr, f) : US)) ⟨by rw [hc1], by rw [hc1]; decide, fun q => absurd (hc1.symm.trans q) (by decide), rfl, by rw [no_trust (by rw [hc1]; decide)]; exact ⟨hV, hw, hk⟩⟩ (by rw [no_trust (by rw [hc1]; decide)]) (Nat.le_of_ble_eq_true rfl) (Nat.le_of_ble_eq_true rfl) dL_trust_20
  · obtain ⟨hc0, hr⟩ := hr; subst hr
    refine J_i2l cx (v := ((opTrust κ xc b).2.1).toInt64) dL_trust_8 rfl ?_
    refine J_last cx (ws' := (iW ad g ((opTrust κ xc b).2.2) X cs lf pr ++ [(o, .inl (g 1, 1, .inr (.inl (vp_updL f 0 (((opTrust κ xc b).2.1).toInt64)))))])) (j := 0) (iW ad g ((opTrust κ xc b).2.2) X cs lf pr).length at_end  rfl (by decide) (by decide) set_end dL_trust_9 ?_
    refine J_goto cx (tgt := 21) dL_trust_10 (by decide) ?_
    refine J_iconst cx (v := nI 0) dL_trust_21 (by decide) ?_
    refine J_x ?_
    exact J_iret cx rfl (u := ((ad, X, cs, lf, pr, vp_updL f 0 (((opTrust κ xc b).2.1).toInt64)) : US)) ⟨by rw [hc0], by rw [hc0]; decide, fun _ => (vu0 (f := f) (v := (((opTrust κ xc b).2.1).toInt64))), rfl, ⟨IV_trust hV xc b, WV_cong hw (op_same.2.1 xc b), by rw [op_same.2.1 xc b]; exact hk⟩⟩ rfl (Nat.le_of_ble_eq_true rfl) (Nat.le_of_ble_eq_true rfl) dL_trust_22
set_option maxHeartbeats 4000000 in
set_option maxRecDepth 100000 in
theorem tL_revoke (l : Launch) (D : va_G) (g : Nat → ClassId) (A : Nat → Prop) (ad : Nat → Nat → Nat) (κ : CS) (X : XT) (cs : Nat → CT) (lf : Nat → Int64) (pr : PT) (o : Nat) (f : Nat → Int64) (xc : Int32) (htr : l.stackTraces = false) (hV : IV κ X) (hw : WV κ cs) (hk : κ.2.2.1 1 ≤ κ.2.2.1 0) (hd : κ.2.2.1 2 + 999 < 2147483648) : Met l yL_revoke (wsH yL_revoke cL_revoke 4 (some .int) [(0, 9, 12, 20), (0, 9, 15, 15)]) ({ frames := 8, cells := 2, slots := 12, locals := 134 } : Room) (va_Pc [.ref (ad 0 0), .int xc, .ref o] (PRE D g A (iW ad g κ X cs lf pr ++ [(o, .inl (g 1, 1, .inr (.inl f)))]))) (va_Qi (fun (r : Int32) (u : US) => AP ad ((opRevoke κ xc).2.2) ((opRevoke κ xc).1) ((opRevoke κ xc).2.1.toInt64) r u) (fun u => PO D A (iW u.1 g ((opRevoke κ xc).2.2) u.2.1 u.2.2.1 u.2.2.2.1 u.2.2.2.2.1 ++ [(o, .inl (g 1, 1, .inr (.inl u.2.2.2.2.2)))])) A) 2 12 A := by
  refine metH (by decide) (Nat.le_of_ble_eq_true rfl) ?_
  intro p e s m args below meth c _ htb cx
  refine J_aload_n cx dL_revoke_0 rfl 2 rfl ?_
  refine J_iconst cx (v := nI 0) dL_revoke_1 (by decide) ?_
  refine J_aload_n cx dL_revoke_2 rfl 0 rfl ?_
  refine J_iload_n cx dL_revoke_3 rfl 1 rfl ?_
  refine J_hcallVi cx htb kL_36 (As := [.int xc]) (frX (w := iW ad g κ X cs lf pr) (wr := [(o, .inl (g 1, 1, .inr (.inl f)))]) (wx := iW ad g κ X cs lf pr) (wx2 := iW ad g κ X cs lf pr ++ [(o, .inl (g 1, 1, .inr (.inl f)))]) (List.Perm.refl _) (List.Perm.refl _) (qI (W2 := fun u9 => iW ad g ((opRevoke κ xc).2.2) X cs lf pr ++ [(o, .inl (g 1, 1, .inr (.inl f)))]) (fun _ => List.Perm.refl _)) (tX6_revoke l D g _ ad κ X cs lf pr xc htr hV.1 hV.2.1)) ⟨rfl, rfl, by first | decide | (simp only [rmB, rmQ, rmJ, rmL]; omega), by first | decide | (simp only [rmB, rmQ, rmJ, rmL]; omega)⟩ ⟨by decide, by decide⟩ rfl 0 rfl rfl rfl (Nat.le_of_ble_eq_true rfl) dL_revoke_4 (fun E q9 hE => ?_) (fun r9 u9 hr => ?_)
  · rcases thr2 hE with ⟨hc1, hEq⟩ | ⟨hc1, hEq⟩
    · subst hEq
      refine ⟨12, ⟨[], ⟨0, 9, 12, 20⟩, [⟨0, 9, 15, 15⟩], _, rfl, (fun _ h => nomatch h), by decide, by decide, lL_20, cstNSE, rfl⟩, ?_⟩
      refine J_astore_n cx (L' := [(3, .ref q9), (0, .ref (ad 0 0)), (1, .int xc), (2, .ref o)]) dL_revoke_12 rfl (by decide) rfl ?_
      refine J_iconst cx (v := nI 1) dL_revoke_13 (by decide) ?_
      refine J_x ?_
      exact J_iret cx rfl (u := ((ad, X, cs, lf, pr, f) : US)) ⟨by rw [hc1], by rw [hc1]; decide, fun q => absurd (hc1.symm.trans q) (by decide), rfl, by rw [no_revoke (by rw [hc1]; decide)]; exact ⟨hV, hw, hk⟩⟩ (by rw [no_revoke (by rw [hc1]; decide)]) (Nat.le_of_ble_eq_true rfl) (Nat.le_of_ble_eq_true rfl) dL_revoke_14
    · subst hEq
      refine ⟨15, ⟨[⟨0, 9, 12, 20⟩], ⟨0, 9, 15, 15⟩, [], _, rfl, (List.forall_mem_cons.mpr ⟨⟨by decide, "java/util/NoSuchElementException", lL_20, by decide, by decide, by decide⟩, (fun _ h => nomatch h)⟩), by decide, by decide, lL_15, cstISE, rfl⟩, ?_⟩
      refine J_astore_n cx (L' := [(3, .ref q9), (0, .ref (ad 0 0)), (1, .int xc), (2, .ref o)]) dL_revoke_15 rfl (by decide) rfl ?_
      refine J_iconst cx (v := nI 2) dL_revoke_16 (by decide) ?_
      refine J_x ?_
      exact J_iret cx rfl (u := ((ad, X, cs, lf, pr, f) : US)) ⟨by rw [hc1], by rw [hc1]; decide, fun q => absurd (hc1.symm.trans q) (by decide), rfl, by rw [no_revoke (by rw [hc1]; decide)]; exact ⟨hV, hw, hk⟩⟩ (by rw [no_revoke (by rw [hc1]; decide)]) (Nat.le_of_ble_eq_true rfl) (Nat.le_of_ble_eq_true rfl) dL_revoke_17
  · obtain ⟨hc0, hr⟩ := hr; subst hr
    refine J_i2l cx (v := ((opRevoke κ xc).2.1).toInt64) dL_revoke_7 rfl ?_
    refine J_last cx (ws' := (iW ad g ((opRevoke κ xc).2.2) X cs lf pr ++ [(o, .inl (g 1, 1, .inr (.inl (vp_updL f 0 (((opRevoke κ xc).2.1).toInt64)))))])) (j := 0) (iW ad g ((opRevoke κ xc).2.2) X cs lf pr).length at_end  rfl (by decide) (by decide) set_end dL_revoke_8 ?_
    refine J_goto cx (tgt := 18) dL_revoke_9 (by decide) ?_
    refine J_iconst cx (v := nI 0) dL_revoke_18 (by decide) ?_
    refine J_x ?_
    exact J_iret cx rfl (u := ((ad, X, cs, lf, pr, vp_updL f 0 (((opRevoke κ xc).2.1).toInt64)) : US)) ⟨by rw [hc0], by rw [hc0]; decide, fun _ => (vu0 (f := f) (v := (((opRevoke κ xc).2.1).toInt64))), rfl, ⟨IV_revoke hV xc, WV_cong hw (op_same.2.2 xc), by rw [op_same.2.2 xc]; exact hk⟩⟩ rfl (Nat.le_of_ble_eq_true rfl) (Nat.le_of_ble_eq_true rfl) dL_revoke_19
set_option maxHeartbeats 4000000 in
set_option maxRecDepth 100000 in
theorem tL_publish (l : Launch) (D : va_G) (g : Nat → ClassId) (A : Nat → Prop) (ad : Nat → Nat → Nat) (κ : CS) (X : XT) (cs : Nat → CT) (lf : Nat → Int64) (pr : PT) (o : Nat) (f : Nat → Int64) (xc : Int32) (htr : l.stackTraces = false) (hV : IV κ X) (hw : WV κ cs) (hk : κ.2.2.1 1 ≤ κ.2.2.1 0) (hd : κ.2.2.1 2 + 999 < 2147483648) : Met l yL_publish (wsH yL_publish cL_publish 4 (some .int) [(0, 9, 12, 20), (0, 9, 15, 15)]) ({ frames := 8, cells := 2, slots := 12, locals := 135 } : Room) (va_Pc [.ref (ad 0 0), .int xc, .ref o] (PRE D g A (iW ad g κ X cs lf pr ++ [(o, .inl (g 1, 1, .inr (.inl f)))]))) (va_Qi (fun (r : Int32) (u : US) => AP ad ((opPublish κ xc).2.2) ((opPublish κ xc).1) ((opPublish κ xc).2.1.toInt64) r u) (fun u => PO D A (iW u.1 g ((opPublish κ xc).2.2) u.2.1 u.2.2.1 u.2.2.2.1 u.2.2.2.2.1 ++ [(o, .inl (g 1, 1, .inr (.inl u.2.2.2.2.2)))])) A) 2 12 A := by
  refine metH (by decide) (Nat.le_of_ble_eq_true rfl) ?_
  intro p e s m args below meth c _ htb cx
  refine J_aload_n cx dL_publish_0 rfl 2 rfl ?_
  refine J_iconst cx (v := nI 0) dL_publish_1 (by decide) ?_
  refine J_aload_n cx dL_publish_2 rfl 0 rfl ?_
  refine J_iload_n cx dL_publish_3 rfl 1 rfl ?_
  refine J_hcallVi cx htb kL_40 (As := [.int xc]) (frX (w := iW ad g κ X cs lf pr) (wr := [(o, .inl (g 1, 1, .inr (.inl f)))]) (wx := iW ad g κ X cs lf pr) (wx2 := iW ad g κ X cs lf pr ++ [(o, .inl (g 1, 1, .inr (.inl f)))]) (List.Perm.refl _) (List.Perm.refl _) (qI (W2 := fun u9 => iW ad g ((opPublish κ xc).2.2) (pbX κ X xc) cs lf pr ++ [(o, .inl (g 1, 1, .inr (.inl f)))]) (fun _ => List.Perm.refl _)) (tX6_publish l D g _ ad κ X cs lf pr xc htr hV.1 hV.2.1 hV.2.2.2.1 hV.hle)) ⟨rfl, rfl, by first | decide | (simp only [rmB, rmQ, rmJ, rmL]; omega), by first | decide | (simp only [rmB, rmQ, rmJ, rmL]; omega)⟩ ⟨by decide, by decide⟩ rfl 0 rfl rfl rfl (Nat.le_of_ble_eq_true rfl) dL_publish_4 (fun E q9 hE => ?_) (fun r9 u9 hr => ?_)
  · rcases thr2 hE with ⟨hc1, hEq⟩ | ⟨hc1, hEq⟩
    · subst hEq
      refine ⟨12, ⟨[], ⟨0, 9, 12, 20⟩, [⟨0, 9, 15, 15⟩], _, rfl, (fun _ h => nomatch h), by decide, by decide, lL_20, cstNSE, rfl⟩, ?_⟩
      refine J_astore_n cx (L' := [(3, .ref q9), (0, .ref (ad 0 0)), (1, .int xc), (2, .ref o)]) dL_publish_12 rfl (by decide) rfl ?_
      refine J_iconst cx (v := nI 1) dL_publish_13 (by decide) ?_
      refine J_x ?_
      exact J_iret cx rfl (u := ((ad, X, cs, lf, pr, f) : US)) ⟨by rw [hc1], by rw [hc1]; decide, fun q => absurd (hc1.symm.trans q) (by decide), rfl, by rw [no_publish (by rw [hc1]; decide)]; exact ⟨hV, hw, hk⟩⟩ (by rw [no_publish (by rw [hc1]; decide)]) (Nat.le_of_ble_eq_true rfl) (Nat.le_of_ble_eq_true rfl) dL_publish_14
    · subst hEq
      refine ⟨15, ⟨[⟨0, 9, 12, 20⟩], ⟨0, 9, 15, 15⟩, [], _, rfl, (List.forall_mem_cons.mpr ⟨⟨by decide, "java/util/NoSuchElementException", lL_20, by decide, by decide, by decide⟩, (fun _ h => nomatch h)⟩), by decide, by decide, lL_15, cstISE, rfl⟩, ?_⟩
      refine J_astore_n cx (L' := [(3, .ref q9), (0, .ref (ad 0 0)), (1, .int xc), (2, .ref o)]) dL_publish_15 rfl (by decide) rfl ?_
      refine J_iconst cx (v := nI 2) dL_publish_16 (by decide) ?_
      refine J_x ?_
      exact J_iret cx rfl (u := ((ad, X, cs, lf, pr, f) : US)) ⟨by rw [hc1], by rw [hc1]; decide, fun q => absurd (hc1.symm.trans q) (by decide), rfl, by rw [no_publish (by rw [hc1]; decide)]; exact ⟨hV, hw, hk⟩⟩ (by rw [no_publish (by rw [hc1]; decide)]) (Nat.le_of_ble_eq_true rfl) (Nat.le_of_ble_eq_true rfl) dL_publish_17
  · obtain ⟨hc0, hr⟩ := hr; subst hr
    refine J_i2l cx (v := ((opPublish κ xc).2.1).toInt64) dL_publish_7 rfl ?_
    refine J_last cx (ws' := (iW ad g ((opPublish κ xc).2.2) (pbX κ X xc) cs lf pr ++ [(o, .inl (g 1, 1, .inr (.inl (vp_updL f 0 (((opPublish κ xc).2.1).toInt64)))))])) (j := 0) (iW ad g ((opPublish κ xc).2.2) (pbX κ X xc) cs lf pr).length at_end  rfl (by decide) (by decide) set_end dL_publish_8 ?_
    refine J_goto cx (tgt := 18) dL_publish_9 (by decide) ?_
    refine J_iconst cx (v := nI 0) dL_publish_18 (by decide) ?_
    refine J_x ?_
    exact J_iret cx rfl (u := ((ad, pbX κ X xc, cs, lf, pr, vp_updL f 0 (((opPublish κ xc).2.1).toInt64)) : US)) ⟨by rw [hc0], by rw [hc0]; decide, fun _ => (vu0 (f := f) (v := (((opPublish κ xc).2.1).toInt64))), rfl, ⟨IV_publish hV (by omega) xc hc0, WV_cong hw (publish_same xc), by rw [publish_same xc]; exact hk⟩⟩ rfl (Nat.le_of_ble_eq_true rfl) (Nat.le_of_ble_eq_true rfl) dL_publish_19
set_option maxHeartbeats 4000000 in
set_option maxRecDepth 100000 in
theorem tL_pass (l : Launch) (D : va_G) (g : Nat → ClassId) (A : Nat → Prop) (ad : Nat → Nat → Nat) (κ : CS) (X : XT) (cs : Nat → CT) (lf : Nat → Int64) (pr : PT) (o : Nat) (f : Nat → Int64) (dy : Int32) (htr : l.stackTraces = false) (hV : IV κ X) (hw : WV κ cs) (hk : κ.2.2.1 1 ≤ κ.2.2.1 0) (hd : κ.2.2.1 2 + 999 < 2147483648) : Met l yL_pass (wsH yL_pass cL_pass 4 (some .int) [(0, 9, 12, 13)]) ({ frames := 8, cells := 1, slots := 6, locals := 131 } : Room) (va_Pc [.ref (ad 0 0), .int dy, .ref o] (PRE D g A (iW ad g κ X cs lf pr ++ [(o, .inl (g 1, 1, .inr (.inl f)))]))) (va_Qi (fun (r : Int32) (u : US) => AP ad ((opPass κ dy).2.2) ((opPass κ dy).1) ((opPass κ dy).2.1.toInt64) r u) (fun u => PO D A (iW u.1 g ((opPass κ dy).2.2) u.2.1 u.2.2.1 u.2.2.2.1 u.2.2.2.2.1 ++ [(o, .inl (g 1, 1, .inr (.inl u.2.2.2.2.2)))])) A) 1 6 A := by
  refine metH (by decide) (Nat.le_of_ble_eq_true rfl) ?_
  intro p e s m args below meth c _ htb cx
  refine J_aload_n cx dL_pass_0 rfl 2 rfl ?_
  refine J_iconst cx (v := nI 0) dL_pass_1 (by decide) ?_
  refine J_aload_n cx dL_pass_2 rfl 0 rfl ?_
  refine J_iload_n cx dL_pass_3 rfl 1 rfl ?_
  refine J_hcallVi cx htb kL_43 (As := [.int dy]) (frX (w := iW ad g κ X cs lf pr) (wr := [(o, .inl (g 1, 1, .inr (.inl f)))]) (wx := iW ad g κ X cs lf pr) (wx2 := iW ad g κ X cs lf pr ++ [(o, .inl (g 1, 1, .inr (.inl f)))]) (List.Perm.refl _) (List.Perm.refl _) (qI (W2 := fun u9 => iW ad g ((opPass κ dy).2.2) X cs lf pr ++ [(o, .inl (g 1, 1, .inr (.inl f)))]) (fun _ => List.Perm.refl _)) (tX6_pass l D g _ ad κ X cs lf pr dy htr )) ⟨rfl, rfl, by first | decide | (simp only [rmB, rmQ, rmJ, rmL]; omega), by first | decide | (simp only [rmB, rmQ, rmJ, rmL]; omega)⟩ ⟨by decide, by decide⟩ rfl 0 rfl rfl rfl (Nat.le_of_ble_eq_true rfl) dL_pass_4 (fun E q9 hE => ?_) (fun r9 u9 hr => ?_)
  · obtain ⟨hc1, hEq⟩ := thr1 hE
    subst hEq
    refine ⟨12, ⟨[], ⟨0, 9, 12, 13⟩, [], _, rfl, (fun _ h => nomatch h), by decide, by decide, lL_13, cstIAE, rfl⟩, ?_⟩
    refine J_astore_n cx (L' := [(3, .ref q9), (0, .ref (ad 0 0)), (1, .int dy), (2, .ref o)]) dL_pass_12 rfl (by decide) rfl ?_
    refine J_iconst cx (v := nI 1) dL_pass_13 (by decide) ?_
    refine J_x ?_
    exact J_iret cx rfl (u := ((ad, X, cs, lf, pr, f) : US)) ⟨by rw [hc1], by rw [hc1]; decide, fun q => absurd (hc1.symm.trans q) (by decide), rfl, by rw [no_pass (by rw [hc1]; decide)]; exact ⟨hV, hw, hk⟩⟩ (by rw [no_pass (by rw [hc1]; decide)]) (Nat.le_of_ble_eq_true rfl) (Nat.le_of_ble_eq_true rfl) dL_pass_14
  · obtain ⟨hc0, hr⟩ := hr; subst hr
    refine J_i2l cx (v := ((opPass κ dy).2.1).toInt64) dL_pass_7 rfl ?_
    refine J_last cx (ws' := (iW ad g ((opPass κ dy).2.2) X cs lf pr ++ [(o, .inl (g 1, 1, .inr (.inl (vp_updL f 0 (((opPass κ dy).2.1).toInt64)))))])) (j := 0) (iW ad g ((opPass κ dy).2.2) X cs lf pr).length at_end  rfl (by decide) (by decide) set_end dL_pass_8 ?_
    refine J_goto cx (tgt := 15) dL_pass_9 (by decide) ?_
    refine J_iconst cx (v := nI 0) dL_pass_15 (by decide) ?_
    refine J_x ?_
    exact J_iret cx rfl (u := ((ad, X, cs, lf, pr, vp_updL f 0 (((opPass κ dy).2.1).toInt64)) : US)) ⟨by rw [hc0], by rw [hc0]; decide, fun _ => (vu0 (f := f) (v := (((opPass κ dy).2.1).toInt64))), rfl, ⟨IV_pass hV hd dy, WV_pass hw dy, pass_k hk dy⟩⟩ rfl (Nat.le_of_ble_eq_true rfl) (Nat.le_of_ble_eq_true rfl) dL_pass_16
set_option maxHeartbeats 4000000 in
set_option maxRecDepth 100000 in
theorem tL_nameOf (l : Launch) (D : va_G) (g : Nat → ClassId) (A : Nat → Prop) (ad : Nat → Nat → Nat) (κ : CS) (X : XT) (cs : Nat → CT) (lf : Nat → Int64) (pr : PT) (o : Nat) (f : Nat → Int64) (xc : Int32) (htr : l.stackTraces = false) (hV : IV κ X) (hw : WV κ cs) (hk : κ.2.2.1 1 ≤ κ.2.2.1 0) (hd : κ.2.2.1 2 + 999 < 2147483648) : Met l yL_nameOf (wsH yL_nameOf cL_nameOf 4 (some .int) [(0, 9, 12, 20)]) ({ frames := 8, cells := 1, slots := 6, locals := 133 } : Room) (va_Pc [.ref (ad 0 0), .int xc, .ref o] (PRE D g A (iW ad g κ X cs lf pr ++ [(o, .inl (g 1, 1, .inr (.inl f)))]))) (va_Qi (fun (r : Int32) (u : US) => AP ad κ ((opGet κ 0 xc).1) ((opGet κ 0 xc).2.toInt64) r u) (fun u => PO D A (iW u.1 g κ u.2.1 u.2.2.1 u.2.2.2.1 u.2.2.2.2.1 ++ [(o, .inl (g 1, 1, .inr (.inl u.2.2.2.2.2)))])) A) 1 6 A := by
  refine metH (by decide) (Nat.le_of_ble_eq_true rfl) ?_
  intro p e s m args below meth c _ htb cx
  refine J_aload_n cx dL_nameOf_0 rfl 2 rfl ?_
  refine J_iconst cx (v := nI 0) dL_nameOf_1 (by decide) ?_
  refine J_aload_n cx dL_nameOf_2 rfl 0 rfl ?_
  refine J_iload_n cx dL_nameOf_3 rfl 1 rfl ?_
  refine J_hcallVi cx htb kL_46 (As := [.int xc]) (frX (w := iW ad g κ X cs lf pr) (wr := [(o, .inl (g 1, 1, .inr (.inl f)))]) (wx := iW ad g κ X cs lf pr) (wx2 := iW ad g κ X cs lf pr ++ [(o, .inl (g 1, 1, .inr (.inl f)))]) (List.Perm.refl _) (List.Perm.refl _) (qI (W2 := fun u9 => iW ad g κ X cs lf pr ++ [(o, .inl (g 1, 1, .inr (.inl f)))]) (fun _ => List.Perm.refl _)) (tX6_nameOf l D g _ ad κ X cs lf pr  xc htr hV.1 hV.2.1)) ⟨rfl, rfl, by first | decide | (simp only [rmB, rmQ, rmJ, rmL]; omega), by first | decide | (simp only [rmB, rmQ, rmJ, rmL]; omega)⟩ ⟨by decide, by decide⟩ rfl 0 rfl rfl rfl (Nat.le_of_ble_eq_true rfl) dL_nameOf_4 (fun E q9 hE => ?_) (fun r9 u9 hr => ?_)
  · obtain ⟨hc1, hEq⟩ := thr1 hE
    subst hEq
    refine ⟨12, ⟨[], ⟨0, 9, 12, 20⟩, [], _, rfl, (fun _ h => nomatch h), by decide, by decide, lL_20, cstNSE, rfl⟩, ?_⟩
    refine J_astore_n cx (L' := [(3, .ref q9), (0, .ref (ad 0 0)), (1, .int xc), (2, .ref o)]) dL_nameOf_12 rfl (by decide) rfl ?_
    refine J_iconst cx (v := nI 1) dL_nameOf_13 (by decide) ?_
    refine J_x ?_
    exact J_iret cx rfl (u := ((ad, X, cs, lf, pr, f) : US)) ⟨by rw [hc1], by rw [hc1]; decide, fun q => absurd (hc1.symm.trans q) (by decide), rfl, ⟨hV, hw, hk⟩⟩ rfl (Nat.le_of_ble_eq_true rfl) (Nat.le_of_ble_eq_true rfl) dL_nameOf_14
  · obtain ⟨hc0, hr⟩ := hr; subst hr
    refine J_i2l cx (v := ((opGet κ 0 xc).2).toInt64) dL_nameOf_7 rfl ?_
    refine J_last cx (ws' := (iW ad g κ X cs lf pr ++ [(o, .inl (g 1, 1, .inr (.inl (vp_updL f 0 (((opGet κ 0 xc).2).toInt64)))))])) (j := 0) (iW ad g κ X cs lf pr).length at_end  rfl (by decide) (by decide) set_end dL_nameOf_8 ?_
    refine J_goto cx (tgt := 15) dL_nameOf_9 (by decide) ?_
    refine J_iconst cx (v := nI 0) dL_nameOf_15 (by decide) ?_
    refine J_x ?_
    exact J_iret cx rfl (u := ((ad, X, cs, lf, pr, vp_updL f 0 (((opGet κ 0 xc).2).toInt64)) : US)) ⟨by rw [hc0], by rw [hc0]; decide, fun _ => (vu0 (f := f) (v := (((opGet κ 0 xc).2).toInt64))), rfl, ⟨hV, hw, hk⟩⟩ rfl (Nat.le_of_ble_eq_true rfl) (Nat.le_of_ble_eq_true rfl) dL_nameOf_16
set_option maxHeartbeats 4000000 in
set_option maxRecDepth 100000 in
theorem tL_keyOf (l : Launch) (D : va_G) (g : Nat → ClassId) (A : Nat → Prop) (ad : Nat → Nat → Nat) (κ : CS) (X : XT) (cs : Nat → CT) (lf : Nat → Int64) (pr : PT) (o : Nat) (f : Nat → Int64) (xc : Int32) (htr : l.stackTraces = false) (hV : IV κ X) (hw : WV κ cs) (hk : κ.2.2.1 1 ≤ κ.2.2.1 0) (hd : κ.2.2.1 2 + 999 < 2147483648) : Met l yL_keyOf (wsH yL_keyOf cL_keyOf 4 (some .int) [(0, 9, 12, 20)]) ({ frames := 8, cells := 1, slots := 6, locals := 133 } : Room) (va_Pc [.ref (ad 0 0), .int xc, .ref o] (PRE D g A (iW ad g κ X cs lf pr ++ [(o, .inl (g 1, 1, .inr (.inl f)))]))) (va_Qi (fun (r : Int32) (u : US) => AP ad κ ((opGet κ 1 xc).1) ((opGet κ 1 xc).2.toInt64) r u) (fun u => PO D A (iW u.1 g κ u.2.1 u.2.2.1 u.2.2.2.1 u.2.2.2.2.1 ++ [(o, .inl (g 1, 1, .inr (.inl u.2.2.2.2.2)))])) A) 1 6 A := by
  refine metH (by decide) (Nat.le_of_ble_eq_true rfl) ?_
  intro p e s m args below meth c _ htb cx
  refine J_aload_n cx dL_keyOf_0 rfl 2 rfl ?_
  refine J_iconst cx (v := nI 0) dL_keyOf_1 (by decide) ?_
  refine J_aload_n cx dL_keyOf_2 rfl 0 rfl ?_
  refine J_iload_n cx dL_keyOf_3 rfl 1 rfl ?_
  refine J_hcallVi cx htb kL_49 (As := [.int xc]) (frX (w := iW ad g κ X cs lf pr) (wr := [(o, .inl (g 1, 1, .inr (.inl f)))]) (wx := iW ad g κ X cs lf pr) (wx2 := iW ad g κ X cs lf pr ++ [(o, .inl (g 1, 1, .inr (.inl f)))]) (List.Perm.refl _) (List.Perm.refl _) (qI (W2 := fun u9 => iW ad g κ X cs lf pr ++ [(o, .inl (g 1, 1, .inr (.inl f)))]) (fun _ => List.Perm.refl _)) (tX6_keyOf l D g _ ad κ X cs lf pr  xc htr hV.1 hV.2.1)) ⟨rfl, rfl, by first | decide | (simp only [rmB, rmQ, rmJ, rmL]; omega), by first | decide | (simp only [rmB, rmQ, rmJ, rmL]; omega)⟩ ⟨by decide, by decide⟩ rfl 0 rfl rfl rfl (Nat.le_of_ble_eq_true rfl) dL_keyOf_4 (fun E q9 hE => ?_) (fun r9 u9 hr => ?_)
  · obtain ⟨hc1, hEq⟩ := thr1 hE
    subst hEq
    refine ⟨12, ⟨[], ⟨0, 9, 12, 20⟩, [], _, rfl, (fun _ h => nomatch h), by decide, by decide, lL_20, cstNSE, rfl⟩, ?_⟩
    refine J_astore_n cx (L' := [(3, .ref q9), (0, .ref (ad 0 0)), (1, .int xc), (2, .ref o)]) dL_keyOf_12 rfl (by decide) rfl ?_
    refine J_iconst cx (v := nI 1) dL_keyOf_13 (by decide) ?_
    refine J_x ?_
    exact J_iret cx rfl (u := ((ad, X, cs, lf, pr, f) : US)) ⟨by rw [hc1], by rw [hc1]; decide, fun q => absurd (hc1.symm.trans q) (by decide), rfl, ⟨hV, hw, hk⟩⟩ rfl (Nat.le_of_ble_eq_true rfl) (Nat.le_of_ble_eq_true rfl) dL_keyOf_14
  · obtain ⟨hc0, hr⟩ := hr; subst hr
    refine J_i2l cx (v := ((opGet κ 1 xc).2).toInt64) dL_keyOf_7 rfl ?_
    refine J_last cx (ws' := (iW ad g κ X cs lf pr ++ [(o, .inl (g 1, 1, .inr (.inl (vp_updL f 0 (((opGet κ 1 xc).2).toInt64)))))])) (j := 0) (iW ad g κ X cs lf pr).length at_end  rfl (by decide) (by decide) set_end dL_keyOf_8 ?_
    refine J_goto cx (tgt := 15) dL_keyOf_9 (by decide) ?_
    refine J_iconst cx (v := nI 0) dL_keyOf_15 (by decide) ?_
    refine J_x ?_
    exact J_iret cx rfl (u := ((ad, X, cs, lf, pr, vp_updL f 0 (((opGet κ 1 xc).2).toInt64)) : US)) ⟨by rw [hc0], by rw [hc0]; decide, fun _ => (vu0 (f := f) (v := (((opGet κ 1 xc).2).toInt64))), rfl, ⟨hV, hw, hk⟩⟩ rfl (Nat.le_of_ble_eq_true rfl) (Nat.le_of_ble_eq_true rfl) dL_keyOf_16
set_option maxHeartbeats 4000000 in
set_option maxRecDepth 100000 in
theorem tL_issuerKeyOf (l : Launch) (D : va_G) (g : Nat → ClassId) (A : Nat → Prop) (ad : Nat → Nat → Nat) (κ : CS) (X : XT) (cs : Nat → CT) (lf : Nat → Int64) (pr : PT) (o : Nat) (f : Nat → Int64) (xc : Int32) (htr : l.stackTraces = false) (hV : IV κ X) (hw : WV κ cs) (hk : κ.2.2.1 1 ≤ κ.2.2.1 0) (hd : κ.2.2.1 2 + 999 < 2147483648) : Met l yL_issuerKeyOf (wsH yL_issuerKeyOf cL_issuerKeyOf 4 (some .int) [(0, 9, 12, 20)]) ({ frames := 8, cells := 1, slots := 6, locals := 133 } : Room) (va_Pc [.ref (ad 0 0), .int xc, .ref o] (PRE D g A (iW ad g κ X cs lf pr ++ [(o, .inl (g 1, 1, .inr (.inl f)))]))) (va_Qi (fun (r : Int32) (u : US) => AP ad κ ((opGet κ 5 xc).1) ((opGet κ 5 xc).2.toInt64) r u) (fun u => PO D A (iW u.1 g κ u.2.1 u.2.2.1 u.2.2.2.1 u.2.2.2.2.1 ++ [(o, .inl (g 1, 1, .inr (.inl u.2.2.2.2.2)))])) A) 1 6 A := by
  refine metH (by decide) (Nat.le_of_ble_eq_true rfl) ?_
  intro p e s m args below meth c _ htb cx
  refine J_aload_n cx dL_issuerKeyOf_0 rfl 2 rfl ?_
  refine J_iconst cx (v := nI 0) dL_issuerKeyOf_1 (by decide) ?_
  refine J_aload_n cx dL_issuerKeyOf_2 rfl 0 rfl ?_
  refine J_iload_n cx dL_issuerKeyOf_3 rfl 1 rfl ?_
  refine J_hcallVi cx htb kL_52 (As := [.int xc]) (frX (w := iW ad g κ X cs lf pr) (wr := [(o, .inl (g 1, 1, .inr (.inl f)))]) (wx := iW ad g κ X cs lf pr) (wx2 := iW ad g κ X cs lf pr ++ [(o, .inl (g 1, 1, .inr (.inl f)))]) (List.Perm.refl _) (List.Perm.refl _) (qI (W2 := fun u9 => iW ad g κ X cs lf pr ++ [(o, .inl (g 1, 1, .inr (.inl f)))]) (fun _ => List.Perm.refl _)) (tX6_issuerKeyOf l D g _ ad κ X cs lf pr  xc htr hV.1 hV.2.1)) ⟨rfl, rfl, by first | decide | (simp only [rmB, rmQ, rmJ, rmL]; omega), by first | decide | (simp only [rmB, rmQ, rmJ, rmL]; omega)⟩ ⟨by decide, by decide⟩ rfl 0 rfl rfl rfl (Nat.le_of_ble_eq_true rfl) dL_issuerKeyOf_4 (fun E q9 hE => ?_) (fun r9 u9 hr => ?_)
  · obtain ⟨hc1, hEq⟩ := thr1 hE
    subst hEq
    refine ⟨12, ⟨[], ⟨0, 9, 12, 20⟩, [], _, rfl, (fun _ h => nomatch h), by decide, by decide, lL_20, cstNSE, rfl⟩, ?_⟩
    refine J_astore_n cx (L' := [(3, .ref q9), (0, .ref (ad 0 0)), (1, .int xc), (2, .ref o)]) dL_issuerKeyOf_12 rfl (by decide) rfl ?_
    refine J_iconst cx (v := nI 1) dL_issuerKeyOf_13 (by decide) ?_
    refine J_x ?_
    exact J_iret cx rfl (u := ((ad, X, cs, lf, pr, f) : US)) ⟨by rw [hc1], by rw [hc1]; decide, fun q => absurd (hc1.symm.trans q) (by decide), rfl, ⟨hV, hw, hk⟩⟩ rfl (Nat.le_of_ble_eq_true rfl) (Nat.le_of_ble_eq_true rfl) dL_issuerKeyOf_14
  · obtain ⟨hc0, hr⟩ := hr; subst hr
    refine J_i2l cx (v := ((opGet κ 5 xc).2).toInt64) dL_issuerKeyOf_7 rfl ?_
    refine J_last cx (ws' := (iW ad g κ X cs lf pr ++ [(o, .inl (g 1, 1, .inr (.inl (vp_updL f 0 (((opGet κ 5 xc).2).toInt64)))))])) (j := 0) (iW ad g κ X cs lf pr).length at_end  rfl (by decide) (by decide) set_end dL_issuerKeyOf_8 ?_
    refine J_goto cx (tgt := 15) dL_issuerKeyOf_9 (by decide) ?_
    refine J_iconst cx (v := nI 0) dL_issuerKeyOf_15 (by decide) ?_
    refine J_x ?_
    exact J_iret cx rfl (u := ((ad, X, cs, lf, pr, vp_updL f 0 (((opGet κ 5 xc).2).toInt64)) : US)) ⟨by rw [hc0], by rw [hc0]; decide, fun _ => (vu0 (f := f) (v := (((opGet κ 5 xc).2).toInt64))), rfl, ⟨hV, hw, hk⟩⟩ rfl (Nat.le_of_ble_eq_true rfl) (Nat.le_of_ble_eq_true rfl) dL_issuerKeyOf_16
set_option maxHeartbeats 4000000 in
set_option maxRecDepth 100000 in
theorem tL_lastDayOf (l : Launch) (D : va_G) (g : Nat → ClassId) (A : Nat → Prop) (ad : Nat → Nat → Nat) (κ : CS) (X : XT) (cs : Nat → CT) (lf : Nat → Int64) (pr : PT) (o : Nat) (f : Nat → Int64) (xc : Int32) (htr : l.stackTraces = false) (hV : IV κ X) (hw : WV κ cs) (hk : κ.2.2.1 1 ≤ κ.2.2.1 0) (hd : κ.2.2.1 2 + 999 < 2147483648) : Met l yL_lastDayOf (wsH yL_lastDayOf cL_lastDayOf 4 (some .int) [(0, 9, 12, 20)]) ({ frames := 8, cells := 1, slots := 6, locals := 133 } : Room) (va_Pc [.ref (ad 0 0), .int xc, .ref o] (PRE D g A (iW ad g κ X cs lf pr ++ [(o, .inl (g 1, 1, .inr (.inl f)))]))) (va_Qi (fun (r : Int32) (u : US) => AP ad κ ((opGet κ 3 xc).1) ((opGet κ 3 xc).2.toInt64) r u) (fun u => PO D A (iW u.1 g κ u.2.1 u.2.2.1 u.2.2.2.1 u.2.2.2.2.1 ++ [(o, .inl (g 1, 1, .inr (.inl u.2.2.2.2.2)))])) A) 1 6 A := by
  refine metH (by decide) (Nat.le_of_ble_eq_true rfl) ?_
  intro p e s m args below meth c _ htb cx
  refine J_aload_n cx dL_lastDayOf_0 rfl 2 rfl ?_
  refine J_iconst cx (v := nI 0) dL_lastDayOf_1 (by decide) ?_
  refine J_aload_n cx dL_lastDayOf_2 rfl 0 rfl ?_
  refine J_iload_n cx dL_lastDayOf_3 rfl 1 rfl ?_
  refine J_hcallVi cx htb kL_55 (As := [.int xc]) (frX (w := iW ad g κ X cs lf pr) (wr := [(o, .inl (g 1, 1, .inr (.inl f)))]) (wx := iW ad g κ X cs lf pr) (wx2 := iW ad g κ X cs lf pr ++ [(o, .inl (g 1, 1, .inr (.inl f)))]) (List.Perm.refl _) (List.Perm.refl _) (qI (W2 := fun u9 => iW ad g κ X cs lf pr ++ [(o, .inl (g 1, 1, .inr (.inl f)))]) (fun _ => List.Perm.refl _)) (tX6_lastDayOf l D g _ ad κ X cs lf pr  xc htr hV.1)) ⟨rfl, rfl, by first | decide | (simp only [rmB, rmQ, rmJ, rmL]; omega), by first | decide | (simp only [rmB, rmQ, rmJ, rmL]; omega)⟩ ⟨by decide, by decide⟩ rfl 0 rfl rfl rfl (Nat.le_of_ble_eq_true rfl) dL_lastDayOf_4 (fun E q9 hE => ?_) (fun r9 u9 hr => ?_)
  · obtain ⟨hc1, hEq⟩ := thr1 hE
    subst hEq
    refine ⟨12, ⟨[], ⟨0, 9, 12, 20⟩, [], _, rfl, (fun _ h => nomatch h), by decide, by decide, lL_20, cstNSE, rfl⟩, ?_⟩
    refine J_astore_n cx (L' := [(3, .ref q9), (0, .ref (ad 0 0)), (1, .int xc), (2, .ref o)]) dL_lastDayOf_12 rfl (by decide) rfl ?_
    refine J_iconst cx (v := nI 1) dL_lastDayOf_13 (by decide) ?_
    refine J_x ?_
    exact J_iret cx rfl (u := ((ad, X, cs, lf, pr, f) : US)) ⟨by rw [hc1], by rw [hc1]; decide, fun q => absurd (hc1.symm.trans q) (by decide), rfl, ⟨hV, hw, hk⟩⟩ rfl (Nat.le_of_ble_eq_true rfl) (Nat.le_of_ble_eq_true rfl) dL_lastDayOf_14
  · obtain ⟨hc0, hr⟩ := hr; subst hr
    refine J_i2l cx (v := ((opGet κ 3 xc).2).toInt64) dL_lastDayOf_7 rfl ?_
    refine J_last cx (ws' := (iW ad g κ X cs lf pr ++ [(o, .inl (g 1, 1, .inr (.inl (vp_updL f 0 (((opGet κ 3 xc).2).toInt64)))))])) (j := 0) (iW ad g κ X cs lf pr).length at_end  rfl (by decide) (by decide) set_end dL_lastDayOf_8 ?_
    refine J_goto cx (tgt := 15) dL_lastDayOf_9 (by decide) ?_
    refine J_iconst cx (v := nI 0) dL_lastDayOf_15 (by decide) ?_
    refine J_x ?_
    exact J_iret cx rfl (u := ((ad, X, cs, lf, pr, vp_updL f 0 (((opGet κ 3 xc).2).toInt64)) : US)) ⟨by rw [hc0], by rw [hc0]; decide, fun _ => (vu0 (f := f) (v := (((opGet κ 3 xc).2).toInt64))), rfl, ⟨hV, hw, hk⟩⟩ rfl (Nat.le_of_ble_eq_true rfl) (Nat.le_of_ble_eq_true rfl) dL_lastDayOf_16
set_option maxHeartbeats 4000000 in
set_option maxRecDepth 100000 in
theorem tL_kindOf (l : Launch) (D : va_G) (g : Nat → ClassId) (A : Nat → Prop) (ad : Nat → Nat → Nat) (κ : CS) (X : XT) (cs : Nat → CT) (lf : Nat → Int64) (pr : PT) (o : Nat) (f : Nat → Int64) (xc : Int32) (htr : l.stackTraces = false) (hV : IV κ X) (hw : WV κ cs) (hk : κ.2.2.1 1 ≤ κ.2.2.1 0) (hd : κ.2.2.1 2 + 999 < 2147483648) : Met l yL_kindOf (wsH yL_kindOf cL_kindOf 4 (some .int) [(0, 9, 12, 20)]) ({ frames := 8, cells := 1, slots := 6, locals := 134 } : Room) (va_Pc [.ref (ad 0 0), .int xc, .ref o] (PRE D g A (iW ad g κ X cs lf pr ++ [(o, .inl (g 1, 1, .inr (.inl f)))]))) (va_Qi (fun (r : Int32) (u : US) => AP ad κ ((opKind κ xc).1) ((opKind κ xc).2.toInt64) r u) (fun u => PO D A (iW u.1 g κ u.2.1 u.2.2.1 u.2.2.2.1 u.2.2.2.2.1 ++ [(o, .inl (g 1, 1, .inr (.inl u.2.2.2.2.2)))])) A) 1 6 A := by
  refine metH (by decide) (Nat.le_of_ble_eq_true rfl) ?_
  intro p e s m args below meth c _ htb cx
  refine J_aload_n cx dL_kindOf_0 rfl 2 rfl ?_
  refine J_iconst cx (v := nI 0) dL_kindOf_1 (by decide) ?_
  refine J_aload_n cx dL_kindOf_2 rfl 0 rfl ?_
  refine J_iload_n cx dL_kindOf_3 rfl 1 rfl ?_
  refine J_hcallVi cx htb kL_58 (As := [.int xc]) (frX (w := iW ad g κ X cs lf pr) (wr := [(o, .inl (g 1, 1, .inr (.inl f)))]) (wx := iW ad g κ X cs lf pr) (wx2 := iW ad g κ X cs lf pr ++ [(o, .inl (g 1, 1, .inr (.inl f)))]) (List.Perm.refl _) (List.Perm.refl _) (qI (W2 := fun u9 => iW ad g κ X cs lf pr ++ [(o, .inl (g 1, 1, .inr (.inl f)))]) (fun _ => List.Perm.refl _)) (tX6_kindOf l D g _ ad κ X cs lf pr  xc htr hV.1 hV.2.1 hV.2.2.2.1)) ⟨rfl, rfl, by first | decide | (simp only [rmB, rmQ, rmJ, rmL]; omega), by first | decide | (simp only [rmB, rmQ, rmJ, rmL]; omega)⟩ ⟨by decide, by decide⟩ rfl 0 rfl rfl rfl (Nat.le_of_ble_eq_true rfl) dL_kindOf_4 (fun E q9 hE => ?_) (fun r9 u9 hr => ?_)
  · obtain ⟨hc1, hEq⟩ := thr1 hE
    subst hEq
    refine ⟨12, ⟨[], ⟨0, 9, 12, 20⟩, [], _, rfl, (fun _ h => nomatch h), by decide, by decide, lL_20, cstNSE, rfl⟩, ?_⟩
    refine J_astore_n cx (L' := [(3, .ref q9), (0, .ref (ad 0 0)), (1, .int xc), (2, .ref o)]) dL_kindOf_12 rfl (by decide) rfl ?_
    refine J_iconst cx (v := nI 1) dL_kindOf_13 (by decide) ?_
    refine J_x ?_
    exact J_iret cx rfl (u := ((ad, X, cs, lf, pr, f) : US)) ⟨by rw [hc1], by rw [hc1]; decide, fun q => absurd (hc1.symm.trans q) (by decide), rfl, ⟨hV, hw, hk⟩⟩ rfl (Nat.le_of_ble_eq_true rfl) (Nat.le_of_ble_eq_true rfl) dL_kindOf_14
  · obtain ⟨hc0, hr⟩ := hr; subst hr
    refine J_i2l cx (v := ((opKind κ xc).2).toInt64) dL_kindOf_7 rfl ?_
    refine J_last cx (ws' := (iW ad g κ X cs lf pr ++ [(o, .inl (g 1, 1, .inr (.inl (vp_updL f 0 (((opKind κ xc).2).toInt64)))))])) (j := 0) (iW ad g κ X cs lf pr).length at_end  rfl (by decide) (by decide) set_end dL_kindOf_8 ?_
    refine J_goto cx (tgt := 15) dL_kindOf_9 (by decide) ?_
    refine J_iconst cx (v := nI 0) dL_kindOf_15 (by decide) ?_
    refine J_x ?_
    exact J_iret cx rfl (u := ((ad, X, cs, lf, pr, vp_updL f 0 (((opKind κ xc).2).toInt64)) : US)) ⟨by rw [hc0], by rw [hc0]; decide, fun _ => (vu0 (f := f) (v := (((opKind κ xc).2).toInt64))), rfl, ⟨hV, hw, hk⟩⟩ rfl (Nat.le_of_ble_eq_true rfl) (Nat.le_of_ble_eq_true rfl) dL_kindOf_16
set_option maxHeartbeats 4000000 in
set_option maxRecDepth 100000 in
theorem tL_isBelow (l : Launch) (D : va_G) (g : Nat → ClassId) (A : Nat → Prop) (ad : Nat → Nat → Nat) (κ : CS) (X : XT) (cs : Nat → CT) (lf : Nat → Int64) (pr : PT) (o : Nat) (f : Nat → Int64) (xn : Int32) (xo : Int32) (htr : l.stackTraces = false) (hV : IV κ X) (hw : WV κ cs) (hk : κ.2.2.1 1 ≤ κ.2.2.1 0) (hd : κ.2.2.1 2 + 999 < 2147483648) : Met l yL_isBelow (wsH yL_isBelow cL_isBelow 5 (some .int) [(0, 17, 20, 13)]) ({ frames := 8, cells := 2, slots := 12, locals := 132 } : Room) (va_Pc [.ref (ad 0 0), .int xn, .int xo, .ref o] (PRE D g A (iW ad g κ X cs lf pr ++ [(o, .inl (g 1, 1, .inr (.inl f)))]))) (va_Qi (fun (r : Int32) (u : US) => AP ad κ ((opBelow xn xo).1) (bL (opBelow xn xo).2) r u) (fun u => PO D A (iW u.1 g κ u.2.1 u.2.2.1 u.2.2.2.1 u.2.2.2.2.1 ++ [(o, .inl (g 1, 1, .inr (.inl u.2.2.2.2.2)))])) A) 2 12 A := by
  refine metH (by decide) (Nat.le_of_ble_eq_true rfl) ?_
  intro p e s m args below meth c _ htb cx
  refine J_aload_n cx dL_isBelow_0 rfl 3 rfl ?_
  refine J_iconst cx (v := nI 0) dL_isBelow_1 (by decide) ?_
  refine J_aload_n cx dL_isBelow_2 rfl 0 rfl ?_
  refine J_iload_n cx dL_isBelow_3 rfl 1 rfl ?_
  refine J_iload_n cx dL_isBelow_4 rfl 2 rfl ?_
  refine J_hcallVi cx htb kL_62 (As := [.int xn, .int xo]) (frX (w := iW ad g κ X cs lf pr) (wr := [(o, .inl (g 1, 1, .inr (.inl f)))]) (wx := iW ad g κ X cs lf pr) (wx2 := iW ad g κ X cs lf pr ++ [(o, .inl (g 1, 1, .inr (.inl f)))]) (List.Perm.refl _) (List.Perm.refl _) (qI (W2 := fun u9 => iW ad g κ X cs lf pr ++ [(o, .inl (g 1, 1, .inr (.inl f)))]) (fun _ => List.Perm.refl _)) (tX6_isBelow l D g _ ad κ X cs lf pr  xn xo htr )) ⟨rfl, rfl, by first | decide | (simp only [rmB, rmQ, rmJ, rmL]; omega), by first | decide | (simp only [rmB, rmQ, rmJ, rmL]; omega)⟩ ⟨by decide, by decide⟩ rfl 0 rfl rfl rfl (Nat.le_of_ble_eq_true rfl) dL_isBelow_5 (fun E q9 hE => ?_) (fun r9 u9 hr => ?_)
  · obtain ⟨hc1, hEq⟩ := thr1 hE
    subst hEq
    refine ⟨20, ⟨[], ⟨0, 17, 20, 13⟩, [], _, rfl, (fun _ h => nomatch h), by decide, by decide, lL_13, cstIAE, rfl⟩, ?_⟩
    refine J_astore cx (L' := [(4, .ref q9), (0, .ref (ad 0 0)), (1, .int xn), (2, .int xo), (3, .ref o)]) dL_isBelow_20 (by decide) rfl ?_
    refine J_iconst cx (v := nI 1) dL_isBelow_22 (by decide) ?_
    refine J_x ?_
    exact J_iret cx rfl (u := ((ad, X, cs, lf, pr, f) : US)) ⟨by rw [hc1], by rw [hc1]; decide, fun q => absurd (hc1.symm.trans q) (by decide), rfl, ⟨hV, hw, hk⟩⟩ rfl (Nat.le_of_ble_eq_true rfl) (Nat.le_of_ble_eq_true rfl) dL_isBelow_23
  · obtain ⟨hc0, hr⟩ := hr; subst hr
    refine J_ifz_eq cx (tgt := 15) dL_isBelow_8 (by decide) (fun c_1 => ?_) (fun c_1 => ?_)
    · refine J_lconst cx (v := lN 0) dL_isBelow_15 (by decide) ?_
      refine J_last cx (ws' := (iW ad g κ X cs lf pr ++ [(o, .inl (g 1, 1, .inr (.inl (vp_updL f 0 (lN 0)))))])) (j := 0) (iW ad g κ X cs lf pr).length at_end  rfl (by decide) (by decide) set_end dL_isBelow_16 ?_
      refine J_goto cx (tgt := 24) dL_isBelow_17 (by decide) ?_
      refine J_iconst cx (v := nI 0) dL_isBelow_24 (by decide) ?_
      refine J_x ?_
      exact J_iret cx rfl (u := ((ad, X, cs, lf, pr, vp_updL f 0 (lN 0)) : US)) ⟨by rw [hc0], by rw [hc0]; decide, fun _ => (vu0 (f := f) (v := (lN 0))).trans (by unfold bL; rw [c_1]; rfl), rfl, ⟨hV, hw, hk⟩⟩ rfl (Nat.le_of_ble_eq_true rfl) (Nat.le_of_ble_eq_true rfl) dL_isBelow_25
    · refine J_lconst cx (v := lN 1) dL_isBelow_11 (by decide) ?_
      refine J_goto cx (tgt := 16) dL_isBelow_12 (by decide) ?_
      refine J_last cx (ws' := (iW ad g κ X cs lf pr ++ [(o, .inl (g 1, 1, .inr (.inl (vp_updL f 0 (lN 1)))))])) (j := 0) (iW ad g κ X cs lf pr).length at_end  rfl (by decide) (by decide) set_end dL_isBelow_16 ?_
      refine J_goto cx (tgt := 24) dL_isBelow_17 (by decide) ?_
      refine J_iconst cx (v := nI 0) dL_isBelow_24 (by decide) ?_
      refine J_x ?_
      exact J_iret cx rfl (u := ((ad, X, cs, lf, pr, vp_updL f 0 (lN 1)) : US)) ⟨by rw [hc0], by rw [hc0]; decide, fun _ => (vu0 (f := f) (v := (lN 1))).trans (by unfold bL; rw [c_1]; rfl), rfl, ⟨hV, hw, hk⟩⟩ rfl (Nat.le_of_ble_eq_true rfl) (Nat.le_of_ble_eq_true rfl) dL_isBelow_25
set_option maxHeartbeats 4000000 in
set_option maxRecDepth 100000 in
theorem tL_isRevoked (l : Launch) (D : va_G) (g : Nat → ClassId) (A : Nat → Prop) (ad : Nat → Nat → Nat) (κ : CS) (X : XT) (cs : Nat → CT) (lf : Nat → Int64) (pr : PT) (o : Nat) (f : Nat → Int64) (xc : Int32) (dy : Int32) (htr : l.stackTraces = false) (hV : IV κ X) (hw : WV κ cs) (hk : κ.2.2.1 1 ≤ κ.2.2.1 0) (hd : κ.2.2.1 2 + 999 < 2147483648) : Met l yL_isRevoked (wsH yL_isRevoked cL_isRevoked 5 (some .int) [(0, 17, 20, 20), (0, 17, 24, 13)]) ({ frames := 8, cells := 2, slots := 12, locals := 135 } : Room) (va_Pc [.ref (ad 0 0), .int xc, .int dy, .ref o] (PRE D g A (iW ad g κ X cs lf pr ++ [(o, .inl (g 1, 1, .inr (.inl f)))]))) (va_Qi (fun (r : Int32) (u : US) => AP ad κ ((opRevoked κ xc dy).1) (bL (opRevoked κ xc dy).2) r u) (fun u => PO D A (iW u.1 g κ u.2.1 u.2.2.1 u.2.2.2.1 u.2.2.2.2.1 ++ [(o, .inl (g 1, 1, .inr (.inl u.2.2.2.2.2)))])) A) 2 12 A := by
  refine metH (by decide) (Nat.le_of_ble_eq_true rfl) ?_
  intro p e s m args below meth c _ htb cx
  refine J_aload_n cx dL_isRevoked_0 rfl 3 rfl ?_
  refine J_iconst cx (v := nI 0) dL_isRevoked_1 (by decide) ?_
  refine J_aload_n cx dL_isRevoked_2 rfl 0 rfl ?_
  refine J_iload_n cx dL_isRevoked_3 rfl 1 rfl ?_
  refine J_iload_n cx dL_isRevoked_4 rfl 2 rfl ?_
  refine J_hcallVi cx htb kL_66 (As := [.int xc, .int dy]) (frX (w := iW ad g κ X cs lf pr) (wr := [(o, .inl (g 1, 1, .inr (.inl f)))]) (wx := iW ad g κ X cs lf pr) (wx2 := iW ad g κ X cs lf pr ++ [(o, .inl (g 1, 1, .inr (.inl f)))]) (List.Perm.refl _) (List.Perm.refl _) (qI (W2 := fun u9 => iW ad g κ X cs lf pr ++ [(o, .inl (g 1, 1, .inr (.inl f)))]) (fun _ => List.Perm.refl _)) (tX6_isRevoked l D g _ ad κ X cs lf pr  xc dy htr hV.1)) ⟨rfl, rfl, by first | decide | (simp only [rmB, rmQ, rmJ, rmL]; omega), by first | decide | (simp only [rmB, rmQ, rmJ, rmL]; omega)⟩ ⟨by decide, by decide⟩ rfl 0 rfl rfl rfl (Nat.le_of_ble_eq_true rfl) dL_isRevoked_5 (fun E q9 hE => ?_) (fun r9 u9 hr => ?_)
  · rcases thr2 hE with ⟨hc1, hEq⟩ | ⟨hc1, hEq⟩
    · subst hEq
      refine ⟨20, ⟨[], ⟨0, 17, 20, 20⟩, [⟨0, 17, 24, 13⟩], _, rfl, (fun _ h => nomatch h), by decide, by decide, lL_20, cstNSE, rfl⟩, ?_⟩
      refine J_astore cx (L' := [(4, .ref q9), (0, .ref (ad 0 0)), (1, .int xc), (2, .int dy), (3, .ref o)]) dL_isRevoked_20 (by decide) rfl ?_
      refine J_iconst cx (v := nI 1) dL_isRevoked_22 (by decide) ?_
      refine J_x ?_
      exact J_iret cx rfl (u := ((ad, X, cs, lf, pr, f) : US)) ⟨by rw [hc1], by rw [hc1]; decide, fun q => absurd (hc1.symm.trans q) (by decide), rfl, ⟨hV, hw, hk⟩⟩ rfl (Nat.le_of_ble_eq_true rfl) (Nat.le_of_ble_eq_true rfl) dL_isRevoked_23
    · subst hEq
      refine ⟨24, ⟨[⟨0, 17, 20, 20⟩], ⟨0, 17, 24, 13⟩, [], _, rfl, (List.forall_mem_cons.mpr ⟨⟨by decide, "java/util/NoSuchElementException", lL_20, by decide, by decide, by decide⟩, (fun _ h => nomatch h)⟩), by decide, by decide, lL_13, cstIAE, rfl⟩, ?_⟩
      refine J_astore cx (L' := [(4, .ref q9), (0, .ref (ad 0 0)), (1, .int xc), (2, .int dy), (3, .ref o)]) dL_isRevoked_24 (by decide) rfl ?_
      refine J_iconst cx (v := nI 2) dL_isRevoked_26 (by decide) ?_
      refine J_x ?_
      exact J_iret cx rfl (u := ((ad, X, cs, lf, pr, f) : US)) ⟨by rw [hc1], by rw [hc1]; decide, fun q => absurd (hc1.symm.trans q) (by decide), rfl, ⟨hV, hw, hk⟩⟩ rfl (Nat.le_of_ble_eq_true rfl) (Nat.le_of_ble_eq_true rfl) dL_isRevoked_27
  · obtain ⟨hc0, hr⟩ := hr; subst hr
    refine J_ifz_eq cx (tgt := 15) dL_isRevoked_8 (by decide) (fun c_1 => ?_) (fun c_1 => ?_)
    · refine J_lconst cx (v := lN 0) dL_isRevoked_15 (by decide) ?_
      refine J_last cx (ws' := (iW ad g κ X cs lf pr ++ [(o, .inl (g 1, 1, .inr (.inl (vp_updL f 0 (lN 0)))))])) (j := 0) (iW ad g κ X cs lf pr).length at_end  rfl (by decide) (by decide) set_end dL_isRevoked_16 ?_
      refine J_goto cx (tgt := 28) dL_isRevoked_17 (by decide) ?_
      refine J_iconst cx (v := nI 0) dL_isRevoked_28 (by decide) ?_
      refine J_x ?_
      exact J_iret cx rfl (u := ((ad, X, cs, lf, pr, vp_updL f 0 (lN 0)) : US)) ⟨by rw [hc0], by rw [hc0]; decide, fun _ => (vu0 (f := f) (v := (lN 0))).trans (by unfold bL; rw [c_1]; rfl), rfl, ⟨hV, hw, hk⟩⟩ rfl (Nat.le_of_ble_eq_true rfl) (Nat.le_of_ble_eq_true rfl) dL_isRevoked_29
    · refine J_lconst cx (v := lN 1) dL_isRevoked_11 (by decide) ?_
      refine J_goto cx (tgt := 16) dL_isRevoked_12 (by decide) ?_
      refine J_last cx (ws' := (iW ad g κ X cs lf pr ++ [(o, .inl (g 1, 1, .inr (.inl (vp_updL f 0 (lN 1)))))])) (j := 0) (iW ad g κ X cs lf pr).length at_end  rfl (by decide) (by decide) set_end dL_isRevoked_16 ?_
      refine J_goto cx (tgt := 28) dL_isRevoked_17 (by decide) ?_
      refine J_iconst cx (v := nI 0) dL_isRevoked_28 (by decide) ?_
      refine J_x ?_
      exact J_iret cx rfl (u := ((ad, X, cs, lf, pr, vp_updL f 0 (lN 1)) : US)) ⟨by rw [hc0], by rw [hc0]; decide, fun _ => (vu0 (f := f) (v := (lN 1))).trans (by unfold bL; rw [c_1]; rfl), rfl, ⟨hV, hw, hk⟩⟩ rfl (Nat.le_of_ble_eq_true rfl) (Nat.le_of_ble_eq_true rfl) dL_isRevoked_29
set_option maxHeartbeats 4000000 in
set_option maxRecDepth 100000 in
theorem tL_isRevokedByLists (l : Launch) (D : va_G) (g : Nat → ClassId) (A : Nat → Prop) (ad : Nat → Nat → Nat) (κ : CS) (X : XT) (cs : Nat → CT) (lf : Nat → Int64) (pr : PT) (o : Nat) (f : Nat → Int64) (xc : Int32) (dy : Int32) (htr : l.stackTraces = false) (hV : IV κ X) (hw : WV κ cs) (hk : κ.2.2.1 1 ≤ κ.2.2.1 0) (hd : κ.2.2.1 2 + 999 < 2147483648) : Met l yL_isRevokedByLists (wsH yL_isRevokedByLists cL_isRevokedByLists 5 (some .int) [(0, 17, 20, 20), (0, 17, 24, 13)]) ({ frames := 8, cells := 2, slots := 12, locals := 135 } : Room) (va_Pc [.ref (ad 0 0), .int xc, .int dy, .ref o] (PRE D g A (iW ad g κ X cs lf pr ++ [(o, .inl (g 1, 1, .inr (.inl f)))]))) (va_Qi (fun (r : Int32) (u : US) => AP ad κ ((opRevoked κ xc dy).1) (bL (opRevoked κ xc dy).2) r u) (fun u => PO D A (iW u.1 g κ u.2.1 u.2.2.1 u.2.2.2.1 u.2.2.2.2.1 ++ [(o, .inl (g 1, 1, .inr (.inl u.2.2.2.2.2)))])) A) 2 12 A := by
  refine metH (by decide) (Nat.le_of_ble_eq_true rfl) ?_
  intro p e s m args below meth c _ htb cx
  refine J_aload_n cx dL_isRevokedByLists_0 rfl 3 rfl ?_
  refine J_iconst cx (v := nI 0) dL_isRevokedByLists_1 (by decide) ?_
  refine J_aload_n cx dL_isRevokedByLists_2 rfl 0 rfl ?_
  refine J_iload_n cx dL_isRevokedByLists_3 rfl 1 rfl ?_
  refine J_iload_n cx dL_isRevokedByLists_4 rfl 2 rfl ?_
  refine J_hcallVi cx htb kL_69 (As := [.int xc, .int dy]) (frX (w := iW ad g κ X cs lf pr) (wr := [(o, .inl (g 1, 1, .inr (.inl f)))]) (wx := iW ad g κ X cs lf pr) (wx2 := iW ad g κ X cs lf pr ++ [(o, .inl (g 1, 1, .inr (.inl f)))]) (List.Perm.refl _) (List.Perm.refl _) (qI (W2 := fun u9 => iW ad g κ X cs lf pr ++ [(o, .inl (g 1, 1, .inr (.inl f)))]) (fun _ => List.Perm.refl _)) (tX6_isRevokedByLists l D g _ ad κ X cs lf pr  xc dy htr hV.1 (by have := hV.hle; omega) hV.hLs)) ⟨rfl, rfl, by first | decide | (simp only [rmB, rmQ, rmJ, rmL]; omega), by first | decide | (simp only [rmB, rmQ, rmJ, rmL]; omega)⟩ ⟨by decide, by decide⟩ rfl 0 rfl rfl rfl (Nat.le_of_ble_eq_true rfl) dL_isRevokedByLists_5 (fun E q9 hE => ?_) (fun r9 u9 hr => ?_)
  · rcases thr2 hE with ⟨hc1, hEq⟩ | ⟨hc1, hEq⟩
    · subst hEq
      refine ⟨20, ⟨[], ⟨0, 17, 20, 20⟩, [⟨0, 17, 24, 13⟩], _, rfl, (fun _ h => nomatch h), by decide, by decide, lL_20, cstNSE, rfl⟩, ?_⟩
      refine J_astore cx (L' := [(4, .ref q9), (0, .ref (ad 0 0)), (1, .int xc), (2, .int dy), (3, .ref o)]) dL_isRevokedByLists_20 (by decide) rfl ?_
      refine J_iconst cx (v := nI 1) dL_isRevokedByLists_22 (by decide) ?_
      refine J_x ?_
      exact J_iret cx rfl (u := ((ad, X, cs, lf, pr, f) : US)) ⟨by rw [hc1], by rw [hc1]; decide, fun q => absurd (hc1.symm.trans q) (by decide), rfl, ⟨hV, hw, hk⟩⟩ rfl (Nat.le_of_ble_eq_true rfl) (Nat.le_of_ble_eq_true rfl) dL_isRevokedByLists_23
    · subst hEq
      refine ⟨24, ⟨[⟨0, 17, 20, 20⟩], ⟨0, 17, 24, 13⟩, [], _, rfl, (List.forall_mem_cons.mpr ⟨⟨by decide, "java/util/NoSuchElementException", lL_20, by decide, by decide, by decide⟩, (fun _ h => nomatch h)⟩), by decide, by decide, lL_13, cstIAE, rfl⟩, ?_⟩
      refine J_astore cx (L' := [(4, .ref q9), (0, .ref (ad 0 0)), (1, .int xc), (2, .int dy), (3, .ref o)]) dL_isRevokedByLists_24 (by decide) rfl ?_
      refine J_iconst cx (v := nI 2) dL_isRevokedByLists_26 (by decide) ?_
      refine J_x ?_
      exact J_iret cx rfl (u := ((ad, X, cs, lf, pr, f) : US)) ⟨by rw [hc1], by rw [hc1]; decide, fun q => absurd (hc1.symm.trans q) (by decide), rfl, ⟨hV, hw, hk⟩⟩ rfl (Nat.le_of_ble_eq_true rfl) (Nat.le_of_ble_eq_true rfl) dL_isRevokedByLists_27
  · obtain ⟨hc0, hr⟩ := hr; subst hr
    refine J_ifz_eq cx (tgt := 15) dL_isRevokedByLists_8 (by decide) (fun c_1 => ?_) (fun c_1 => ?_)
    · refine J_lconst cx (v := lN 0) dL_isRevokedByLists_15 (by decide) ?_
      refine J_last cx (ws' := (iW ad g κ X cs lf pr ++ [(o, .inl (g 1, 1, .inr (.inl (vp_updL f 0 (lN 0)))))])) (j := 0) (iW ad g κ X cs lf pr).length at_end  rfl (by decide) (by decide) set_end dL_isRevokedByLists_16 ?_
      refine J_goto cx (tgt := 28) dL_isRevokedByLists_17 (by decide) ?_
      refine J_iconst cx (v := nI 0) dL_isRevokedByLists_28 (by decide) ?_
      refine J_x ?_
      exact J_iret cx rfl (u := ((ad, X, cs, lf, pr, vp_updL f 0 (lN 0)) : US)) ⟨by rw [hc0], by rw [hc0]; decide, fun _ => (vu0 (f := f) (v := (lN 0))).trans (by unfold bL; rw [c_1]; rfl), rfl, ⟨hV, hw, hk⟩⟩ rfl (Nat.le_of_ble_eq_true rfl) (Nat.le_of_ble_eq_true rfl) dL_isRevokedByLists_29
    · refine J_lconst cx (v := lN 1) dL_isRevokedByLists_11 (by decide) ?_
      refine J_goto cx (tgt := 16) dL_isRevokedByLists_12 (by decide) ?_
      refine J_last cx (ws' := (iW ad g κ X cs lf pr ++ [(o, .inl (g 1, 1, .inr (.inl (vp_updL f 0 (lN 1)))))])) (j := 0) (iW ad g κ X cs lf pr).length at_end  rfl (by decide) (by decide) set_end dL_isRevokedByLists_16 ?_
      refine J_goto cx (tgt := 28) dL_isRevokedByLists_17 (by decide) ?_
      refine J_iconst cx (v := nI 0) dL_isRevokedByLists_28 (by decide) ?_
      refine J_x ?_
      exact J_iret cx rfl (u := ((ad, X, cs, lf, pr, vp_updL f 0 (lN 1)) : US)) ⟨by rw [hc0], by rw [hc0]; decide, fun _ => (vu0 (f := f) (v := (lN 1))).trans (by unfold bL; rw [c_1]; rfl), rfl, ⟨hV, hw, hk⟩⟩ rfl (Nat.le_of_ble_eq_true rfl) (Nat.le_of_ble_eq_true rfl) dL_isRevokedByLists_29
set_option maxHeartbeats 4000000 in
set_option maxRecDepth 100000 in
theorem tL_candidates (l : Launch) (D : va_G) (g : Nat → ClassId) (A : Nat → Prop) (ad : Nat → Nat → Nat) (κ : CS) (X : XT) (cs : Nat → CT) (lf : Nat → Int64) (pr : PT) (o : Nat) (f : Nat → Int64) (xc : Int32) (htr : l.stackTraces = false) (hV : IV κ X) (hw : WV κ cs) (hk : κ.2.2.1 1 ≤ κ.2.2.1 0) (hd : κ.2.2.1 2 + 999 < 2147483648) : Met l yL_candidates (wsH yL_candidates cL_candidates 4 (some .int) [(0, 9, 12, 20)]) ({ frames := 8, cells := 1, slots := 6, locals := 133 } : Room) (va_Pc [.ref (ad 0 0), .int xc, .ref o] (PRE D g A (iW ad g κ X cs lf pr ++ [(o, .inl (g 1, 1, .inr (.inl f)))]))) (va_Qi (fun (r : Int32) (u : US) => AP ad κ ((ocC κ X xc).1) ((ocC κ X xc).2.toInt64) r u) (fun u => PO D A (iW u.1 g κ u.2.1 u.2.2.1 u.2.2.2.1 u.2.2.2.2.1 ++ [(o, .inl (g 1, 1, .inr (.inl u.2.2.2.2.2)))])) A) 1 6 A := by
  refine metH (by decide) (Nat.le_of_ble_eq_true rfl) ?_
  intro p e s m args below meth c _ htb cx
  refine J_aload_n cx dL_candidates_0 rfl 2 rfl ?_
  refine J_iconst cx (v := nI 0) dL_candidates_1 (by decide) ?_
  refine J_aload_n cx dL_candidates_2 rfl 0 rfl ?_
  refine J_iload_n cx dL_candidates_3 rfl 1 rfl ?_
  refine J_hcallVi cx htb kL_72 (As := [.int xc]) (frX (w := iW ad g κ X cs lf pr) (wr := [(o, .inl (g 1, 1, .inr (.inl f)))]) (wx := iW ad g κ X cs lf pr) (wx2 := iW ad g κ X cs lf pr ++ [(o, .inl (g 1, 1, .inr (.inl f)))]) (List.Perm.refl _) (List.Perm.refl _) (qI (W2 := fun u9 => iW ad g κ X cs lf pr ++ [(o, .inl (g 1, 1, .inr (.inl f)))]) (fun _ => List.Perm.refl _)) (tX6_candidates l D g _ ad κ X cs lf pr  xc htr hV.1)) ⟨rfl, rfl, by first | decide | (simp only [rmB, rmQ, rmJ, rmL]; omega), by first | decide | (simp only [rmB, rmQ, rmJ, rmL]; omega)⟩ ⟨by decide, by decide⟩ rfl 0 rfl rfl rfl (Nat.le_of_ble_eq_true rfl) dL_candidates_4 (fun E q9 hE => ?_) (fun r9 u9 hr => ?_)
  · obtain ⟨hc1, hEq⟩ := thr1 hE
    subst hEq
    refine ⟨12, ⟨[], ⟨0, 9, 12, 20⟩, [], _, rfl, (fun _ h => nomatch h), by decide, by decide, lL_20, cstNSE, rfl⟩, ?_⟩
    refine J_astore_n cx (L' := [(3, .ref q9), (0, .ref (ad 0 0)), (1, .int xc), (2, .ref o)]) dL_candidates_12 rfl (by decide) rfl ?_
    refine J_iconst cx (v := nI 1) dL_candidates_13 (by decide) ?_
    refine J_x ?_
    exact J_iret cx rfl (u := ((ad, X, cs, lf, pr, f) : US)) ⟨by rw [hc1], by rw [hc1]; decide, fun q => absurd (hc1.symm.trans q) (by decide), rfl, ⟨hV, hw, hk⟩⟩ rfl (Nat.le_of_ble_eq_true rfl) (Nat.le_of_ble_eq_true rfl) dL_candidates_14
  · obtain ⟨hc0, hr⟩ := hr; subst hr
    refine J_i2l cx (v := ((ocC κ X xc).2).toInt64) dL_candidates_7 rfl ?_
    refine J_last cx (ws' := (iW ad g κ X cs lf pr ++ [(o, .inl (g 1, 1, .inr (.inl (vp_updL f 0 (((ocC κ X xc).2).toInt64)))))])) (j := 0) (iW ad g κ X cs lf pr).length at_end  rfl (by decide) (by decide) set_end dL_candidates_8 ?_
    refine J_goto cx (tgt := 15) dL_candidates_9 (by decide) ?_
    refine J_iconst cx (v := nI 0) dL_candidates_15 (by decide) ?_
    refine J_x ?_
    exact J_iret cx rfl (u := ((ad, X, cs, lf, pr, vp_updL f 0 (((ocC κ X xc).2).toInt64)) : US)) ⟨by rw [hc0], by rw [hc0]; decide, fun _ => (vu0 (f := f) (v := (((ocC κ X xc).2).toInt64))), rfl, ⟨hV, hw, hk⟩⟩ rfl (Nat.le_of_ble_eq_true rfl) (Nat.le_of_ble_eq_true rfl) dL_candidates_16
set_option maxHeartbeats 4000000 in
set_option maxRecDepth 100000 in
theorem tL_candidateAt (l : Launch) (D : va_G) (g : Nat → ClassId) (A : Nat → Prop) (ad : Nat → Nat → Nat) (κ : CS) (X : XT) (cs : Nat → CT) (lf : Nat → Int64) (pr : PT) (o : Nat) (f : Nat → Int64) (xc : Int32) (rk : Int32) (htr : l.stackTraces = false) (hV : IV κ X) (hw : WV κ cs) (hk : κ.2.2.1 1 ≤ κ.2.2.1 0) (hd : κ.2.2.1 2 + 999 < 2147483648) : Met l yL_candidateAt (wsH yL_candidateAt cL_candidateAt 5 (some .int) [(0, 10, 13, 20), (0, 10, 17, 79)]) ({ frames := 8, cells := 2, slots := 12, locals := 135 } : Room) (va_Pc [.ref (ad 0 0), .int xc, .int rk, .ref o] (PRE D g A (iW ad g κ X cs lf pr ++ [(o, .inl (g 1, 1, .inr (.inl f)))]))) (va_Qi (fun (r : Int32) (u : US) => AP ad κ ((ocA κ X xc rk).1) ((ocA κ X xc rk).2.toInt64) r u) (fun u => PO D A (iW u.1 g κ u.2.1 u.2.2.1 u.2.2.2.1 u.2.2.2.2.1 ++ [(o, .inl (g 1, 1, .inr (.inl u.2.2.2.2.2)))])) A) 2 12 A := by
  refine metH (by decide) (Nat.le_of_ble_eq_true rfl) ?_
  intro p e s m args below meth c _ htb cx
  refine J_aload_n cx dL_candidateAt_0 rfl 3 rfl ?_
  refine J_iconst cx (v := nI 0) dL_candidateAt_1 (by decide) ?_
  refine J_aload_n cx dL_candidateAt_2 rfl 0 rfl ?_
  refine J_iload_n cx dL_candidateAt_3 rfl 1 rfl ?_
  refine J_iload_n cx dL_candidateAt_4 rfl 2 rfl ?_
  refine J_hcallVi cx htb kL_75 (As := [.int xc, .int rk]) (frX (w := iW ad g κ X cs lf pr) (wr := [(o, .inl (g 1, 1, .inr (.inl f)))]) (wx := iW ad g κ X cs lf pr) (wx2 := iW ad g κ X cs lf pr ++ [(o, .inl (g 1, 1, .inr (.inl f)))]) (List.Perm.refl _) (List.Perm.refl _) (qI (W2 := fun u9 => iW ad g κ X cs lf pr ++ [(o, .inl (g 1, 1, .inr (.inl f)))]) (fun _ => List.Perm.refl _)) (tX6_candidateAt l D g _ ad κ X cs lf pr  xc rk htr hV.1)) ⟨rfl, rfl, by first | decide | (simp only [rmB, rmQ, rmJ, rmL]; omega), by first | decide | (simp only [rmB, rmQ, rmJ, rmL]; omega)⟩ ⟨by decide, by decide⟩ rfl 0 rfl rfl rfl (Nat.le_of_ble_eq_true rfl) dL_candidateAt_5 (fun E q9 hE => ?_) (fun r9 u9 hr => ?_)
  · rcases thr2 hE with ⟨hc1, hEq⟩ | ⟨hc1, hEq⟩
    · subst hEq
      refine ⟨13, ⟨[], ⟨0, 10, 13, 20⟩, [⟨0, 10, 17, 79⟩], _, rfl, (fun _ h => nomatch h), by decide, by decide, lL_20, cstNSE, rfl⟩, ?_⟩
      refine J_astore cx (L' := [(4, .ref q9), (0, .ref (ad 0 0)), (1, .int xc), (2, .int rk), (3, .ref o)]) dL_candidateAt_13 (by decide) rfl ?_
      refine J_iconst cx (v := nI 1) dL_candidateAt_15 (by decide) ?_
      refine J_x ?_
      exact J_iret cx rfl (u := ((ad, X, cs, lf, pr, f) : US)) ⟨by rw [hc1], by rw [hc1]; decide, fun q => absurd (hc1.symm.trans q) (by decide), rfl, ⟨hV, hw, hk⟩⟩ rfl (Nat.le_of_ble_eq_true rfl) (Nat.le_of_ble_eq_true rfl) dL_candidateAt_16
    · subst hEq
      refine ⟨17, ⟨[⟨0, 10, 13, 20⟩], ⟨0, 10, 17, 79⟩, [], _, rfl, (List.forall_mem_cons.mpr ⟨⟨by decide, "java/util/NoSuchElementException", lL_20, by decide, by decide, by decide⟩, (fun _ h => nomatch h)⟩), by decide, by decide, lL_79, cstIOB, rfl⟩, ?_⟩
      refine J_astore cx (L' := [(4, .ref q9), (0, .ref (ad 0 0)), (1, .int xc), (2, .int rk), (3, .ref o)]) dL_candidateAt_17 (by decide) rfl ?_
      refine J_iconst cx (v := nI 2) dL_candidateAt_19 (by decide) ?_
      refine J_x ?_
      exact J_iret cx rfl (u := ((ad, X, cs, lf, pr, f) : US)) ⟨by rw [hc1], by rw [hc1]; decide, fun q => absurd (hc1.symm.trans q) (by decide), rfl, ⟨hV, hw, hk⟩⟩ rfl (Nat.le_of_ble_eq_true rfl) (Nat.le_of_ble_eq_true rfl) dL_candidateAt_20
  · obtain ⟨hc0, hr⟩ := hr; subst hr
    refine J_i2l cx (v := ((ocA κ X xc rk).2).toInt64) dL_candidateAt_8 rfl ?_
    refine J_last cx (ws' := (iW ad g κ X cs lf pr ++ [(o, .inl (g 1, 1, .inr (.inl (vp_updL f 0 (((ocA κ X xc rk).2).toInt64)))))])) (j := 0) (iW ad g κ X cs lf pr).length at_end  rfl (by decide) (by decide) set_end dL_candidateAt_9 ?_
    refine J_goto cx (tgt := 21) dL_candidateAt_10 (by decide) ?_
    refine J_iconst cx (v := nI 0) dL_candidateAt_21 (by decide) ?_
    refine J_x ?_
    exact J_iret cx rfl (u := ((ad, X, cs, lf, pr, vp_updL f 0 (((ocA κ X xc rk).2).toInt64)) : US)) ⟨by rw [hc0], by rw [hc0]; decide, fun _ => (vu0 (f := f) (v := (((ocA κ X xc rk).2).toInt64))), rfl, ⟨hV, hw, hk⟩⟩ rfl (Nat.le_of_ble_eq_true rfl) (Nat.le_of_ble_eq_true rfl) dL_candidateAt_22
set_option maxHeartbeats 4000000 in
set_option maxRecDepth 100000 in
theorem tL_begin (l : Launch) (D : va_G) (g : Nat → ClassId) (A : Nat → Prop) (ad : Nat → Nat → Nat) (κ : CS) (X : XT) (cs : Nat → CT) (lf : Nat → Int64) (pr : PT) (o : Nat) (f : Nat → Int64) (xc : Int32) (dy : Int32) (htr : l.stackTraces = false) (hV : IV κ X) (hw : WV κ cs) (hk : κ.2.2.1 1 ≤ κ.2.2.1 0) (hd : κ.2.2.1 2 + 999 < 2147483648) : Met l yL_begin (wsH yL_begin cL_begin 5 (some .int) [(0, 10, 13, 20), (0, 10, 17, 13)]) ({ frames := 8, cells := 2, slots := 12, locals := 136 } : Room) (va_Pc [.ref (ad 0 0), .int xc, .int dy, .ref o] (PRE D g A (iW ad g κ X cs lf pr ++ [(o, .inl (g 1, 1, .inr (.inl f)))]))) (va_Qi (fun (r : Int32) (u : US) => AP ad ((opBegin κ xc dy).2.2) ((opBegin κ xc dy).1) ((opBegin κ xc dy).2.1.toInt64) r u) (fun u => PO D A (iW u.1 g ((opBegin κ xc dy).2.2) u.2.1 u.2.2.1 u.2.2.2.1 u.2.2.2.2.1 ++ [(o, .inl (g 1, 1, .inr (.inl u.2.2.2.2.2)))])) A) 2 12 A := by
  refine metH (by decide) (Nat.le_of_ble_eq_true rfl) ?_
  intro p e s m args below meth c _ htb cx
  refine J_aload_n cx dL_begin_0 rfl 3 rfl ?_
  refine J_iconst cx (v := nI 0) dL_begin_1 (by decide) ?_
  refine J_aload_n cx dL_begin_2 rfl 0 rfl ?_
  refine J_iload_n cx dL_begin_3 rfl 1 rfl ?_
  refine J_iload_n cx dL_begin_4 rfl 2 rfl ?_
  refine J_ws (ws' := iW ad g κ X (upc cs 0 (cs 0)) lf pr ++ [(o, .inl (g 1, 1, .inr (.inl f)))]) (by rw [upc_self]) ?_
  refine J_hcallVi cx htb kL_93 (As := [.int xc, .int dy]) (frX (w := iW ad g κ X (upc cs 0 (cs 0)) lf pr) (wr := [(o, .inl (g 1, 1, .inr (.inl f)))]) (wx := iW ad g κ X (upc cs 0 (cs 0)) lf pr) (wx2 := iW ad g κ X (upc cs 0 (cs 0)) lf pr ++ [(o, .inl (g 1, 1, .inr (.inl f)))]) (List.Perm.refl _) (List.Perm.refl _) (qI (W2 := fun u9 => iW ad g ((opBegin κ xc dy).2.2) X (upc cs 0 (bgC κ (cs 0) xc dy)) lf pr ++ [(o, .inl (g 1, 1, .inr (.inl f)))]) (fun _ => List.Perm.refl _)) (tX6_begin l D g _ ad κ X cs lf pr (cs 0) xc dy htr hV.1)) ⟨rfl, rfl, by first | decide | (simp only [rmB, rmQ, rmJ, rmL]; omega), by first | decide | (simp only [rmB, rmQ, rmJ, rmL]; omega)⟩ ⟨by decide, by decide⟩ rfl 0 rfl rfl rfl (Nat.le_of_ble_eq_true rfl) dL_begin_5 (fun E q9 hE => ?_) (fun r9 u9 hr => ?_)
  · rcases thr2 hE with ⟨hc1, hEq⟩ | ⟨hc1, hEq⟩
    · subst hEq
      refine ⟨13, ⟨[], ⟨0, 10, 13, 20⟩, [⟨0, 10, 17, 13⟩], _, rfl, (fun _ h => nomatch h), by decide, by decide, lL_20, cstNSE, rfl⟩, ?_⟩
      refine J_astore cx (L' := [(4, .ref q9), (0, .ref (ad 0 0)), (1, .int xc), (2, .int dy), (3, .ref o)]) dL_begin_13 (by decide) rfl ?_
      refine J_iconst cx (v := nI 1) dL_begin_15 (by decide) ?_
      refine J_x ?_
      exact J_iret cx rfl (u := ((ad, X, upc cs 0 (cs 0), lf, pr, f) : US)) ⟨by rw [hc1], by rw [hc1]; decide, fun q => absurd (hc1.symm.trans q) (by decide), rfl, by rw [no_begin (by rw [hc1]; decide)]; exact ⟨hV, by rw [upc_self]; exact hw, hk⟩⟩ (by rw [no_begin (by rw [hc1]; decide)]) (Nat.le_of_ble_eq_true rfl) (Nat.le_of_ble_eq_true rfl) dL_begin_16
    · subst hEq
      refine ⟨17, ⟨[⟨0, 10, 13, 20⟩], ⟨0, 10, 17, 13⟩, [], _, rfl, (List.forall_mem_cons.mpr ⟨⟨by decide, "java/util/NoSuchElementException", lL_20, by decide, by decide, by decide⟩, (fun _ h => nomatch h)⟩), by decide, by decide, lL_13, cstIAE, rfl⟩, ?_⟩
      refine J_astore cx (L' := [(4, .ref q9), (0, .ref (ad 0 0)), (1, .int xc), (2, .int dy), (3, .ref o)]) dL_begin_17 (by decide) rfl ?_
      refine J_iconst cx (v := nI 2) dL_begin_19 (by decide) ?_
      refine J_x ?_
      exact J_iret cx rfl (u := ((ad, X, upc cs 0 (cs 0), lf, pr, f) : US)) ⟨by rw [hc1], by rw [hc1]; decide, fun q => absurd (hc1.symm.trans q) (by decide), rfl, by rw [no_begin (by rw [hc1]; decide)]; exact ⟨hV, by rw [upc_self]; exact hw, hk⟩⟩ (by rw [no_begin (by rw [hc1]; decide)]) (Nat.le_of_ble_eq_true rfl) (Nat.le_of_ble_eq_true rfl) dL_begin_20
  · obtain ⟨hc0, hr⟩ := hr; subst hr
    refine J_i2l cx (v := ((opBegin κ xc dy).2.1).toInt64) dL_begin_8 rfl ?_
    refine J_last cx (ws' := (iW ad g ((opBegin κ xc dy).2.2) X (upc cs 0 (bgC κ (cs 0) xc dy)) lf pr ++ [(o, .inl (g 1, 1, .inr (.inl (vp_updL f 0 (((opBegin κ xc dy).2.1).toInt64)))))])) (j := 0) (iW ad g ((opBegin κ xc dy).2.2) X (upc cs 0 (bgC κ (cs 0) xc dy)) lf pr).length at_end  rfl (by decide) (by decide) set_end dL_begin_9 ?_
    refine J_goto cx (tgt := 21) dL_begin_10 (by decide) ?_
    refine J_iconst cx (v := nI 0) dL_begin_21 (by decide) ?_
    refine J_x ?_
    exact J_iret cx rfl (u := ((ad, X, upc cs 0 (bgC κ (cs 0) xc dy), lf, pr, vp_updL f 0 (((opBegin κ xc dy).2.1).toInt64)) : US)) ⟨by rw [hc0], by rw [hc0]; decide, fun _ => (vu0 (f := f) (v := (((opBegin κ xc dy).2.1).toInt64))), rfl, ⟨IV_begin hV xc dy, WV_begin hw hV.1.1 xc dy, begin_k hV.1.1 hk xc dy⟩⟩ rfl (Nat.le_of_ble_eq_true rfl) (Nat.le_of_ble_eq_true rfl) dL_begin_22
set_option maxHeartbeats 4000000 in
set_option maxRecDepth 100000 in
theorem tL_step (l : Launch) (D : va_G) (g : Nat → ClassId) (A : Nat → Prop) (ad : Nat → Nat → Nat) (κ : CS) (X : XT) (cs : Nat → CT) (lf : Nat → Int64) (pr : PT) (o : Nat) (f : Nat → Int64) (rk : Int32) (htr : l.stackTraces = false) (hV : IV κ X) (hw : WV κ cs) (hk : κ.2.2.1 1 ≤ κ.2.2.1 0) (hd : κ.2.2.1 2 + 999 < 2147483648) : Met l yL_step (wsH yL_step cL_step 4 (some .int) [(0, 9, 12, 15), (0, 9, 15, 79)]) ({ frames := 8, cells := 2, slots := 12, locals := 136 } : Room) (va_Pc [.ref (ad 0 0), .int rk, .ref o] (PRE D g A (iW ad g κ X cs lf pr ++ [(o, .inl (g 1, 1, .inr (.inl f)))]))) (va_Qi (fun (r : Int32) (u : US) => AP ad ((opStep κ rk).2.2) ((opStep κ rk).1) ((opStep κ rk).2.1.toInt64) r u) (fun u => PO D A (iW u.1 g ((opStep κ rk).2.2) u.2.1 u.2.2.1 u.2.2.2.1 u.2.2.2.2.1 ++ [(o, .inl (g 1, 1, .inr (.inl u.2.2.2.2.2)))])) A) 2 12 A := by
  refine metH (by decide) (Nat.le_of_ble_eq_true rfl) ?_
  intro p e s m args below meth c _ htb cx
  refine J_aload_n cx dL_step_0 rfl 2 rfl ?_
  refine J_iconst cx (v := nI 0) dL_step_1 (by decide) ?_
  refine J_aload_n cx dL_step_2 rfl 0 rfl ?_
  refine J_iload_n cx dL_step_3 rfl 1 rfl ?_
  refine J_ws (ws' := iW ad g κ X (upc cs 0 (cs 0)) lf pr ++ [(o, .inl (g 1, 1, .inr (.inl f)))]) (by rw [upc_self]) ?_
  refine J_hcallVi cx htb kL_97 (As := [.int rk]) (frX (w := iW ad g κ X (upc cs 0 (cs 0)) lf pr) (wr := [(o, .inl (g 1, 1, .inr (.inl f)))]) (wx := iW ad g κ X (upc cs 0 (cs 0)) lf pr) (wx2 := iW ad g κ X (upc cs 0 (cs 0)) lf pr ++ [(o, .inl (g 1, 1, .inr (.inl f)))]) (List.Perm.refl _) (List.Perm.refl _) (qI (W2 := fun u9 => iW ad g ((opStep κ rk).2.2) X (upc cs 0 (stC κ (cs 0) rk)) lf pr ++ [(o, .inl (g 1, 1, .inr (.inl f)))]) (fun _ => List.Perm.refl _)) (tX6_step l D g _ ad κ X cs lf pr (cs 0) rk htr hV.1 hV.2.2.2.1 hw.1 (cd_nth hV.2.1 hV.1 hV.2.2.1))) ⟨rfl, rfl, by first | decide | (simp only [rmB, rmQ, rmJ, rmL]; omega), by first | decide | (simp only [rmB, rmQ, rmJ, rmL]; omega)⟩ ⟨by decide, by decide⟩ rfl 0 rfl rfl rfl (Nat.le_of_ble_eq_true rfl) dL_step_4 (fun E q9 hE => ?_) (fun r9 u9 hr => ?_)
  · rcases thr2 hE with ⟨hc1, hEq⟩ | ⟨hc1, hEq⟩
    · subst hEq
      refine ⟨12, ⟨[], ⟨0, 9, 12, 15⟩, [⟨0, 9, 15, 79⟩], _, rfl, (fun _ h => nomatch h), by decide, by decide, lL_15, cstISE, rfl⟩, ?_⟩
      refine J_astore_n cx (L' := [(3, .ref q9), (0, .ref (ad 0 0)), (1, .int rk), (2, .ref o)]) dL_step_12 rfl (by decide) rfl ?_
      refine J_iconst cx (v := nI 1) dL_step_13 (by decide) ?_
      refine J_x ?_
      exact J_iret cx rfl (u := ((ad, X, upc cs 0 (cs 0), lf, pr, f) : US)) ⟨by rw [hc1], by rw [hc1]; decide, fun q => absurd (hc1.symm.trans q) (by decide), rfl, by rw [no_step (by rw [hc1]; decide)]; exact ⟨hV, by rw [upc_self]; exact hw, hk⟩⟩ (by rw [no_step (by rw [hc1]; decide)]) (Nat.le_of_ble_eq_true rfl) (Nat.le_of_ble_eq_true rfl) dL_step_14
    · subst hEq
      refine ⟨15, ⟨[⟨0, 9, 12, 15⟩], ⟨0, 9, 15, 79⟩, [], _, rfl, (List.forall_mem_cons.mpr ⟨⟨by decide, "java/lang/IllegalStateException", lL_15, by decide, by decide, by decide⟩, (fun _ h => nomatch h)⟩), by decide, by decide, lL_79, cstIOB, rfl⟩, ?_⟩
      refine J_astore_n cx (L' := [(3, .ref q9), (0, .ref (ad 0 0)), (1, .int rk), (2, .ref o)]) dL_step_15 rfl (by decide) rfl ?_
      refine J_iconst cx (v := nI 2) dL_step_16 (by decide) ?_
      refine J_x ?_
      exact J_iret cx rfl (u := ((ad, X, upc cs 0 (cs 0), lf, pr, f) : US)) ⟨by rw [hc1], by rw [hc1]; decide, fun q => absurd (hc1.symm.trans q) (by decide), rfl, by rw [no_step (by rw [hc1]; decide)]; exact ⟨hV, by rw [upc_self]; exact hw, hk⟩⟩ (by rw [no_step (by rw [hc1]; decide)]) (Nat.le_of_ble_eq_true rfl) (Nat.le_of_ble_eq_true rfl) dL_step_17
  · obtain ⟨hc0, hr⟩ := hr; subst hr
    refine J_i2l cx (v := ((opStep κ rk).2.1).toInt64) dL_step_7 rfl ?_
    refine J_last cx (ws' := (iW ad g ((opStep κ rk).2.2) X (upc cs 0 (stC κ (cs 0) rk)) lf pr ++ [(o, .inl (g 1, 1, .inr (.inl (vp_updL f 0 (((opStep κ rk).2.1).toInt64)))))])) (j := 0) (iW ad g ((opStep κ rk).2.2) X (upc cs 0 (stC κ (cs 0) rk)) lf pr).length at_end  rfl (by decide) (by decide) set_end dL_step_8 ?_
    refine J_goto cx (tgt := 18) dL_step_9 (by decide) ?_
    refine J_iconst cx (v := nI 0) dL_step_18 (by decide) ?_
    refine J_x ?_
    exact J_iret cx rfl (u := ((ad, X, upc cs 0 (stC κ (cs 0) rk), lf, pr, vp_updL f 0 (((opStep κ rk).2.1).toInt64)) : US)) ⟨by rw [hc0], by rw [hc0]; decide, fun _ => (vu0 (f := f) (v := (((opStep κ rk).2.1).toInt64))), rfl, ⟨IV_step hV rk, WV_step hw hV.2.2.2.1 rk hc0, step_k hk rk⟩⟩ rfl (Nat.le_of_ble_eq_true rfl) (Nat.le_of_ble_eq_true rfl) dL_step_19
set_option maxHeartbeats 4000000 in
set_option maxRecDepth 100000 in
theorem tL_reached (l : Launch) (D : va_G) (g : Nat → ClassId) (A : Nat → Prop) (ad : Nat → Nat → Nat) (κ : CS) (X : XT) (cs : Nat → CT) (lf : Nat → Int64) (pr : PT) (o : Nat) (f : Nat → Int64)  (htr : l.stackTraces = false) (hV : IV κ X) (hw : WV κ cs) (hk : κ.2.2.1 1 ≤ κ.2.2.1 0) (hd : κ.2.2.1 2 + 999 < 2147483648) : Met l yL_reached (wsH yL_reached cL_reached 3 (some .int) [(0, 8, 11, 15)]) ({ frames := 8, cells := 1, slots := 6, locals := 131 } : Room) (va_Pc [.ref (ad 0 0), .ref o] (PRE D g A (iW ad g κ X cs lf pr ++ [(o, .inl (g 1, 1, .inr (.inl f)))]))) (va_Qi (fun (r : Int32) (u : US) => AP ad κ ((opReached κ).1) ((opReached κ).2.toInt64) r u) (fun u => PO D A (iW u.1 g κ u.2.1 u.2.2.1 u.2.2.2.1 u.2.2.2.2.1 ++ [(o, .inl (g 1, 1, .inr (.inl u.2.2.2.2.2)))])) A) 1 6 A := by
  refine metH (by decide) (Nat.le_of_ble_eq_true rfl) ?_
  intro p e s m args below meth c _ htb cx
  refine J_aload_n cx dL_reached_0 rfl 1 rfl ?_
  refine J_iconst cx (v := nI 0) dL_reached_1 (by decide) ?_
  refine J_aload_n cx dL_reached_2 rfl 0 rfl ?_
  refine J_ws (ws' := iW ad g κ X (upc cs 0 (cs 0)) lf pr ++ [(o, .inl (g 1, 1, .inr (.inl f)))]) (by rw [upc_self]) ?_
  refine J_hcallVi cx htb kL_100 (As := []) (frX (w := iW ad g κ X (upc cs 0 (cs 0)) lf pr) (wr := [(o, .inl (g 1, 1, .inr (.inl f)))]) (wx := iW ad g κ X (upc cs 0 (cs 0)) lf pr) (wx2 := iW ad g κ X (upc cs 0 (cs 0)) lf pr ++ [(o, .inl (g 1, 1, .inr (.inl f)))]) (List.Perm.refl _) (List.Perm.refl _) (qI (W2 := fun u9 => iW ad g κ X (upc cs 0 (cs 0)) lf pr ++ [(o, .inl (g 1, 1, .inr (.inl f)))]) (fun _ => List.Perm.refl _)) (tX6_reached l D g _ ad κ X cs lf pr (cs 0)  htr hV.1 hw.1)) ⟨rfl, rfl, by first | decide | (simp only [rmB, rmQ, rmJ, rmL]; omega), by first | decide | (simp only [rmB, rmQ, rmJ, rmL]; omega)⟩ ⟨by decide, by decide⟩ rfl 0 rfl rfl rfl (Nat.le_of_ble_eq_true rfl) dL_reached_3 (fun E q9 hE => ?_) (fun r9 u9 hr => ?_)
  · obtain ⟨hc1, hEq⟩ := thr1 hE
    subst hEq
    refine ⟨11, ⟨[], ⟨0, 8, 11, 15⟩, [], _, rfl, (fun _ h => nomatch h), by decide, by decide, lL_15, cstISE, rfl⟩, ?_⟩
    refine J_astore_n cx (L' := [(2, .ref q9), (0, .ref (ad 0 0)), (1, .ref o)]) dL_reached_11 rfl (by decide) rfl ?_
    refine J_iconst cx (v := nI 1) dL_reached_12 (by decide) ?_
    refine J_x ?_
    exact J_iret cx rfl (u := ((ad, X, upc cs 0 (cs 0), lf, pr, f) : US)) ⟨by rw [hc1], by rw [hc1]; decide, fun q => absurd (hc1.symm.trans q) (by decide), rfl, ⟨hV, by rw [upc_self]; exact hw, hk⟩⟩ rfl (Nat.le_of_ble_eq_true rfl) (Nat.le_of_ble_eq_true rfl) dL_reached_13
  · obtain ⟨hc0, hr⟩ := hr; subst hr
    refine J_i2l cx (v := ((opReached κ).2).toInt64) dL_reached_6 rfl ?_
    refine J_last cx (ws' := (iW ad g κ X (upc cs 0 (cs 0)) lf pr ++ [(o, .inl (g 1, 1, .inr (.inl (vp_updL f 0 (((opReached κ).2).toInt64)))))])) (j := 0) (iW ad g κ X (upc cs 0 (cs 0)) lf pr).length at_end  rfl (by decide) (by decide) set_end dL_reached_7 ?_
    refine J_goto cx (tgt := 14) dL_reached_8 (by decide) ?_
    refine J_iconst cx (v := nI 0) dL_reached_14 (by decide) ?_
    refine J_x ?_
    exact J_iret cx rfl (u := ((ad, X, upc cs 0 (cs 0), lf, pr, vp_updL f 0 (((opReached κ).2).toInt64)) : US)) ⟨by rw [hc0], by rw [hc0]; decide, fun _ => (vu0 (f := f) (v := (((opReached κ).2).toInt64))), rfl, ⟨hV, by rw [upc_self]; exact hw, hk⟩⟩ rfl (Nat.le_of_ble_eq_true rfl) (Nat.le_of_ble_eq_true rfl) dL_reached_15
set_option maxHeartbeats 4000000 in
set_option maxRecDepth 100000 in
theorem tL_chainSize (l : Launch) (D : va_G) (g : Nat → ClassId) (A : Nat → Prop) (ad : Nat → Nat → Nat) (κ : CS) (X : XT) (cs : Nat → CT) (lf : Nat → Int64) (pr : PT) (o : Nat) (f : Nat → Int64) (xc : Int32) (dy : Int32) (htr : l.stackTraces = false) (hV : IV κ X) (hw : WV κ cs) (hk : κ.2.2.1 1 ≤ κ.2.2.1 0) (hd : κ.2.2.1 2 + 999 < 2147483648) : Met l yL_chainSize (wsH yL_chainSize cL_chainSize 5 (some .int) [(0, 10, 13, 20), (0, 10, 17, 13)]) ({ frames := 14, cells := 2, slots := 12, locals := 369 } : Room) (va_Pc [.ref (ad 0 0), .int xc, .int dy, .ref o] (PRE D g A (iW ad g κ X cs lf pr ++ [(o, .inl (g 1, 1, .inr (.inl f)))]))) (va_Qi (fun (r : Int32) (u : US) => AP ad κ ((ocS κ X (cs 1) (cs 2) xc dy).1) ((ocS κ X (cs 1) (cs 2) xc dy).2.toInt64) r u) (fun u => PO D A (iW u.1 g κ u.2.1 u.2.2.1 u.2.2.2.1 u.2.2.2.2.1 ++ [(o, .inl (g 1, 1, .inr (.inl u.2.2.2.2.2)))])) A) 2 12 A := by
  refine metH (by decide) (Nat.le_of_ble_eq_true rfl) ?_
  intro p e s m args below meth c _ htb cx
  refine J_aload_n cx dL_chainSize_0 rfl 3 rfl ?_
  refine J_iconst cx (v := nI 0) dL_chainSize_1 (by decide) ?_
  refine J_aload_n cx dL_chainSize_2 rfl 0 rfl ?_
  refine J_iload_n cx dL_chainSize_3 rfl 1 rfl ?_
  refine J_iload_n cx dL_chainSize_4 rfl 2 rfl ?_
  refine J_ws (ws' := iW ad g κ X (upc (upc cs 1 (cs 1)) 2 (cs 2)) lf pr ++ [(o, .inl (g 1, 1, .inr (.inl f)))]) (by rw [upc_self, upc_self]) ?_
  refine J_hcallVi cx htb kL_81 (As := [.int xc, .int dy]) (frX (w := iW ad g κ X (upc (upc cs 1 (cs 1)) 2 (cs 2)) lf pr) (wr := [(o, .inl (g 1, 1, .inr (.inl f)))]) (wx := iW ad g κ X (upc (upc cs 1 (cs 1)) 2 (cs 2)) lf pr) (wx2 := iW ad g κ X (upc (upc cs 1 (cs 1)) 2 (cs 2)) lf pr ++ [(o, .inl (g 1, 1, .inr (.inl f)))]) (List.Perm.refl _) (List.Perm.refl _) (qI (W2 := fun u9 => iW ad g κ X (upc (upc cs 1 (sbK κ X (xj xc) dy (cs 1) (cs 2)).1) 2 (sbK κ X (xj xc) dy (cs 1) (cs 2)).2) lf pr ++ [(o, .inl (g 1, 1, .inr (.inl f)))]) (fun _ => List.Perm.refl _)) (tX6_chainSize l D g _ ad κ X cs lf pr (cs 1) (cs 2) xc dy htr hV.1 hV.2.2.2.1 hw.2.1 hw.2.2)) ⟨rfl, rfl, by first | decide | (simp only [rmB, rmQ, rmJ, rmL]; omega), by first | decide | (simp only [rmB, rmQ, rmJ, rmL]; omega)⟩ ⟨by decide, by decide⟩ rfl 0 rfl rfl rfl (Nat.le_of_ble_eq_true rfl) dL_chainSize_5 (fun E q9 hE => ?_) (fun r9 u9 hr => ?_)
  · rcases thr2 hE with ⟨hc1, hEq⟩ | ⟨hc1, hEq⟩
    · subst hEq
      refine ⟨13, ⟨[], ⟨0, 10, 13, 20⟩, [⟨0, 10, 17, 13⟩], _, rfl, (fun _ h => nomatch h), by decide, by decide, lL_20, cstNSE, rfl⟩, ?_⟩
      refine J_astore cx (L' := [(4, .ref q9), (0, .ref (ad 0 0)), (1, .int xc), (2, .int dy), (3, .ref o)]) dL_chainSize_13 (by decide) rfl ?_
      refine J_iconst cx (v := nI 1) dL_chainSize_15 (by decide) ?_
      refine J_x ?_
      exact J_iret cx rfl (u := ((ad, X, upc (upc cs 1 (cs 1)) 2 (cs 2), lf, pr, f) : US)) ⟨by rw [hc1], by rw [hc1]; decide, fun q => absurd (hc1.symm.trans q) (by decide), rfl, ⟨hV, by rw [upc_self, upc_self]; exact hw, hk⟩⟩ rfl (Nat.le_of_ble_eq_true rfl) (Nat.le_of_ble_eq_true rfl) dL_chainSize_16
    · subst hEq
      refine ⟨17, ⟨[⟨0, 10, 13, 20⟩], ⟨0, 10, 17, 13⟩, [], _, rfl, (List.forall_mem_cons.mpr ⟨⟨by decide, "java/util/NoSuchElementException", lL_20, by decide, by decide, by decide⟩, (fun _ h => nomatch h)⟩), by decide, by decide, lL_13, cstIAE, rfl⟩, ?_⟩
      refine J_astore cx (L' := [(4, .ref q9), (0, .ref (ad 0 0)), (1, .int xc), (2, .int dy), (3, .ref o)]) dL_chainSize_17 (by decide) rfl ?_
      refine J_iconst cx (v := nI 2) dL_chainSize_19 (by decide) ?_
      refine J_x ?_
      exact J_iret cx rfl (u := ((ad, X, upc (upc cs 1 (cs 1)) 2 (cs 2), lf, pr, f) : US)) ⟨by rw [hc1], by rw [hc1]; decide, fun q => absurd (hc1.symm.trans q) (by decide), rfl, ⟨hV, by rw [upc_self, upc_self]; exact hw, hk⟩⟩ rfl (Nat.le_of_ble_eq_true rfl) (Nat.le_of_ble_eq_true rfl) dL_chainSize_20
  · obtain ⟨hc0, hr⟩ := hr; subst hr
    refine J_i2l cx (v := ((ocS κ X (cs 1) (cs 2) xc dy).2).toInt64) dL_chainSize_8 rfl ?_
    refine J_last cx (ws' := (iW ad g κ X (upc (upc cs 1 (sbK κ X (xj xc) dy (cs 1) (cs 2)).1) 2 (sbK κ X (xj xc) dy (cs 1) (cs 2)).2) lf pr ++ [(o, .inl (g 1, 1, .inr (.inl (vp_updL f 0 (((ocS κ X (cs 1) (cs 2) xc dy).2).toInt64)))))])) (j := 0) (iW ad g κ X (upc (upc cs 1 (sbK κ X (xj xc) dy (cs 1) (cs 2)).1) 2 (sbK κ X (xj xc) dy (cs 1) (cs 2)).2) lf pr).length at_end  rfl (by decide) (by decide) set_end dL_chainSize_9 ?_
    refine J_goto cx (tgt := 21) dL_chainSize_10 (by decide) ?_
    refine J_iconst cx (v := nI 0) dL_chainSize_21 (by decide) ?_
    refine J_x ?_
    exact J_iret cx rfl (u := ((ad, X, upc (upc cs 1 (sbK κ X (xj xc) dy (cs 1) (cs 2)).1) 2 (sbK κ X (xj xc) dy (cs 1) (cs 2)).2, lf, pr, vp_updL f 0 (((ocS κ X (cs 1) (cs 2) xc dy).2).toInt64)) : US)) ⟨by rw [hc0], by rw [hc0]; decide, fun _ => (vu0 (f := f) (v := (((ocS κ X (cs 1) (cs 2) xc dy).2).toInt64))), rfl, (by obtain ⟨k1, k2⟩ := sbK_ok (d := dy) hV.2.2.2.1 hV.1 (wr_lt hc0 hV.1.1) hw.2.1 hw.2.2; exact ⟨hV, WV_12 hw k1 k2, hk⟩)⟩ rfl (Nat.le_of_ble_eq_true rfl) (Nat.le_of_ble_eq_true rfl) dL_chainSize_22
set_option maxHeartbeats 4000000 in
set_option maxRecDepth 100000 in
theorem tL_chainAt (l : Launch) (D : va_G) (g : Nat → ClassId) (A : Nat → Prop) (ad : Nat → Nat → Nat) (κ : CS) (X : XT) (cs : Nat → CT) (lf : Nat → Int64) (pr : PT) (o : Nat) (f : Nat → Int64) (xc : Int32) (dy : Int32) (xi : Int32) (htr : l.stackTraces = false) (hV : IV κ X) (hw : WV κ cs) (hk : κ.2.2.1 1 ≤ κ.2.2.1 0) (hd : κ.2.2.1 2 + 999 < 2147483648) : Met l yL_chainAt (wsH yL_chainAt cL_chainAt 6 (some .int) [(0, 12, 15, 20), (0, 12, 19, 13), (0, 12, 23, 79)]) ({ frames := 14, cells := 3, slots := 18, locals := 371 } : Room) (va_Pc [.ref (ad 0 0), .int xc, .int dy, .int xi, .ref o] (PRE D g A (iW ad g κ X cs lf pr ++ [(o, .inl (g 1, 1, .inr (.inl f)))]))) (va_Qi (fun (r : Int32) (u : US) => AP ad κ ((ocT κ X (cs 1) (cs 2) xc dy xi).1) ((ocT κ X (cs 1) (cs 2) xc dy xi).2.toInt64) r u) (fun u => PO D A (iW u.1 g κ u.2.1 u.2.2.1 u.2.2.2.1 u.2.2.2.2.1 ++ [(o, .inl (g 1, 1, .inr (.inl u.2.2.2.2.2)))])) A) 3 18 A := by
  refine metH (by decide) (Nat.le_of_ble_eq_true rfl) ?_
  intro p e s m args below meth c _ htb cx
  refine J_aload cx dL_chainAt_0 4 rfl ?_
  refine J_iconst cx (v := nI 0) dL_chainAt_2 (by decide) ?_
  refine J_aload_n cx dL_chainAt_3 rfl 0 rfl ?_
  refine J_iload_n cx dL_chainAt_4 rfl 1 rfl ?_
  refine J_iload_n cx dL_chainAt_5 rfl 2 rfl ?_
  refine J_iload_n cx dL_chainAt_6 rfl 3 rfl ?_
  refine J_ws (ws' := iW ad g κ X (upc (upc cs 1 (cs 1)) 2 (cs 2)) lf pr ++ [(o, .inl (g 1, 1, .inr (.inl f)))]) (by rw [upc_self, upc_self]) ?_
  refine J_hcallVi cx htb kL_84 (As := [.int xc, .int dy, .int xi]) (frX (w := iW ad g κ X (upc (upc cs 1 (cs 1)) 2 (cs 2)) lf pr) (wr := [(o, .inl (g 1, 1, .inr (.inl f)))]) (wx := iW ad g κ X (upc (upc cs 1 (csW κ X (cs 1) (cs 2) xc dy).1) 2 (csW κ X (cs 1) (cs 2) xc dy).2) lf pr) (wx2 := iW ad g κ X (upc (upc cs 1 (csW κ X (cs 1) (cs 2) xc dy).1) 2 (csW κ X (cs 1) (cs 2) xc dy).2) lf pr ++ [(o, .inl (g 1, 1, .inr (.inl f)))]) (List.Perm.refl _) (List.Perm.refl _) (qI (W2 := fun u9 => iW ad g κ X (upc (upc cs 1 (csW κ X (cs 1) (cs 2) xc dy).1) 2 (csW κ X (cs 1) (cs 2) xc dy).2) lf pr ++ [(o, .inl (g 1, 1, .inr (.inl f)))]) (fun _ => List.Perm.refl _)) (tX6_chainAt l D g _ ad κ X cs lf pr (cs 1) (cs 2) xc dy xi htr hV.1 hV.2.2.2.1 hw.2.1 hw.2.2)) ⟨rfl, rfl, by first | decide | (simp only [rmB, rmQ, rmJ, rmL]; omega), by first | decide | (simp only [rmB, rmQ, rmJ, rmL]; omega)⟩ ⟨by decide, by decide⟩ rfl 0 rfl rfl rfl (Nat.le_of_ble_eq_true rfl) dL_chainAt_7 (fun E q9 hE => ?_) (fun r9 u9 hr => ?_)
  · rcases thr3 hE with ⟨hc1, hEq⟩ | ⟨hc1, hEq⟩ | ⟨hc1, hEq⟩
    · subst hEq
      refine ⟨15, ⟨[], ⟨0, 12, 15, 20⟩, [⟨0, 12, 19, 13⟩, ⟨0, 12, 23, 79⟩], _, rfl, (fun _ h => nomatch h), by decide, by decide, lL_20, cstNSE, rfl⟩, ?_⟩
      refine J_astore cx (L' := [(5, .ref q9), (0, .ref (ad 0 0)), (1, .int xc), (2, .int dy), (3, .int xi), (4, .ref o)]) dL_chainAt_15 (by decide) rfl ?_
      refine J_iconst cx (v := nI 1) dL_chainAt_17 (by decide) ?_
      refine J_x ?_
      exact J_iret cx rfl (u := ((ad, X, upc (upc cs 1 (csW κ X (cs 1) (cs 2) xc dy).1) 2 (csW κ X (cs 1) (cs 2) xc dy).2, lf, pr, f) : US)) ⟨by rw [hc1], by rw [hc1]; decide, fun q => absurd (hc1.symm.trans q) (by decide), rfl, (by obtain ⟨k1, k2⟩ := csW_ok (xc := xc) (dy := dy) hV hw; exact ⟨hV, WV_12 hw k1 k2, hk⟩)⟩ rfl (Nat.le_of_ble_eq_true rfl) (Nat.le_of_ble_eq_true rfl) dL_chainAt_18
    · subst hEq
      refine ⟨19, ⟨[⟨0, 12, 15, 20⟩], ⟨0, 12, 19, 13⟩, [⟨0, 12, 23, 79⟩], _, rfl, (List.forall_mem_cons.mpr ⟨⟨by decide, "java/util/NoSuchElementException", lL_20, by decide, by decide, by decide⟩, (fun _ h => nomatch h)⟩), by decide, by decide, lL_13, cstIAE, rfl⟩, ?_⟩
      refine J_astore cx (L' := [(5, .ref q9), (0, .ref (ad 0 0)), (1, .int xc), (2, .int dy), (3, .int xi), (4, .ref o)]) dL_chainAt_19 (by decide) rfl ?_
      refine J_iconst cx (v := nI 2) dL_chainAt_21 (by decide) ?_
      refine J_x ?_
      exact J_iret cx rfl (u := ((ad, X, upc (upc cs 1 (csW κ X (cs 1) (cs 2) xc dy).1) 2 (csW κ X (cs 1) (cs 2) xc dy).2, lf, pr, f) : US)) ⟨by rw [hc1], by rw [hc1]; decide, fun q => absurd (hc1.symm.trans q) (by decide), rfl, (by obtain ⟨k1, k2⟩ := csW_ok (xc := xc) (dy := dy) hV hw; exact ⟨hV, WV_12 hw k1 k2, hk⟩)⟩ rfl (Nat.le_of_ble_eq_true rfl) (Nat.le_of_ble_eq_true rfl) dL_chainAt_22
    · subst hEq
      refine ⟨23, ⟨[⟨0, 12, 15, 20⟩, ⟨0, 12, 19, 13⟩], ⟨0, 12, 23, 79⟩, [], _, rfl, (List.forall_mem_cons.mpr ⟨⟨by decide, "java/util/NoSuchElementException", lL_20, by decide, by decide, by decide⟩, (List.forall_mem_cons.mpr ⟨⟨by decide, "java/lang/IllegalArgumentException", lL_13, by decide, by decide, by decide⟩, (fun _ h => nomatch h)⟩)⟩), by decide, by decide, lL_79, cstIOB, rfl⟩, ?_⟩
      refine J_astore cx (L' := [(5, .ref q9), (0, .ref (ad 0 0)), (1, .int xc), (2, .int dy), (3, .int xi), (4, .ref o)]) dL_chainAt_23 (by decide) rfl ?_
      refine J_iconst cx (v := nI 3) dL_chainAt_25 (by decide) ?_
      refine J_x ?_
      exact J_iret cx rfl (u := ((ad, X, upc (upc cs 1 (csW κ X (cs 1) (cs 2) xc dy).1) 2 (csW κ X (cs 1) (cs 2) xc dy).2, lf, pr, f) : US)) ⟨by rw [hc1], by rw [hc1]; decide, fun q => absurd (hc1.symm.trans q) (by decide), rfl, (by obtain ⟨k1, k2⟩ := csW_ok (xc := xc) (dy := dy) hV hw; exact ⟨hV, WV_12 hw k1 k2, hk⟩)⟩ rfl (Nat.le_of_ble_eq_true rfl) (Nat.le_of_ble_eq_true rfl) dL_chainAt_26
  · obtain ⟨hc0, hr⟩ := hr; subst hr
    refine J_i2l cx (v := ((ocT κ X (cs 1) (cs 2) xc dy xi).2).toInt64) dL_chainAt_10 rfl ?_
    refine J_last cx (ws' := (iW ad g κ X (upc (upc cs 1 (csW κ X (cs 1) (cs 2) xc dy).1) 2 (csW κ X (cs 1) (cs 2) xc dy).2) lf pr ++ [(o, .inl (g 1, 1, .inr (.inl (vp_updL f 0 (((ocT κ X (cs 1) (cs 2) xc dy xi).2).toInt64)))))])) (j := 0) (iW ad g κ X (upc (upc cs 1 (csW κ X (cs 1) (cs 2) xc dy).1) 2 (csW κ X (cs 1) (cs 2) xc dy).2) lf pr).length at_end  rfl (by decide) (by decide) set_end dL_chainAt_11 ?_
    refine J_goto cx (tgt := 27) dL_chainAt_12 (by decide) ?_
    refine J_iconst cx (v := nI 0) dL_chainAt_27 (by decide) ?_
    refine J_x ?_
    exact J_iret cx rfl (u := ((ad, X, upc (upc cs 1 (csW κ X (cs 1) (cs 2) xc dy).1) 2 (csW κ X (cs 1) (cs 2) xc dy).2, lf, pr, vp_updL f 0 (((ocT κ X (cs 1) (cs 2) xc dy xi).2).toInt64)) : US)) ⟨by rw [hc0], by rw [hc0]; decide, fun _ => (vu0 (f := f) (v := (((ocT κ X (cs 1) (cs 2) xc dy xi).2).toInt64))), rfl, (by obtain ⟨k1, k2⟩ := csW_ok (xc := xc) (dy := dy) hV hw; exact ⟨hV, WV_12 hw k1 k2, hk⟩)⟩ rfl (Nat.le_of_ble_eq_true rfl) (Nat.le_of_ble_eq_true rfl) dL_chainAt_28
set_option maxHeartbeats 4000000 in
set_option maxRecDepth 100000 in
theorem tL_goodChains (l : Launch) (D : va_G) (g : Nat → ClassId) (A : Nat → Prop) (ad : Nat → Nat → Nat) (κ : CS) (X : XT) (cs : Nat → CT) (lf : Nat → Int64) (pr : PT) (o : Nat) (f : Nat → Int64) (xc : Int32) (dy : Int32) (htr : l.stackTraces = false) (hV : IV κ X) (hw : WV κ cs) (hk : κ.2.2.1 1 ≤ κ.2.2.1 0) (hd : κ.2.2.1 2 + 999 < 2147483648) : Met l yL_goodChains (wsH yL_goodChains cL_goodChains 5 (some .int) [(0, 10, 13, 20), (0, 10, 17, 13)]) ({ frames := 14, cells := 2, slots := 12, locals := 369 } : Room) (va_Pc [.ref (ad 0 0), .int xc, .int dy, .ref o] (PRE D g A (iW ad g κ X cs lf pr ++ [(o, .inl (g 1, 1, .inr (.inl f)))]))) (va_Qi (fun (r : Int32) (u : US) => AP ad κ ((ocG κ X (cs 1) xc dy).1) ((ocG κ X (cs 1) xc dy).2.toInt64) r u) (fun u => PO D A (iW u.1 g κ u.2.1 u.2.2.1 u.2.2.2.1 u.2.2.2.2.1 ++ [(o, .inl (g 1, 1, .inr (.inl u.2.2.2.2.2)))])) A) 2 12 A := by
  refine metH (by decide) (Nat.le_of_ble_eq_true rfl) ?_
  intro p e s m args below meth c _ htb cx
  refine J_aload_n cx dL_goodChains_0 rfl 3 rfl ?_
  refine J_iconst cx (v := nI 0) dL_goodChains_1 (by decide) ?_
  refine J_aload_n cx dL_goodChains_2 rfl 0 rfl ?_
  refine J_iload_n cx dL_goodChains_3 rfl 1 rfl ?_
  refine J_iload_n cx dL_goodChains_4 rfl 2 rfl ?_
  refine J_ws (ws' := iW ad g κ X (upc cs 1 (cs 1)) lf pr ++ [(o, .inl (g 1, 1, .inr (.inl f)))]) (by rw [upc_self]) ?_
  refine J_hcallVi cx htb kL_87 (As := [.int xc, .int dy]) (frX (w := iW ad g κ X (upc cs 1 (cs 1)) lf pr) (wr := [(o, .inl (g 1, 1, .inr (.inl f)))]) (wx := iW ad g κ X (upc cs 1 (cs 1)) lf pr) (wx2 := iW ad g κ X (upc cs 1 (cs 1)) lf pr ++ [(o, .inl (g 1, 1, .inr (.inl f)))]) (List.Perm.refl _) (List.Perm.refl _) (qI (W2 := fun u9 => iW ad g κ X (upc cs 1 (cjK κ X 7 (va_up (cs 1).1 0 (some (xj xc)), 1, dy)).2) lf pr ++ [(o, .inl (g 1, 1, .inr (.inl f)))]) (fun _ => List.Perm.refl _)) (tX6_goodChains l D g _ ad κ X cs lf pr (cs 1) xc dy htr hV.1 hV.2.2.2.1 hw.2.1)) ⟨rfl, rfl, by first | decide | (simp only [rmB, rmQ, rmJ, rmL]; omega), by first | decide | (simp only [rmB, rmQ, rmJ, rmL]; omega)⟩ ⟨by decide, by decide⟩ rfl 0 rfl rfl rfl (Nat.le_of_ble_eq_true rfl) dL_goodChains_5 (fun E q9 hE => ?_) (fun r9 u9 hr => ?_)
  · rcases thr2 hE with ⟨hc1, hEq⟩ | ⟨hc1, hEq⟩
    · subst hEq
      refine ⟨13, ⟨[], ⟨0, 10, 13, 20⟩, [⟨0, 10, 17, 13⟩], _, rfl, (fun _ h => nomatch h), by decide, by decide, lL_20, cstNSE, rfl⟩, ?_⟩
      refine J_astore cx (L' := [(4, .ref q9), (0, .ref (ad 0 0)), (1, .int xc), (2, .int dy), (3, .ref o)]) dL_goodChains_13 (by decide) rfl ?_
      refine J_iconst cx (v := nI 1) dL_goodChains_15 (by decide) ?_
      refine J_x ?_
      exact J_iret cx rfl (u := ((ad, X, upc cs 1 (cs 1), lf, pr, f) : US)) ⟨by rw [hc1], by rw [hc1]; decide, fun q => absurd (hc1.symm.trans q) (by decide), rfl, ⟨hV, by rw [upc_self]; exact hw, hk⟩⟩ rfl (Nat.le_of_ble_eq_true rfl) (Nat.le_of_ble_eq_true rfl) dL_goodChains_16
    · subst hEq
      refine ⟨17, ⟨[⟨0, 10, 13, 20⟩], ⟨0, 10, 17, 13⟩, [], _, rfl, (List.forall_mem_cons.mpr ⟨⟨by decide, "java/util/NoSuchElementException", lL_20, by decide, by decide, by decide⟩, (fun _ h => nomatch h)⟩), by decide, by decide, lL_13, cstIAE, rfl⟩, ?_⟩
      refine J_astore cx (L' := [(4, .ref q9), (0, .ref (ad 0 0)), (1, .int xc), (2, .int dy), (3, .ref o)]) dL_goodChains_17 (by decide) rfl ?_
      refine J_iconst cx (v := nI 2) dL_goodChains_19 (by decide) ?_
      refine J_x ?_
      exact J_iret cx rfl (u := ((ad, X, upc cs 1 (cs 1), lf, pr, f) : US)) ⟨by rw [hc1], by rw [hc1]; decide, fun q => absurd (hc1.symm.trans q) (by decide), rfl, ⟨hV, by rw [upc_self]; exact hw, hk⟩⟩ rfl (Nat.le_of_ble_eq_true rfl) (Nat.le_of_ble_eq_true rfl) dL_goodChains_20
  · obtain ⟨hc0, hr⟩ := hr; subst hr
    refine J_i2l cx (v := ((ocG κ X (cs 1) xc dy).2).toInt64) dL_goodChains_8 rfl ?_
    refine J_last cx (ws' := (iW ad g κ X (upc cs 1 (cjK κ X 7 (va_up (cs 1).1 0 (some (xj xc)), 1, dy)).2) lf pr ++ [(o, .inl (g 1, 1, .inr (.inl (vp_updL f 0 (((ocG κ X (cs 1) xc dy).2).toInt64)))))])) (j := 0) (iW ad g κ X (upc cs 1 (cjK κ X 7 (va_up (cs 1).1 0 (some (xj xc)), 1, dy)).2) lf pr).length at_end  rfl (by decide) (by decide) set_end dL_goodChains_9 ?_
    refine J_goto cx (tgt := 21) dL_goodChains_10 (by decide) ?_
    refine J_iconst cx (v := nI 0) dL_goodChains_21 (by decide) ?_
    refine J_x ?_
    exact J_iret cx rfl (u := ((ad, X, upc cs 1 (cjK κ X 7 (va_up (cs 1).1 0 (some (xj xc)), 1, dy)).2, lf, pr, vp_updL f 0 (((ocG κ X (cs 1) xc dy).2).toInt64)) : US)) ⟨by rw [hc0], by rw [hc0]; decide, fun _ => (vu0 (f := f) (v := (((ocG κ X (cs 1) xc dy).2).toInt64))), rfl, ⟨hV, WV_1 hw (ctK_keep (okJ_7 (κ := κ)) hV.1 7 _ (restart_ok hw.2.1 (wr_lt hc0 hV.1.1)) (Nat.le_refl 1)).1, hk⟩⟩ rfl (Nat.le_of_ble_eq_true rfl) (Nat.le_of_ble_eq_true rfl) dL_goodChains_22
set_option maxHeartbeats 4000000 in
set_option maxRecDepth 100000 in
theorem tL_goodChainsByWalks (l : Launch) (D : va_G) (g : Nat → ClassId) (A : Nat → Prop) (ad : Nat → Nat → Nat) (κ : CS) (X : XT) (cs : Nat → CT) (lf : Nat → Int64) (pr : PT) (o : Nat) (f : Nat → Int64) (xc : Int32) (dy : Int32) (htr : l.stackTraces = false) (hV : IV κ X) (hw : WV κ cs) (hk : κ.2.2.1 1 ≤ κ.2.2.1 0) (hd : κ.2.2.1 2 + 999 < 2147483648) : Met l yL_goodChainsByWalks (wsH yL_goodChainsByWalks cL_goodChainsByWalks 5 (some .int) [(0, 10, 13, 20), (0, 10, 17, 13)]) ({ frames := 13, cells := 2, slots := 12, locals := 347 } : Room) (va_Pc [.ref (ad 0 0), .int xc, .int dy, .ref o] (PRE D g A (iW ad g κ X cs lf pr ++ [(o, .inl (g 1, 1, .inr (.inl f)))]))) (va_Qi (fun (r : Int32) (u : US) => AP ad κ ((ocH κ X (cs 1) xc dy).1) ((ocH κ X (cs 1) xc dy).2.toInt64) r u) (fun u => PO D A (iW u.1 g κ u.2.1 u.2.2.1 u.2.2.2.1 u.2.2.2.2.1 ++ [(o, .inl (g 1, 1, .inr (.inl u.2.2.2.2.2)))])) A) 2 12 A := by
  refine metH (by decide) (Nat.le_of_ble_eq_true rfl) ?_
  intro p e s m args below meth c _ htb cx
  refine J_aload_n cx dL_goodChainsByWalks_0 rfl 3 rfl ?_
  refine J_iconst cx (v := nI 0) dL_goodChainsByWalks_1 (by decide) ?_
  refine J_aload_n cx dL_goodChainsByWalks_2 rfl 0 rfl ?_
  refine J_iload_n cx dL_goodChainsByWalks_3 rfl 1 rfl ?_
  refine J_iload_n cx dL_goodChainsByWalks_4 rfl 2 rfl ?_
  refine J_ws (ws' := iW ad g κ X (upc cs 1 (cs 1)) lf pr ++ [(o, .inl (g 1, 1, .inr (.inl f)))]) (by rw [upc_self]) ?_
  refine J_hcallVi cx htb kL_90 (As := [.int xc, .int dy]) (frX (w := iW ad g κ X (upc cs 1 (cs 1)) lf pr) (wr := [(o, .inl (g 1, 1, .inr (.inl f)))]) (wx := iW ad g κ X (upc cs 1 (cs 1)) lf pr) (wx2 := iW ad g κ X (upc cs 1 (cs 1)) lf pr ++ [(o, .inl (g 1, 1, .inr (.inl f)))]) (List.Perm.refl _) (List.Perm.refl _) (qI (W2 := fun u9 => iW ad g κ X (upc cs 1 (gwK2 κ X (cs 1) (xj xc) dy).2) lf pr ++ [(o, .inl (g 1, 1, .inr (.inl f)))]) (fun _ => List.Perm.refl _)) (tX6_goodChainsByWalks l D g _ ad κ X cs lf pr (cs 1) xc dy htr hV.1 hV.2.2.2.1 hw.2.1)) ⟨rfl, rfl, by first | decide | (simp only [rmB, rmQ, rmJ, rmL]; omega), by first | decide | (simp only [rmB, rmQ, rmJ, rmL]; omega)⟩ ⟨by decide, by decide⟩ rfl 0 rfl rfl rfl (Nat.le_of_ble_eq_true rfl) dL_goodChainsByWalks_5 (fun E q9 hE => ?_) (fun r9 u9 hr => ?_)
  · rcases thr2 hE with ⟨hc1, hEq⟩ | ⟨hc1, hEq⟩
    · subst hEq
      refine ⟨13, ⟨[], ⟨0, 10, 13, 20⟩, [⟨0, 10, 17, 13⟩], _, rfl, (fun _ h => nomatch h), by decide, by decide, lL_20, cstNSE, rfl⟩, ?_⟩
      refine J_astore cx (L' := [(4, .ref q9), (0, .ref (ad 0 0)), (1, .int xc), (2, .int dy), (3, .ref o)]) dL_goodChainsByWalks_13 (by decide) rfl ?_
      refine J_iconst cx (v := nI 1) dL_goodChainsByWalks_15 (by decide) ?_
      refine J_x ?_
      exact J_iret cx rfl (u := ((ad, X, upc cs 1 (cs 1), lf, pr, f) : US)) ⟨by rw [hc1], by rw [hc1]; decide, fun q => absurd (hc1.symm.trans q) (by decide), rfl, ⟨hV, by rw [upc_self]; exact hw, hk⟩⟩ rfl (Nat.le_of_ble_eq_true rfl) (Nat.le_of_ble_eq_true rfl) dL_goodChainsByWalks_16
    · subst hEq
      refine ⟨17, ⟨[⟨0, 10, 13, 20⟩], ⟨0, 10, 17, 13⟩, [], _, rfl, (List.forall_mem_cons.mpr ⟨⟨by decide, "java/util/NoSuchElementException", lL_20, by decide, by decide, by decide⟩, (fun _ h => nomatch h)⟩), by decide, by decide, lL_13, cstIAE, rfl⟩, ?_⟩
      refine J_astore cx (L' := [(4, .ref q9), (0, .ref (ad 0 0)), (1, .int xc), (2, .int dy), (3, .ref o)]) dL_goodChainsByWalks_17 (by decide) rfl ?_
      refine J_iconst cx (v := nI 2) dL_goodChainsByWalks_19 (by decide) ?_
      refine J_x ?_
      exact J_iret cx rfl (u := ((ad, X, upc cs 1 (cs 1), lf, pr, f) : US)) ⟨by rw [hc1], by rw [hc1]; decide, fun q => absurd (hc1.symm.trans q) (by decide), rfl, ⟨hV, by rw [upc_self]; exact hw, hk⟩⟩ rfl (Nat.le_of_ble_eq_true rfl) (Nat.le_of_ble_eq_true rfl) dL_goodChainsByWalks_20
  · obtain ⟨hc0, hr⟩ := hr; subst hr
    refine J_i2l cx (v := ((ocH κ X (cs 1) xc dy).2).toInt64) dL_goodChainsByWalks_8 rfl ?_
    refine J_last cx (ws' := (iW ad g κ X (upc cs 1 (gwK2 κ X (cs 1) (xj xc) dy).2) lf pr ++ [(o, .inl (g 1, 1, .inr (.inl (vp_updL f 0 (((ocH κ X (cs 1) xc dy).2).toInt64)))))])) (j := 0) (iW ad g κ X (upc cs 1 (gwK2 κ X (cs 1) (xj xc) dy).2) lf pr).length at_end  rfl (by decide) (by decide) set_end dL_goodChainsByWalks_9 ?_
    refine J_goto cx (tgt := 21) dL_goodChainsByWalks_10 (by decide) ?_
    refine J_iconst cx (v := nI 0) dL_goodChainsByWalks_21 (by decide) ?_
    refine J_x ?_
    exact J_iret cx rfl (u := ((ad, X, upc cs 1 (gwK2 κ X (cs 1) (xj xc) dy).2, lf, pr, vp_updL f 0 (((ocH κ X (cs 1) xc dy).2).toInt64)) : US)) ⟨by rw [hc0], by rw [hc0]; decide, fun _ => (vu0 (f := f) (v := (((ocH κ X (cs 1) xc dy).2).toInt64))), rfl, ⟨hV, WV_1 hw (gw_ok hV hw.2.1 (wr_lt hc0 hV.1.1)), hk⟩⟩ rfl (Nat.le_of_ble_eq_true rfl) (Nat.le_of_ble_eq_true rfl) dL_goodChainsByWalks_22
set_option maxHeartbeats 4000000 in
set_option maxRecDepth 100000 in
theorem tL_rootOf (l : Launch) (D : va_G) (g : Nat → ClassId) (A : Nat → Prop) (ad : Nat → Nat → Nat) (κ : CS) (X : XT) (cs : Nat → CT) (lf : Nat → Int64) (pr : PT) (o : Nat) (f : Nat → Int64) (xs : Int32) (htr : l.stackTraces = false) (hV : IV κ X) (hw : WV κ cs) (hk : κ.2.2.1 1 ≤ κ.2.2.1 0) (hd : κ.2.2.1 2 + 999 < 2147483648) : Met l yL_rootOf (wsH yL_rootOf cL_rootOf 4 (some .int) [(0, 8, 11, 13)]) ({ frames := 11, cells := 1, slots := 6, locals := 265 } : Room) (va_Pc [.ref (ad 0 0), .int xs, .ref o] (PRE D g A (iW ad g κ X cs lf pr ++ [(o, .inl (g 1, 1, .inr (.inl f)))]))) (va_Qi (fun (r : Int32) (u : US) => AP ad κ ((opRoot κ xs).1) ((opRoot κ xs).2) r u) (fun u => PO D A (iW u.1 g κ u.2.1 u.2.2.1 u.2.2.2.1 u.2.2.2.2.1 ++ [(o, .inl (g 1, 1, .inr (.inl u.2.2.2.2.2)))])) A) 1 6 A := by
  refine metH (by decide) (Nat.le_of_ble_eq_true rfl) ?_
  intro p e s m args below meth c _ htb cx
  refine J_aload_n cx dL_rootOf_0 rfl 2 rfl ?_
  refine J_iconst cx (v := nI 0) dL_rootOf_1 (by decide) ?_
  refine J_aload_n cx dL_rootOf_2 rfl 0 rfl ?_
  refine J_iload_n cx dL_rootOf_3 rfl 1 rfl ?_
  refine J_hcallVl cx htb kL_104 (As := [.int xs]) (frX (w := iW ad g κ X cs lf pr) (wr := [(o, .inl (g 1, 1, .inr (.inl f)))]) (wx := iW ad g κ X cs lf pr) (wx2 := iW ad g κ X cs lf pr ++ [(o, .inl (g 1, 1, .inr (.inl f)))]) (List.Perm.refl _) (List.Perm.refl _) (qL (W2 := fun u9 => iW ad g κ X cs lf pr ++ [(o, .inl (g 1, 1, .inr (.inl f)))]) (fun _ => List.Perm.refl _)) (tX6_rootOf l D g _ ad κ X cs lf pr  xs htr hV.2.2.2.2.2.2.2.2.1 hV.1.1)) ⟨rfl, rfl, by first | decide | (simp only [rmB, rmQ, rmJ, rmL]; omega), by first | decide | (simp only [rmB, rmQ, rmJ, rmL]; omega)⟩ ⟨by decide, by decide⟩ rfl 0 rfl rfl rfl (Nat.le_of_ble_eq_true rfl) dL_rootOf_4 (fun E q9 hE => ?_) (fun r9 u9 hr => ?_)
  · obtain ⟨hc1, hEq⟩ := thr1 hE
    subst hEq
    refine ⟨11, ⟨[], ⟨0, 8, 11, 13⟩, [], _, rfl, (fun _ h => nomatch h), by decide, by decide, lL_13, cstIAE, rfl⟩, ?_⟩
    refine J_astore_n cx (L' := [(3, .ref q9), (0, .ref (ad 0 0)), (1, .int xs), (2, .ref o)]) dL_rootOf_11 rfl (by decide) rfl ?_
    refine J_iconst cx (v := nI 1) dL_rootOf_12 (by decide) ?_
    refine J_x ?_
    exact J_iret cx rfl (u := ((ad, X, cs, lf, pr, f) : US)) ⟨by rw [hc1], by rw [hc1]; decide, fun q => absurd (hc1.symm.trans q) (by decide), rfl, ⟨hV, hw, hk⟩⟩ rfl (Nat.le_of_ble_eq_true rfl) (Nat.le_of_ble_eq_true rfl) dL_rootOf_13
  · obtain ⟨hc0, hr⟩ := hr; subst hr
    refine J_last cx (ws' := (iW ad g κ X cs lf pr ++ [(o, .inl (g 1, 1, .inr (.inl (vp_updL f 0 ((opRoot κ xs).2)))))])) (j := 0) (iW ad g κ X cs lf pr).length at_end  rfl (by decide) (by decide) set_end dL_rootOf_7 ?_
    refine J_goto cx (tgt := 14) dL_rootOf_8 (by decide) ?_
    refine J_iconst cx (v := nI 0) dL_rootOf_14 (by decide) ?_
    refine J_x ?_
    exact J_iret cx rfl (u := ((ad, X, cs, lf, pr, vp_updL f 0 ((opRoot κ xs).2)) : US)) ⟨by rw [hc0], by rw [hc0]; decide, fun _ => (vu0 (f := f) (v := ((opRoot κ xs).2))), rfl, ⟨hV, hw, hk⟩⟩ rfl (Nat.le_of_ble_eq_true rfl) (Nat.le_of_ble_eq_true rfl) dL_rootOf_15
set_option maxHeartbeats 4000000 in
set_option maxRecDepth 100000 in
theorem tL_rootByJoining (l : Launch) (D : va_G) (g : Nat → ClassId) (A : Nat → Prop) (ad : Nat → Nat → Nat) (κ : CS) (X : XT) (cs : Nat → CT) (lf : Nat → Int64) (pr : PT) (o : Nat) (f : Nat → Int64) (xs : Int32) (htr : l.stackTraces = false) (hV : IV κ X) (hw : WV κ cs) (hk : κ.2.2.1 1 ≤ κ.2.2.1 0) (hd : κ.2.2.1 2 + 999 < 2147483648) : Met l yL_rootByJoining (wsH yL_rootByJoining cL_rootByJoining 4 (some .int) [(0, 8, 11, 13)]) ({ frames := 8, cells := 1, slots := 6, locals := 132 } : Room) (va_Pc [.ref (ad 0 0), .int xs, .ref o] (PRE D g A (iW ad g κ X cs lf pr ++ [(o, .inl (g 1, 1, .inr (.inl f)))]))) (va_Qi (fun (r : Int32) (u : US) => AP ad κ ((opRoot κ xs).1) ((opRoot κ xs).2) r u) (fun u => PO D A (iW u.1 g κ u.2.1 u.2.2.1 u.2.2.2.1 u.2.2.2.2.1 ++ [(o, .inl (g 1, 1, .inr (.inl u.2.2.2.2.2)))])) A) 1 6 A := by
  refine metH (by decide) (Nat.le_of_ble_eq_true rfl) ?_
  intro p e s m args below meth c _ htb cx
  refine J_aload_n cx dL_rootByJoining_0 rfl 2 rfl ?_
  refine J_iconst cx (v := nI 0) dL_rootByJoining_1 (by decide) ?_
  refine J_aload_n cx dL_rootByJoining_2 rfl 0 rfl ?_
  refine J_iload_n cx dL_rootByJoining_3 rfl 1 rfl ?_
  refine J_hcallVl cx htb kL_108 (As := [.int xs]) (frX (w := iW ad g κ X cs lf pr) (wr := [(o, .inl (g 1, 1, .inr (.inl f)))]) (wx := iW ad g κ X cs lf pr) (wx2 := iW ad g κ X cs lf pr ++ [(o, .inl (g 1, 1, .inr (.inl f)))]) (List.Perm.refl _) (List.Perm.refl _) (qL (W2 := fun u9 => iW ad g κ X cs ((rjS jn (ent κ) lf (xj xs)).2) pr ++ [(o, .inl (g 1, 1, .inr (.inl f)))]) (fun _ => List.Perm.refl _)) (tX6_rootByJoining l D g _ ad κ X cs lf pr  xs htr hV.2.2.2.2.2.2.2.2.1 hV.1.1)) ⟨rfl, rfl, by first | decide | (simp only [rmB, rmQ, rmJ, rmL]; omega), by first | decide | (simp only [rmB, rmQ, rmJ, rmL]; omega)⟩ ⟨by decide, by decide⟩ rfl 0 rfl rfl rfl (Nat.le_of_ble_eq_true rfl) dL_rootByJoining_4 (fun E q9 hE => ?_) (fun r9 u9 hr => ?_)
  · obtain ⟨hc1, hEq⟩ := thr1 hE
    subst hEq
    refine ⟨11, ⟨[], ⟨0, 8, 11, 13⟩, [], _, rfl, (fun _ h => nomatch h), by decide, by decide, lL_13, cstIAE, rfl⟩, ?_⟩
    refine J_astore_n cx (L' := [(3, .ref q9), (0, .ref (ad 0 0)), (1, .int xs), (2, .ref o)]) dL_rootByJoining_11 rfl (by decide) rfl ?_
    refine J_iconst cx (v := nI 1) dL_rootByJoining_12 (by decide) ?_
    refine J_x ?_
    exact J_iret cx rfl (u := ((ad, X, cs, lf, pr, f) : US)) ⟨by rw [hc1], by rw [hc1]; decide, fun q => absurd (hc1.symm.trans q) (by decide), rfl, ⟨hV, hw, hk⟩⟩ rfl (Nat.le_of_ble_eq_true rfl) (Nat.le_of_ble_eq_true rfl) dL_rootByJoining_13
  · obtain ⟨hc0, hr⟩ := hr; subst hr
    refine J_last cx (ws' := (iW ad g κ X cs ((rjS jn (ent κ) lf (xj xs)).2) pr ++ [(o, .inl (g 1, 1, .inr (.inl (vp_updL f 0 ((opRoot κ xs).2)))))])) (j := 0) (iW ad g κ X cs ((rjS jn (ent κ) lf (xj xs)).2) pr).length at_end  rfl (by decide) (by decide) set_end dL_rootByJoining_7 ?_
    refine J_goto cx (tgt := 14) dL_rootByJoining_8 (by decide) ?_
    refine J_iconst cx (v := nI 0) dL_rootByJoining_14 (by decide) ?_
    refine J_x ?_
    exact J_iret cx rfl (u := ((ad, X, cs, (rjS jn (ent κ) lf (xj xs)).2, pr, vp_updL f 0 ((opRoot κ xs).2)) : US)) ⟨by rw [hc0], by rw [hc0]; decide, fun _ => (vu0 (f := f) (v := ((opRoot κ xs).2))), rfl, ⟨hV, hw, hk⟩⟩ rfl (Nat.le_of_ble_eq_true rfl) (Nat.le_of_ble_eq_true rfl) dL_rootByJoining_15
set_option maxHeartbeats 4000000 in
set_option maxRecDepth 100000 in
theorem tL_proofSize (l : Launch) (D : va_G) (g : Nat → ClassId) (A : Nat → Prop) (ad : Nat → Nat → Nat) (κ : CS) (X : XT) (cs : Nat → CT) (lf : Nat → Int64) (pr : PT) (o : Nat) (f : Nat → Int64) (xe : Int32) (xs : Int32) (htr : l.stackTraces = false) (hV : IV κ X) (hw : WV κ cs) (hk : κ.2.2.1 1 ≤ κ.2.2.1 0) (hd : κ.2.2.1 2 + 999 < 2147483648) : Met l yL_proofSize (wsH yL_proofSize cL_proofSize 5 (some .int) [(0, 10, 13, 13), (0, 10, 17, 79)]) ({ frames := 14, cells := 2, slots := 12, locals := 337 } : Room) (va_Pc [.ref (ad 0 0), .int xe, .int xs, .ref o] (PRE D g A (iW ad g κ X cs lf pr ++ [(o, .inl (g 1, 1, .inr (.inl f)))]))) (va_Qi (fun (r : Int32) (u : US) => AP ad κ (prC κ xe xs) ((nI (dsP κ xe xs pr).2.2).toInt64) r u) (fun u => PO D A (iW u.1 g κ u.2.1 u.2.2.1 u.2.2.2.1 u.2.2.2.2.1 ++ [(o, .inl (g 1, 1, .inr (.inl u.2.2.2.2.2)))])) A) 2 12 A := by
  refine metH (by decide) (Nat.le_of_ble_eq_true rfl) ?_
  intro p e s m args below meth c _ htb cx
  refine J_aload_n cx dL_proofSize_0 rfl 3 rfl ?_
  refine J_iconst cx (v := nI 0) dL_proofSize_1 (by decide) ?_
  refine J_aload_n cx dL_proofSize_2 rfl 0 rfl ?_
  refine J_iload_n cx dL_proofSize_3 rfl 1 rfl ?_
  refine J_iload_n cx dL_proofSize_4 rfl 2 rfl ?_
  refine J_hcallVi cx htb kL_111 (As := [.int xe, .int xs]) (frX (w := iW ad g κ X cs lf pr) (wr := [(o, .inl (g 1, 1, .inr (.inl f)))]) (wx := iW ad g κ X cs lf (dsP κ xe xs pr)) (wx2 := iW ad g κ X cs lf (dsP κ xe xs pr) ++ [(o, .inl (g 1, 1, .inr (.inl f)))]) (List.Perm.refl _) (List.Perm.refl _) (qI (W2 := fun u9 => iW ad g κ X cs lf (dsP κ xe xs pr) ++ [(o, .inl (g 1, 1, .inr (.inl f)))]) (fun _ => List.Perm.refl _)) (tX6_proofSize l D g _ ad κ X cs lf pr xe xs htr hV.2.2.2.2.2.2.2.2.1 hV.1.1)) ⟨rfl, rfl, by first | decide | (simp only [rmB, rmQ, rmJ, rmL]; omega), by first | decide | (simp only [rmB, rmQ, rmJ, rmL]; omega)⟩ ⟨by decide, by decide⟩ rfl 0 rfl rfl rfl (Nat.le_of_ble_eq_true rfl) dL_proofSize_5 (fun E q9 hE => ?_) (fun r9 u9 hr => ?_)
  · rcases thr2 hE with ⟨hc1, hEq⟩ | ⟨hc1, hEq⟩
    · subst hEq
      refine ⟨13, ⟨[], ⟨0, 10, 13, 13⟩, [⟨0, 10, 17, 79⟩], _, rfl, (fun _ h => nomatch h), by decide, by decide, lL_13, cstIAE, rfl⟩, ?_⟩
      refine J_astore cx (L' := [(4, .ref q9), (0, .ref (ad 0 0)), (1, .int xe), (2, .int xs), (3, .ref o)]) dL_proofSize_13 (by decide) rfl ?_
      refine J_iconst cx (v := nI 1) dL_proofSize_15 (by decide) ?_
      refine J_x ?_
      exact J_iret cx rfl (u := ((ad, X, cs, lf, dsP κ xe xs pr, f) : US)) ⟨by rw [hc1], by rw [hc1]; decide, fun q => absurd (hc1.symm.trans q) (by decide), rfl, ⟨hV, hw, hk⟩⟩ rfl (Nat.le_of_ble_eq_true rfl) (Nat.le_of_ble_eq_true rfl) dL_proofSize_16
    · subst hEq
      refine ⟨17, ⟨[⟨0, 10, 13, 13⟩], ⟨0, 10, 17, 79⟩, [], _, rfl, (List.forall_mem_cons.mpr ⟨⟨by decide, "java/lang/IllegalArgumentException", lL_13, by decide, by decide, by decide⟩, (fun _ h => nomatch h)⟩), by decide, by decide, lL_79, cstIOB, rfl⟩, ?_⟩
      refine J_astore cx (L' := [(4, .ref q9), (0, .ref (ad 0 0)), (1, .int xe), (2, .int xs), (3, .ref o)]) dL_proofSize_17 (by decide) rfl ?_
      refine J_iconst cx (v := nI 2) dL_proofSize_19 (by decide) ?_
      refine J_x ?_
      exact J_iret cx rfl (u := ((ad, X, cs, lf, dsP κ xe xs pr, f) : US)) ⟨by rw [hc1], by rw [hc1]; decide, fun q => absurd (hc1.symm.trans q) (by decide), rfl, ⟨hV, hw, hk⟩⟩ rfl (Nat.le_of_ble_eq_true rfl) (Nat.le_of_ble_eq_true rfl) dL_proofSize_20
  · obtain ⟨hc0, hr⟩ := hr; subst hr
    refine J_i2l cx (v := (nI (dsP κ xe xs pr).2.2).toInt64) dL_proofSize_8 rfl ?_
    refine J_last cx (ws' := (iW ad g κ X cs lf (dsP κ xe xs pr) ++ [(o, .inl (g 1, 1, .inr (.inl (vp_updL f 0 ((nI (dsP κ xe xs pr).2.2).toInt64)))))])) (j := 0) (iW ad g κ X cs lf (dsP κ xe xs pr)).length at_end  rfl (by decide) (by decide) set_end dL_proofSize_9 ?_
    refine J_goto cx (tgt := 21) dL_proofSize_10 (by decide) ?_
    refine J_iconst cx (v := nI 0) dL_proofSize_21 (by decide) ?_
    refine J_x ?_
    exact J_iret cx rfl (u := ((ad, X, cs, lf, dsP κ xe xs pr, vp_updL f 0 ((nI (dsP κ xe xs pr).2.2).toInt64)) : US)) ⟨by rw [hc0], by rw [hc0]; decide, fun _ => (vu0 (f := f) (v := ((nI (dsP κ xe xs pr).2.2).toInt64))), rfl, ⟨hV, hw, hk⟩⟩ rfl (Nat.le_of_ble_eq_true rfl) (Nat.le_of_ble_eq_true rfl) dL_proofSize_22
set_option maxHeartbeats 4000000 in
set_option maxRecDepth 100000 in
theorem tL_proofAt (l : Launch) (D : va_G) (g : Nat → ClassId) (A : Nat → Prop) (ad : Nat → Nat → Nat) (κ : CS) (X : XT) (cs : Nat → CT) (lf : Nat → Int64) (pr : PT) (o : Nat) (f : Nat → Int64) (xe : Int32) (xs : Int32) (xi : Int32) (htr : l.stackTraces = false) (hV : IV κ X) (hw : WV κ cs) (hk : κ.2.2.1 1 ≤ κ.2.2.1 0) (hd : κ.2.2.1 2 + 999 < 2147483648) : Met l yL_proofAt (wsH yL_proofAt cL_proofAt 6 (some .int) [(0, 11, 14, 13), (0, 11, 18, 79)]) ({ frames := 14, cells := 3, slots := 18, locals := 338 } : Room) (va_Pc [.ref (ad 0 0), .int xe, .int xs, .int xi, .ref o] (PRE D g A (iW ad g κ X cs lf pr ++ [(o, .inl (g 1, 1, .inr (.inl f)))]))) (va_Qi (fun (r : Int32) (u : US) => AP ad κ (if decide (prC κ xe xs = 0) then (if inR (dsP κ xe xs pr).2.2 xi then 0 else 2) else prC κ xe xs) ((dsP κ xe xs pr).1 ((dsP κ xe xs pr).2.2 - 1 - xj xi)) r u) (fun u => PO D A (iW u.1 g κ u.2.1 u.2.2.1 u.2.2.2.1 u.2.2.2.2.1 ++ [(o, .inl (g 1, 1, .inr (.inl u.2.2.2.2.2)))])) A) 3 18 A := by
  refine metH (by decide) (Nat.le_of_ble_eq_true rfl) ?_
  intro p e s m args below meth c _ htb cx
  refine J_aload cx dL_proofAt_0 4 rfl ?_
  refine J_iconst cx (v := nI 0) dL_proofAt_2 (by decide) ?_
  refine J_aload_n cx dL_proofAt_3 rfl 0 rfl ?_
  refine J_iload_n cx dL_proofAt_4 rfl 1 rfl ?_
  refine J_iload_n cx dL_proofAt_5 rfl 2 rfl ?_
  refine J_iload_n cx dL_proofAt_6 rfl 3 rfl ?_
  refine J_hcallVl cx htb kL_114 (As := [.int xe, .int xs, .int xi]) (frX (w := iW ad g κ X cs lf pr) (wr := [(o, .inl (g 1, 1, .inr (.inl f)))]) (wx := iW ad g κ X cs lf (dsP κ xe xs pr)) (wx2 := iW ad g κ X cs lf (dsP κ xe xs pr) ++ [(o, .inl (g 1, 1, .inr (.inl f)))]) (List.Perm.refl _) (List.Perm.refl _) (qL (W2 := fun u9 => iW ad g κ X cs lf (dsP κ xe xs pr) ++ [(o, .inl (g 1, 1, .inr (.inl f)))]) (fun _ => List.Perm.refl _)) (tX6_proofAt l D g _ ad κ X cs lf pr xe xs xi htr hV.2.2.2.2.2.2.2.2.1 hV.1.1)) ⟨rfl, rfl, by first | decide | (simp only [rmB, rmQ, rmJ, rmL]; omega), by first | decide | (simp only [rmB, rmQ, rmJ, rmL]; omega)⟩ ⟨by decide, by decide⟩ rfl 0 rfl rfl rfl (Nat.le_of_ble_eq_true rfl) dL_proofAt_7 (fun E q9 hE => ?_) (fun r9 u9 hr => ?_)
  · rcases thr2 hE with ⟨hc1, hEq⟩ | ⟨hc1, hEq⟩
    · subst hEq
      refine ⟨14, ⟨[], ⟨0, 11, 14, 13⟩, [⟨0, 11, 18, 79⟩], _, rfl, (fun _ h => nomatch h), by decide, by decide, lL_13, cstIAE, rfl⟩, ?_⟩
      refine J_astore cx (L' := [(5, .ref q9), (0, .ref (ad 0 0)), (1, .int xe), (2, .int xs), (3, .int xi), (4, .ref o)]) dL_proofAt_14 (by decide) rfl ?_
      refine J_iconst cx (v := nI 1) dL_proofAt_16 (by decide) ?_
      refine J_x ?_
      exact J_iret cx rfl (u := ((ad, X, cs, lf, dsP κ xe xs pr, f) : US)) ⟨by rw [hc1], by rw [hc1]; decide, fun q => absurd (hc1.symm.trans q) (by decide), rfl, ⟨hV, hw, hk⟩⟩ rfl (Nat.le_of_ble_eq_true rfl) (Nat.le_of_ble_eq_true rfl) dL_proofAt_17
    · subst hEq
      refine ⟨18, ⟨[⟨0, 11, 14, 13⟩], ⟨0, 11, 18, 79⟩, [], _, rfl, (List.forall_mem_cons.mpr ⟨⟨by decide, "java/lang/IllegalArgumentException", lL_13, by decide, by decide, by decide⟩, (fun _ h => nomatch h)⟩), by decide, by decide, lL_79, cstIOB, rfl⟩, ?_⟩
      refine J_astore cx (L' := [(5, .ref q9), (0, .ref (ad 0 0)), (1, .int xe), (2, .int xs), (3, .int xi), (4, .ref o)]) dL_proofAt_18 (by decide) rfl ?_
      refine J_iconst cx (v := nI 2) dL_proofAt_20 (by decide) ?_
      refine J_x ?_
      exact J_iret cx rfl (u := ((ad, X, cs, lf, dsP κ xe xs pr, f) : US)) ⟨by rw [hc1], by rw [hc1]; decide, fun q => absurd (hc1.symm.trans q) (by decide), rfl, ⟨hV, hw, hk⟩⟩ rfl (Nat.le_of_ble_eq_true rfl) (Nat.le_of_ble_eq_true rfl) dL_proofAt_21
  · obtain ⟨hc9, hix, hr⟩ := hr; subst hr
    have hc0 : (if decide (prC κ xe xs = 0) then (if inR (dsP κ xe xs pr).2.2 xi then 0 else 2) else prC κ xe xs) = 0 := by rw [decide_eq_true hc9, hix]; rfl
    refine J_last cx (ws' := (iW ad g κ X cs lf (dsP κ xe xs pr) ++ [(o, .inl (g 1, 1, .inr (.inl (vp_updL f 0 ((dsP κ xe xs pr).1 ((dsP κ xe xs pr).2.2 - 1 - xj xi))))))])) (j := 0) (iW ad g κ X cs lf (dsP κ xe xs pr)).length at_end  rfl (by decide) (by decide) set_end dL_proofAt_10 ?_
    refine J_goto cx (tgt := 22) dL_proofAt_11 (by decide) ?_
    refine J_iconst cx (v := nI 0) dL_proofAt_22 (by decide) ?_
    refine J_x ?_
    exact J_iret cx rfl (u := ((ad, X, cs, lf, dsP κ xe xs pr, vp_updL f 0 ((dsP κ xe xs pr).1 ((dsP κ xe xs pr).2.2 - 1 - xj xi))) : US)) ⟨by rw [hc0], by rw [hc0]; decide, fun _ => (vu0 (f := f) (v := ((dsP κ xe xs pr).1 ((dsP κ xe xs pr).2.2 - 1 - xj xi)))), rfl, ⟨hV, hw, hk⟩⟩ rfl (Nat.le_of_ble_eq_true rfl) (Nat.le_of_ble_eq_true rfl) dL_proofAt_23
set_option maxHeartbeats 4000000 in
set_option maxRecDepth 100000 in
theorem tL_growthSize (l : Launch) (D : va_G) (g : Nat → ClassId) (A : Nat → Prop) (ad : Nat → Nat → Nat) (κ : CS) (X : XT) (cs : Nat → CT) (lf : Nat → Int64) (pr : PT) (o : Nat) (f : Nat → Int64) (xe : Int32) (xs : Int32) (htr : l.stackTraces = false) (hV : IV κ X) (hw : WV κ cs) (hk : κ.2.2.1 1 ≤ κ.2.2.1 0) (hd : κ.2.2.1 2 + 999 < 2147483648) : Met l yL_growthSize (wsH yL_growthSize cL_growthSize 5 (some .int) [(0, 10, 13, 13), (0, 10, 17, 79)]) ({ frames := 14, cells := 2, slots := 12, locals := 337 } : Room) (va_Pc [.ref (ad 0 0), .int xe, .int xs, .ref o] (PRE D g A (iW ad g κ X cs lf pr ++ [(o, .inl (g 1, 1, .inr (.inl f)))]))) (va_Qi (fun (r : Int32) (u : US) => AP ad κ (grC κ xe xs) ((nI (dsG κ xe xs pr).2.2).toInt64) r u) (fun u => PO D A (iW u.1 g κ u.2.1 u.2.2.1 u.2.2.2.1 u.2.2.2.2.1 ++ [(o, .inl (g 1, 1, .inr (.inl u.2.2.2.2.2)))])) A) 2 12 A := by
  refine metH (by decide) (Nat.le_of_ble_eq_true rfl) ?_
  intro p e s m args below meth c _ htb cx
  refine J_aload_n cx dL_growthSize_0 rfl 3 rfl ?_
  refine J_iconst cx (v := nI 0) dL_growthSize_1 (by decide) ?_
  refine J_aload_n cx dL_growthSize_2 rfl 0 rfl ?_
  refine J_iload_n cx dL_growthSize_3 rfl 1 rfl ?_
  refine J_iload_n cx dL_growthSize_4 rfl 2 rfl ?_
  refine J_hcallVi cx htb kL_122 (As := [.int xe, .int xs]) (frX (w := iW ad g κ X cs lf pr) (wr := [(o, .inl (g 1, 1, .inr (.inl f)))]) (wx := iW ad g κ X cs lf (dsG κ xe xs pr)) (wx2 := iW ad g κ X cs lf (dsG κ xe xs pr) ++ [(o, .inl (g 1, 1, .inr (.inl f)))]) (List.Perm.refl _) (List.Perm.refl _) (qI (W2 := fun u9 => iW ad g κ X cs lf (dsG κ xe xs pr) ++ [(o, .inl (g 1, 1, .inr (.inl f)))]) (fun _ => List.Perm.refl _)) (tX6_growthSize l D g _ ad κ X cs lf pr xe xs htr hV.2.2.2.2.2.2.2.2.1 hV.1.1)) ⟨rfl, rfl, by first | decide | (simp only [rmB, rmQ, rmJ, rmL]; omega), by first | decide | (simp only [rmB, rmQ, rmJ, rmL]; omega)⟩ ⟨by decide, by decide⟩ rfl 0 rfl rfl rfl (Nat.le_of_ble_eq_true rfl) dL_growthSize_5 (fun E q9 hE => ?_) (fun r9 u9 hr => ?_)
  · rcases thr2 hE with ⟨hc1, hEq⟩ | ⟨hc1, hEq⟩
    · subst hEq
      refine ⟨13, ⟨[], ⟨0, 10, 13, 13⟩, [⟨0, 10, 17, 79⟩], _, rfl, (fun _ h => nomatch h), by decide, by decide, lL_13, cstIAE, rfl⟩, ?_⟩
      refine J_astore cx (L' := [(4, .ref q9), (0, .ref (ad 0 0)), (1, .int xe), (2, .int xs), (3, .ref o)]) dL_growthSize_13 (by decide) rfl ?_
      refine J_iconst cx (v := nI 1) dL_growthSize_15 (by decide) ?_
      refine J_x ?_
      exact J_iret cx rfl (u := ((ad, X, cs, lf, dsG κ xe xs pr, f) : US)) ⟨by rw [hc1], by rw [hc1]; decide, fun q => absurd (hc1.symm.trans q) (by decide), rfl, ⟨hV, hw, hk⟩⟩ rfl (Nat.le_of_ble_eq_true rfl) (Nat.le_of_ble_eq_true rfl) dL_growthSize_16
    · subst hEq
      refine ⟨17, ⟨[⟨0, 10, 13, 13⟩], ⟨0, 10, 17, 79⟩, [], _, rfl, (List.forall_mem_cons.mpr ⟨⟨by decide, "java/lang/IllegalArgumentException", lL_13, by decide, by decide, by decide⟩, (fun _ h => nomatch h)⟩), by decide, by decide, lL_79, cstIOB, rfl⟩, ?_⟩
      refine J_astore cx (L' := [(4, .ref q9), (0, .ref (ad 0 0)), (1, .int xe), (2, .int xs), (3, .ref o)]) dL_growthSize_17 (by decide) rfl ?_
      refine J_iconst cx (v := nI 2) dL_growthSize_19 (by decide) ?_
      refine J_x ?_
      exact J_iret cx rfl (u := ((ad, X, cs, lf, dsG κ xe xs pr, f) : US)) ⟨by rw [hc1], by rw [hc1]; decide, fun q => absurd (hc1.symm.trans q) (by decide), rfl, ⟨hV, hw, hk⟩⟩ rfl (Nat.le_of_ble_eq_true rfl) (Nat.le_of_ble_eq_true rfl) dL_growthSize_20
  · obtain ⟨hc0, hr⟩ := hr; subst hr
    refine J_i2l cx (v := (nI (dsG κ xe xs pr).2.2).toInt64) dL_growthSize_8 rfl ?_
    refine J_last cx (ws' := (iW ad g κ X cs lf (dsG κ xe xs pr) ++ [(o, .inl (g 1, 1, .inr (.inl (vp_updL f 0 ((nI (dsG κ xe xs pr).2.2).toInt64)))))])) (j := 0) (iW ad g κ X cs lf (dsG κ xe xs pr)).length at_end  rfl (by decide) (by decide) set_end dL_growthSize_9 ?_
    refine J_goto cx (tgt := 21) dL_growthSize_10 (by decide) ?_
    refine J_iconst cx (v := nI 0) dL_growthSize_21 (by decide) ?_
    refine J_x ?_
    exact J_iret cx rfl (u := ((ad, X, cs, lf, dsG κ xe xs pr, vp_updL f 0 ((nI (dsG κ xe xs pr).2.2).toInt64)) : US)) ⟨by rw [hc0], by rw [hc0]; decide, fun _ => (vu0 (f := f) (v := ((nI (dsG κ xe xs pr).2.2).toInt64))), rfl, ⟨hV, hw, hk⟩⟩ rfl (Nat.le_of_ble_eq_true rfl) (Nat.le_of_ble_eq_true rfl) dL_growthSize_22
set_option maxHeartbeats 4000000 in
set_option maxRecDepth 100000 in
theorem tL_growthAt (l : Launch) (D : va_G) (g : Nat → ClassId) (A : Nat → Prop) (ad : Nat → Nat → Nat) (κ : CS) (X : XT) (cs : Nat → CT) (lf : Nat → Int64) (pr : PT) (o : Nat) (f : Nat → Int64) (xe : Int32) (xs : Int32) (xi : Int32) (htr : l.stackTraces = false) (hV : IV κ X) (hw : WV κ cs) (hk : κ.2.2.1 1 ≤ κ.2.2.1 0) (hd : κ.2.2.1 2 + 999 < 2147483648) : Met l yL_growthAt (wsH yL_growthAt cL_growthAt 6 (some .int) [(0, 11, 14, 13), (0, 11, 18, 79)]) ({ frames := 14, cells := 3, slots := 18, locals := 338 } : Room) (va_Pc [.ref (ad 0 0), .int xe, .int xs, .int xi, .ref o] (PRE D g A (iW ad g κ X cs lf pr ++ [(o, .inl (g 1, 1, .inr (.inl f)))]))) (va_Qi (fun (r : Int32) (u : US) => AP ad κ (if decide (grC κ xe xs = 0) then (if inR (dsG κ xe xs pr).2.2 xi then 0 else 2) else grC κ xe xs) ((dsG κ xe xs pr).1 ((dsG κ xe xs pr).2.2 - 1 - xj xi)) r u) (fun u => PO D A (iW u.1 g κ u.2.1 u.2.2.1 u.2.2.2.1 u.2.2.2.2.1 ++ [(o, .inl (g 1, 1, .inr (.inl u.2.2.2.2.2)))])) A) 3 18 A := by
  refine metH (by decide) (Nat.le_of_ble_eq_true rfl) ?_
  intro p e s m args below meth c _ htb cx
  refine J_aload cx dL_growthAt_0 4 rfl ?_
  refine J_iconst cx (v := nI 0) dL_growthAt_2 (by decide) ?_
  refine J_aload_n cx dL_growthAt_3 rfl 0 rfl ?_
  refine J_iload_n cx dL_growthAt_4 rfl 1 rfl ?_
  refine J_iload_n cx dL_growthAt_5 rfl 2 rfl ?_
  refine J_iload_n cx dL_growthAt_6 rfl 3 rfl ?_
  refine J_hcallVl cx htb kL_125 (As := [.int xe, .int xs, .int xi]) (frX (w := iW ad g κ X cs lf pr) (wr := [(o, .inl (g 1, 1, .inr (.inl f)))]) (wx := iW ad g κ X cs lf (dsG κ xe xs pr)) (wx2 := iW ad g κ X cs lf (dsG κ xe xs pr) ++ [(o, .inl (g 1, 1, .inr (.inl f)))]) (List.Perm.refl _) (List.Perm.refl _) (qL (W2 := fun u9 => iW ad g κ X cs lf (dsG κ xe xs pr) ++ [(o, .inl (g 1, 1, .inr (.inl f)))]) (fun _ => List.Perm.refl _)) (tX6_growthAt l D g _ ad κ X cs lf pr xe xs xi htr hV.2.2.2.2.2.2.2.2.1 hV.1.1)) ⟨rfl, rfl, by first | decide | (simp only [rmB, rmQ, rmJ, rmL]; omega), by first | decide | (simp only [rmB, rmQ, rmJ, rmL]; omega)⟩ ⟨by decide, by decide⟩ rfl 0 rfl rfl rfl (Nat.le_of_ble_eq_true rfl) dL_growthAt_7 (fun E q9 hE => ?_) (fun r9 u9 hr => ?_)
  · rcases thr2 hE with ⟨hc1, hEq⟩ | ⟨hc1, hEq⟩
    · subst hEq
      refine ⟨14, ⟨[], ⟨0, 11, 14, 13⟩, [⟨0, 11, 18, 79⟩], _, rfl, (fun _ h => nomatch h), by decide, by decide, lL_13, cstIAE, rfl⟩, ?_⟩
      refine J_astore cx (L' := [(5, .ref q9), (0, .ref (ad 0 0)), (1, .int xe), (2, .int xs), (3, .int xi), (4, .ref o)]) dL_growthAt_14 (by decide) rfl ?_
      refine J_iconst cx (v := nI 1) dL_growthAt_16 (by decide) ?_
      refine J_x ?_
      exact J_iret cx rfl (u := ((ad, X, cs, lf, dsG κ xe xs pr, f) : US)) ⟨by rw [hc1], by rw [hc1]; decide, fun q => absurd (hc1.symm.trans q) (by decide), rfl, ⟨hV, hw, hk⟩⟩ rfl (Nat.le_of_ble_eq_true rfl) (Nat.le_of_ble_eq_true rfl) dL_growthAt_17
    · subst hEq
      refine ⟨18, ⟨[⟨0, 11, 14, 13⟩], ⟨0, 11, 18, 79⟩, [], _, rfl, (List.forall_mem_cons.mpr ⟨⟨by decide, "java/lang/IllegalArgumentException", lL_13, by decide, by decide, by decide⟩, (fun _ h => nomatch h)⟩), by decide, by decide, lL_79, cstIOB, rfl⟩, ?_⟩
      refine J_astore cx (L' := [(5, .ref q9), (0, .ref (ad 0 0)), (1, .int xe), (2, .int xs), (3, .int xi), (4, .ref o)]) dL_growthAt_18 (by decide) rfl ?_
      refine J_iconst cx (v := nI 2) dL_growthAt_20 (by decide) ?_
      refine J_x ?_
      exact J_iret cx rfl (u := ((ad, X, cs, lf, dsG κ xe xs pr, f) : US)) ⟨by rw [hc1], by rw [hc1]; decide, fun q => absurd (hc1.symm.trans q) (by decide), rfl, ⟨hV, hw, hk⟩⟩ rfl (Nat.le_of_ble_eq_true rfl) (Nat.le_of_ble_eq_true rfl) dL_growthAt_21
  · obtain ⟨hc9, hix, hr⟩ := hr; subst hr
    have hc0 : (if decide (grC κ xe xs = 0) then (if inR (dsG κ xe xs pr).2.2 xi then 0 else 2) else grC κ xe xs) = 0 := by rw [decide_eq_true hc9, hix]; rfl
    refine J_last cx (ws' := (iW ad g κ X cs lf (dsG κ xe xs pr) ++ [(o, .inl (g 1, 1, .inr (.inl (vp_updL f 0 ((dsG κ xe xs pr).1 ((dsG κ xe xs pr).2.2 - 1 - xj xi))))))])) (j := 0) (iW ad g κ X cs lf (dsG κ xe xs pr)).length at_end  rfl (by decide) (by decide) set_end dL_growthAt_10 ?_
    refine J_goto cx (tgt := 22) dL_growthAt_11 (by decide) ?_
    refine J_iconst cx (v := nI 0) dL_growthAt_22 (by decide) ?_
    refine J_x ?_
    exact J_iret cx rfl (u := ((ad, X, cs, lf, dsG κ xe xs pr, vp_updL f 0 ((dsG κ xe xs pr).1 ((dsG κ xe xs pr).2.2 - 1 - xj xi))) : US)) ⟨by rw [hc0], by rw [hc0]; decide, fun _ => (vu0 (f := f) (v := ((dsG κ xe xs pr).1 ((dsG κ xe xs pr).2.2 - 1 - xj xi)))), rfl, ⟨hV, hw, hk⟩⟩ rfl (Nat.le_of_ble_eq_true rfl) (Nat.le_of_ble_eq_true rfl) dL_growthAt_23
set_option maxHeartbeats 4000000 in
set_option maxRecDepth 100000 in
theorem tL_rootByProof (l : Launch) (D : va_G) (g : Nat → ClassId) (A : Nat → Prop) (ad : Nat → Nat → Nat) (κ : CS) (X : XT) (cs : Nat → CT) (lf : Nat → Int64) (pr : PT) (o : Nat) (f : Nat → Int64) (xe : Int32) (xs : Int32) (htr : l.stackTraces = false) (hV : IV κ X) (hw : WV κ cs) (hk : κ.2.2.1 1 ≤ κ.2.2.1 0) (hd : κ.2.2.1 2 + 999 < 2147483648) : Met l yL_rootByProof (wsH yL_rootByProof cL_rootByProof 5 (some .int) [(0, 9, 12, 13), (0, 9, 16, 79)]) ({ frames := 14, cells := 2, slots := 12, locals := 338 } : Room) (va_Pc [.ref (ad 0 0), .int xe, .int xs, .ref o] (PRE D g A (iW ad g κ X cs lf pr ++ [(o, .inl (g 1, 1, .inr (.inl f)))]))) (va_Qi (fun (r : Int32) (u : US) => AP ad κ (prC κ xe xs) (rfP jn (dsP κ xe xs pr) (dsP κ xe xs pr).2.2 (ent κ (xj xe))) r u) (fun u => PO D A (iW u.1 g κ u.2.1 u.2.2.1 u.2.2.2.1 u.2.2.2.2.1 ++ [(o, .inl (g 1, 1, .inr (.inl u.2.2.2.2.2)))])) A) 2 12 A := by
  refine metH (by decide) (Nat.le_of_ble_eq_true rfl) ?_
  intro p e s m args below meth c _ htb cx
  refine J_aload_n cx dL_rootByProof_0 rfl 3 rfl ?_
  refine J_iconst cx (v := nI 0) dL_rootByProof_1 (by decide) ?_
  refine J_aload_n cx dL_rootByProof_2 rfl 0 rfl ?_
  refine J_iload_n cx dL_rootByProof_3 rfl 1 rfl ?_
  refine J_iload_n cx dL_rootByProof_4 rfl 2 rfl ?_
  refine J_hcallVl cx htb kL_118 (As := [.int xe, .int xs]) (frX (w := iW ad g κ X cs lf pr) (wr := [(o, .inl (g 1, 1, .inr (.inl f)))]) (wx := iW ad g κ X cs lf (dsP κ xe xs pr)) (wx2 := iW ad g κ X cs lf (dsP κ xe xs pr) ++ [(o, .inl (g 1, 1, .inr (.inl f)))]) (List.Perm.refl _) (List.Perm.refl _) (qL (W2 := fun u9 => iW ad g κ X cs lf (dsP κ xe xs pr) ++ [(o, .inl (g 1, 1, .inr (.inl f)))]) (fun _ => List.Perm.refl _)) (tX6_rootByProof l D g _ ad κ X cs lf pr xe xs htr hV.2.2.2.2.2.2.2.2.1 hV.1.1)) ⟨rfl, rfl, by first | decide | (simp only [rmB, rmQ, rmJ, rmL]; omega), by first | decide | (simp only [rmB, rmQ, rmJ, rmL]; omega)⟩ ⟨by decide, by decide⟩ rfl 0 rfl rfl rfl (Nat.le_of_ble_eq_true rfl) dL_rootByProof_5 (fun E q9 hE => ?_) (fun r9 u9 hr => ?_)
  · rcases thr2 hE with ⟨hc1, hEq⟩ | ⟨hc1, hEq⟩
    · subst hEq
      refine ⟨12, ⟨[], ⟨0, 9, 12, 13⟩, [⟨0, 9, 16, 79⟩], _, rfl, (fun _ h => nomatch h), by decide, by decide, lL_13, cstIAE, rfl⟩, ?_⟩
      refine J_astore cx (L' := [(4, .ref q9), (0, .ref (ad 0 0)), (1, .int xe), (2, .int xs), (3, .ref o)]) dL_rootByProof_12 (by decide) rfl ?_
      refine J_iconst cx (v := nI 1) dL_rootByProof_14 (by decide) ?_
      refine J_x ?_
      exact J_iret cx rfl (u := ((ad, X, cs, lf, dsP κ xe xs pr, f) : US)) ⟨by rw [hc1], by rw [hc1]; decide, fun q => absurd (hc1.symm.trans q) (by decide), rfl, ⟨hV, hw, hk⟩⟩ rfl (Nat.le_of_ble_eq_true rfl) (Nat.le_of_ble_eq_true rfl) dL_rootByProof_15
    · subst hEq
      refine ⟨16, ⟨[⟨0, 9, 12, 13⟩], ⟨0, 9, 16, 79⟩, [], _, rfl, (List.forall_mem_cons.mpr ⟨⟨by decide, "java/lang/IllegalArgumentException", lL_13, by decide, by decide, by decide⟩, (fun _ h => nomatch h)⟩), by decide, by decide, lL_79, cstIOB, rfl⟩, ?_⟩
      refine J_astore cx (L' := [(4, .ref q9), (0, .ref (ad 0 0)), (1, .int xe), (2, .int xs), (3, .ref o)]) dL_rootByProof_16 (by decide) rfl ?_
      refine J_iconst cx (v := nI 2) dL_rootByProof_18 (by decide) ?_
      refine J_x ?_
      exact J_iret cx rfl (u := ((ad, X, cs, lf, dsP κ xe xs pr, f) : US)) ⟨by rw [hc1], by rw [hc1]; decide, fun q => absurd (hc1.symm.trans q) (by decide), rfl, ⟨hV, hw, hk⟩⟩ rfl (Nat.le_of_ble_eq_true rfl) (Nat.le_of_ble_eq_true rfl) dL_rootByProof_19
  · obtain ⟨hc0, hr⟩ := hr; subst hr
    refine J_last cx (ws' := (iW ad g κ X cs lf (dsP κ xe xs pr) ++ [(o, .inl (g 1, 1, .inr (.inl (vp_updL f 0 (rfP jn (dsP κ xe xs pr) (dsP κ xe xs pr).2.2 (ent κ (xj xe)))))))])) (j := 0) (iW ad g κ X cs lf (dsP κ xe xs pr)).length at_end  rfl (by decide) (by decide) set_end dL_rootByProof_8 ?_
    refine J_goto cx (tgt := 20) dL_rootByProof_9 (by decide) ?_
    refine J_iconst cx (v := nI 0) dL_rootByProof_20 (by decide) ?_
    refine J_x ?_
    exact J_iret cx rfl (u := ((ad, X, cs, lf, dsP κ xe xs pr, vp_updL f 0 (rfP jn (dsP κ xe xs pr) (dsP κ xe xs pr).2.2 (ent κ (xj xe)))) : US)) ⟨by rw [hc0], by rw [hc0]; decide, fun _ => (vu0 (f := f) (v := (rfP jn (dsP κ xe xs pr) (dsP κ xe xs pr).2.2 (ent κ (xj xe))))), rfl, ⟨hV, hw, hk⟩⟩ rfl (Nat.le_of_ble_eq_true rfl) (Nat.le_of_ble_eq_true rfl) dL_rootByProof_21
set_option maxHeartbeats 4000000 in
set_option maxRecDepth 100000 in
theorem tL_soundShare (l : Launch) (D : va_G) (g : Nat → ClassId) (A : Nat → Prop) (ad : Nat → Nat → Nat) (κ : CS) (X : XT) (cs : Nat → CT) (lf : Nat → Int64) (pr : PT) (o : Nat) (f : Nat → UInt64)  (htr : l.stackTraces = false) (hV : IV κ X) (hw : WV κ cs) (hk : κ.2.2.1 1 ≤ κ.2.2.1 0) (hd : κ.2.2.1 2 + 999 < 2147483648) : Met l yL_soundShare (wsH yL_soundShare cL_soundShare 3 (some .int) [(0, 8, 11, 132)]) ({ frames := 7, cells := 1, slots := 6, locals := 115 } : Room) (va_Pc [.ref (ad 0 0), .ref o] (PRE D g A (iW ad g κ X cs lf pr ++ [(o, .inl (g 4, 1, .inr (.inr (.inr (.inl f)))))]))) (va_Qi (fun (r : Int32) (u : UD) => APD ad κ ((opSound κ).1) (FP.f2d (opSound κ).2) r u) (fun u => PO D A (iW u.1 g κ u.2.1 u.2.2.1 u.2.2.2.1 u.2.2.2.2.1 ++ [(o, .inl (g 4, 1, .inr (.inr (.inr (.inl u.2.2.2.2.2)))))])) A) 1 6 A := by
  refine metH (by decide) (Nat.le_of_ble_eq_true rfl) ?_
  intro p e s m args below meth c _ htb cx
  refine J_aload_n cx dL_soundShare_0 rfl 1 rfl ?_
  refine J_iconst cx (v := nI 0) dL_soundShare_1 (by decide) ?_
  refine J_aload_n cx dL_soundShare_2 rfl 0 rfl ?_
  refine J_hcallVf cx htb kL_128 (As := []) (frX (w := iW ad g κ X cs lf pr) (wr := [(o, .inl (g 4, 1, .inr (.inr (.inr (.inl f)))))]) (wx := iW ad g κ X cs lf pr) (wx2 := iW ad g κ X cs lf pr ++ [(o, .inl (g 4, 1, .inr (.inr (.inr (.inl f)))))]) (List.Perm.refl _) (List.Perm.refl _) (qF (W2 := fun u9 => iW ad g κ X cs lf pr ++ [(o, .inl (g 4, 1, .inr (.inr (.inr (.inl f)))))]) (fun _ => List.Perm.refl _)) (tX6_soundShare l D g _ ad κ X cs lf pr htr hV.1.1)) ⟨rfl, rfl, by first | decide | (simp only [rmB, rmQ, rmJ, rmL]; omega), by first | decide | (simp only [rmB, rmQ, rmJ, rmL]; omega)⟩ ⟨by decide, by decide⟩ rfl 0 rfl rfl rfl (Nat.le_of_ble_eq_true rfl) dL_soundShare_3 (fun E q9 hE => ?_) (fun r9 u9 hr => ?_)
  · obtain ⟨hc1, hEq⟩ := hE
    subst hEq
    have hc1 := sound_1 hc1
    refine ⟨11, ⟨[], ⟨0, 8, 11, 132⟩, [], _, rfl, (fun _ h => nomatch h), by decide, by decide, lL_132, cstARI, rfl⟩, ?_⟩
    refine J_astore_n cx (L' := [(2, .ref q9), (0, .ref (ad 0 0)), (1, .ref o)]) dL_soundShare_11 rfl (by decide) rfl ?_
    refine J_iconst cx (v := nI 1) dL_soundShare_12 (by decide) ?_
    refine J_x ?_
    exact J_iret cx rfl (u := ((ad, X, cs, lf, pr, f) : UD)) ⟨by rw [hc1], by rw [hc1]; decide, fun q => absurd (hc1.symm.trans q) (by decide), rfl, ⟨hV, hw, hk⟩⟩ rfl (Nat.le_of_ble_eq_true rfl) (Nat.le_of_ble_eq_true rfl) dL_soundShare_13
  · obtain ⟨hn0, hr⟩ := hr
    have hq : r9 = (opSound κ).2 := by rw [hr, sound_0 hn0, sd_cnt hV.1 hV.2.2.2.2.2.2.2.2.2]
    subst hq
    have hc0 : (opSound κ).1 = 0 := by rw [sound_0 hn0]
    refine J_f2d cx dL_soundShare_6 (sound_nan hn0 hV.1.1) ?_
    refine J_dast cx (ws' := (iW ad g κ X cs lf pr ++ [(o, .inl (g 4, 1, .inr (.inr (.inr (.inl (vf_upd f 0 (FP.f2d ((opSound κ).2))))))))])) (j := 0) (iW ad g κ X cs lf pr).length at_end rfl (by decide) (by decide) set_end dL_soundShare_7 ?_
    refine J_goto cx (tgt := 14) dL_soundShare_8 (by decide) ?_
    refine J_iconst cx (v := nI 0) dL_soundShare_14 (by decide) ?_
    refine J_x ?_
    exact J_iret cx rfl (u := ((ad, X, cs, lf, pr, vf_upd f 0 (FP.f2d ((opSound κ).2))) : UD)) ⟨by rw [hc0], by rw [hc0]; decide, fun _ => (vd0 (f := f) (v := (FP.f2d ((opSound κ).2)))), rfl, ⟨hV, hw, hk⟩⟩ rfl (Nat.le_of_ble_eq_true rfl) (Nat.le_of_ble_eq_true rfl) dL_soundShare_15
set_option maxHeartbeats 4000000 in
set_option maxRecDepth 100000 in
theorem tL_meanChain (l : Launch) (D : va_G) (g : Nat → ClassId) (A : Nat → Prop) (ad : Nat → Nat → Nat) (κ : CS) (X : XT) (cs : Nat → CT) (lf : Nat → Int64) (pr : PT) (o : Nat) (f : Nat → UInt64)  (htr : l.stackTraces = false) (hV : IV κ X) (hw : WV κ cs) (hk : κ.2.2.1 1 ≤ κ.2.2.1 0) (hd : κ.2.2.1 2 + 999 < 2147483648) : Met l yL_meanChain (wsH yL_meanChain cL_meanChain 3 (some .int) [(0, 7, 10, 132)]) ({ frames := 14, cells := 1, slots := 6, locals := 373 } : Room) (va_Pc [.ref (ad 0 0), .ref o] (PRE D g A (iW ad g κ X cs lf pr ++ [(o, .inl (g 4, 1, .inr (.inr (.inr (.inl f)))))]))) (va_Qi (fun (r : Int32) (u : UD) => APD ad κ ((ocM κ X (cs 1) (cs 2)).1) ((ocM κ X (cs 1) (cs 2)).2) r u) (fun u => PO D A (iW u.1 g κ u.2.1 u.2.2.1 u.2.2.2.1 u.2.2.2.2.1 ++ [(o, .inl (g 4, 1, .inr (.inr (.inr (.inl u.2.2.2.2.2)))))])) A) 1 6 A := by
  refine metH (by decide) (Nat.le_of_ble_eq_true rfl) ?_
  intro p e s m args below meth c _ htb cx
  refine J_aload_n cx dL_meanChain_0 rfl 1 rfl ?_
  refine J_iconst cx (v := nI 0) dL_meanChain_1 (by decide) ?_
  refine J_aload_n cx dL_meanChain_2 rfl 0 rfl ?_
  refine J_ws (ws' := iW ad g κ X (upc (upc cs 1 (cs 1)) 2 (cs 2)) lf pr ++ [(o, .inl (g 4, 1, .inr (.inr (.inr (.inl f)))))]) (by rw [upc_self, upc_self]) ?_
  refine J_hcallVd cx htb kL_134 (As := []) (frX (w := iW ad g κ X (upc (upc cs 1 (cs 1)) 2 (cs 2)) lf pr) (wr := [(o, .inl (g 4, 1, .inr (.inr (.inr (.inl f)))))]) (wx := iW ad g κ X (upc (upc cs 1 (mcC κ X (cs 1) (cs 2) (κ.2.2.1 0)).2.2.1) 2 (mcC κ X (cs 1) (cs 2) (κ.2.2.1 0)).2.2.2) lf pr) (wx2 := iW ad g κ X (upc (upc cs 1 (mcC κ X (cs 1) (cs 2) (κ.2.2.1 0)).2.2.1) 2 (mcC κ X (cs 1) (cs 2) (κ.2.2.1 0)).2.2.2) lf pr ++ [(o, .inl (g 4, 1, .inr (.inr (.inr (.inl f)))))]) (List.Perm.refl _) (List.Perm.refl _) (qD (W2 := fun u9 => iW ad g κ X (upc (upc cs 1 (mcC κ X (cs 1) (cs 2) (κ.2.2.1 0)).2.2.1) 2 (mcC κ X (cs 1) (cs 2) (κ.2.2.1 0)).2.2.2) lf pr ++ [(o, .inl (g 4, 1, .inr (.inr (.inr (.inl f)))))]) (fun _ => List.Perm.refl _)) (tX6_meanChain l D g _ ad κ X cs lf pr (cs 1) (cs 2) htr hV.1 hV.2.2.2.1 hw.2.1 hw.2.2)) ⟨rfl, rfl, by first | decide | (simp only [rmB, rmQ, rmJ, rmL]; omega), by first | decide | (simp only [rmB, rmQ, rmJ, rmL]; omega)⟩ ⟨by decide, by decide⟩ rfl 0 rfl rfl rfl (Nat.le_of_ble_eq_true rfl) dL_meanChain_3 (fun E q9 hE => ?_) (fun r9 u9 hr => ?_)
  · obtain ⟨hc1, hEq⟩ := hE
    subst hEq
    have hc1 := ocM_1 hc1
    refine ⟨10, ⟨[], ⟨0, 7, 10, 132⟩, [], _, rfl, (fun _ h => nomatch h), by decide, by decide, lL_132, cstARI, rfl⟩, ?_⟩
    refine J_astore_n cx (L' := [(2, .ref q9), (0, .ref (ad 0 0)), (1, .ref o)]) dL_meanChain_10 rfl (by decide) rfl ?_
    refine J_iconst cx (v := nI 1) dL_meanChain_11 (by decide) ?_
    refine J_x ?_
    exact J_iret cx rfl (u := ((ad, X, upc (upc cs 1 (mcC κ X (cs 1) (cs 2) (κ.2.2.1 0)).2.2.1) 2 (mcC κ X (cs 1) (cs 2) (κ.2.2.1 0)).2.2.2, lf, pr, f) : UD)) ⟨by rw [hc1], by rw [hc1]; decide, fun q => absurd (hc1.symm.trans q) (by decide), rfl, (by obtain ⟨k1, k2, _⟩ := mcC_ok hV.2.2.2.1 hV.1 hw.2.1 hw.2.2 (κ.2.2.1 0) (Nat.le_refl _); exact ⟨hV, WV_12 hw k1 k2, hk⟩)⟩ rfl (Nat.le_of_ble_eq_true rfl) (Nat.le_of_ble_eq_true rfl) dL_meanChain_12
  · obtain ⟨hn0, hr⟩ := hr
    have hq : r9 = (ocM κ X (cs 1) (cs 2)).2 := by rw [hr, ocM_0 hn0]
    subst hq
    have hc0 : (ocM κ X (cs 1) (cs 2)).1 = 0 := by rw [ocM_0 hn0]
    refine J_dast cx (ws' := (iW ad g κ X (upc (upc cs 1 (mcC κ X (cs 1) (cs 2) (κ.2.2.1 0)).2.2.1) 2 (mcC κ X (cs 1) (cs 2) (κ.2.2.1 0)).2.2.2) lf pr ++ [(o, .inl (g 4, 1, .inr (.inr (.inr (.inl (vf_upd f 0 ((ocM κ X (cs 1) (cs 2)).2)))))))])) (j := 0) (iW ad g κ X (upc (upc cs 1 (mcC κ X (cs 1) (cs 2) (κ.2.2.1 0)).2.2.1) 2 (mcC κ X (cs 1) (cs 2) (κ.2.2.1 0)).2.2.2) lf pr).length at_end rfl (by decide) (by decide) set_end dL_meanChain_6 ?_
    refine J_goto cx (tgt := 13) dL_meanChain_7 (by decide) ?_
    refine J_iconst cx (v := nI 0) dL_meanChain_13 (by decide) ?_
    refine J_x ?_
    exact J_iret cx rfl (u := ((ad, X, upc (upc cs 1 (mcC κ X (cs 1) (cs 2) (κ.2.2.1 0)).2.2.1) 2 (mcC κ X (cs 1) (cs 2) (κ.2.2.1 0)).2.2.2, lf, pr, vf_upd f 0 ((ocM κ X (cs 1) (cs 2)).2)) : UD)) ⟨by rw [hc0], by rw [hc0]; decide, fun _ => (vd0 (f := f) (v := ((ocM κ X (cs 1) (cs 2)).2))), rfl, (by obtain ⟨k1, k2, _⟩ := mcC_ok hV.2.2.2.1 hV.1 hw.2.1 hw.2.2 (κ.2.2.1 0) (Nat.le_refl _); exact ⟨hV, WV_12 hw k1 k2, hk⟩)⟩ rfl (Nat.le_of_ble_eq_true rfl) (Nat.le_of_ble_eq_true rfl) dL_meanChain_14
