/-! the class's readers, in one shape: the answer, and a world of the same state -/
abbrev RDP (κ : CS) (b : Nat) (v : Int32) : Int32 → UT → Prop := fun r u' => r = v ∧ u'.1 0 0 = b ∧ INV κ u'.2.1 u'.2.2.1
theorem rdU {l : Launch} {D : va_G} {g : Nat → ClassId} {A : Nat → Prop} {y : MethodName} {ws0 : List Cond} {rm : Room} {Pc : Array Value → State → Prop} {P : Int32 → Unit → Prop} {κ : CS} {v : Int32} {mc ms : Nat} (ad : Nat → Nat → Nat) (X : XT) (cs : Nat → CT) (lf : Nat → Int64) (pr : PT) (hv : ∀ r, P r () → r = v) (hi : INV κ X cs) (hM : Met l y ws0 rm Pc (va_Qi P (fun _ => PO D A (iW ad g κ X cs lf pr)) A) mc ms A) : Met l y ws0 rm Pc (va_Qi (RDP κ (ad 0 0) v) (fun u' => PO D A (wT g κ u')) A) mc ms A :=
  Jvm.Free.MetFree.mono hM (fun _ _ h => h) (fun _ _ _ _ _ h => h) (fun _ _ _ _ _ ⟨⟨⟨r, u, ho, h1, h2⟩, hF⟩, h3⟩ => ⟨⟨⟨r, (ad, X, cs, lf, pr), ho, ⟨hv r h1, rfl, hi⟩, h2⟩, hF⟩, h3⟩)
theorem rdA {l : Launch} {D : va_G} {g : Nat → ClassId} {A : Nat → Prop} {y : MethodName} {ws0 : List Cond} {rm : Room} {Pc : Array Value → State → Prop} {κ : CS} {code : Nat} {val v : Int32} {mc ms : Nat} (ad : Nat → Nat → Nat) (hv : adI code val = v) (hM : Met l y ws0 rm Pc (va_Qi (fun (r : Int32) (u : UT) => AQ ad κ code val r u) (fun u => PO D A (wT g κ u)) A) mc ms A) : Met l y ws0 rm Pc (va_Qi (RDP κ (ad 0 0) v) (fun u' => PO D A (wT g κ u')) A) mc ms A :=
  Jvm.Free.MetFree.mono hM (fun _ _ h => h) (fun _ _ _ _ _ h => h) (fun _ _ _ _ _ ⟨⟨⟨r, u, ho, ⟨h1, h5, h6⟩, h2⟩, hF⟩, h3⟩ => ⟨⟨⟨r, u, ho, ⟨h1.trans hv, congrFun h5 0, h6⟩, h2⟩, hF⟩, h3⟩)
theorem thr_0 {L : List String} {E : String} (h : thrE L 0 E) : False := h.1 rfl
def knV (κ : CS) (ci : Nat) : Int32 := if κ.2.1 1 ci then nI 114 else if κ.2.1 0 ci then nI 97 else nI 101
def caV (κ : CS) (ci rk : Nat) : Int32 := match fstN (nthB κ ci (nI rk)) (κ.2.2.1 0) with
  | some k => nI k
  | none => -900002
def chV (κ : CS) (ci on j : Nat) : Int32 := if j < foF κ ci (nI on) 1 then nI (foF κ ci (nI on) (2 + j)) else -900003
def reV (κ : CS) : Int32 := if κ.2.2.1 3 = 0 then -900001 else nI (κ.2.2.2.1 (κ.2.2.1 3 - 1))
section RV
variable {κ : CS} {ci on : Nat}
theorem inR_t (hc : ci < κ.2.2.1 0) (hn : κ.2.2.1 0 ≤ 40) : inR (κ.2.2.1 0) (nI ci) = true := by rw [inR_nI (by omega)]; exact decide_eq_true hc
theorem get_e (f : Nat) (hc : ci < κ.2.2.1 0) (hn : κ.2.2.1 0 ≤ 40) : opGet κ f (nI ci) = (0, κ.1 f ci) := by unfold opGet; rw [inR_t hc hn, show xj (nI ci) = ci from nI_clamp (by omega)]; rfl
theorem kind_e (hc : ci < κ.2.2.1 0) (hn : κ.2.2.1 0 ≤ 40) : opKind κ (nI ci) = (0, knV κ ci) := by unfold opKind; rw [inR_t hc hn, show xj (nI ci) = ci from nI_clamp (by omega)]; rfl
theorem wr_e (hc : ci < κ.2.2.1 0) (hn : κ.2.2.1 0 ≤ 40) (ho : on < 2147483648) : wrongC κ (nI ci) (nI on) = 0 := wr_0 hc hn (nI_pos ho)
theorem rev_e (hc : ci < κ.2.2.1 0) (hn : κ.2.2.1 0 ≤ 40) (ho : on < 2147483648) : opRevoked κ (nI ci) (nI on) = (0, offB κ ci (nI on)) := by unfold opRevoked; rw [wr_e hc hn ho, show xj (nI ci) = ci from nI_clamp (by omega)]; rfl
theorem cand_e {X : XT} (hV : IV κ X) (hc : ci < κ.2.2.1 0) : ocC κ X (nI ci) = (0, nI (cnt (candB κ ci) (κ.2.2.1 0))) := by
  rw [oc_C hV.2.1 hV.1 hV.2.2.1]; unfold opCandidates; rw [inR_t hc hV.1.1, show xj (nI ci) = ci from nI_clamp (by have := hV.1.1; omega)]; rfl
theorem ca_e {X : XT} (hV : IV κ X) (hc : ci < κ.2.2.1 0) (rk : Nat) : adI (ocA κ X (nI ci) (nI rk)).1 (ocA κ X (nI ci) (nI rk)).2 = caV κ ci rk := by
  rw [oc_A hV.2.1 hV.1 hV.2.2.1]; unfold opCandidateAt caV; rw [inR_t hc hV.1.1, show xj (nI ci) = ci from nI_clamp (by have := hV.1.1; omega)]
  cases fstN (nthB κ ci (nI rk)) (κ.2.2.1 0) <;> rfl
theorem size_e {X : XT} (hV : IV κ X) {t b : CT} (ht : ShC κ t) (hb : ShC κ b) (hc : ci < κ.2.2.1 0) (ho : on < 2147483648) : ocS κ X t b (nI ci) (nI on) = (0, nI (foF κ ci (nI on) 1)) := by
  rw [oc_S hV.2.2.2.1 hV.1 hV.2.1 hV.2.2.1 ht hb (fun _ => 0)]; unfold opChainSize
  rw [wr_e hc hV.1.1 ho, show xj (nI ci) = ci from nI_clamp (by have := hV.1.1; omega), (fo_size hV.2.2.2.1 (fun _ => 0)).1]; rfl
theorem good_e {X : XT} (hV : IV κ X) {t : CT} (ht : ShC κ t) (hc : ci < κ.2.2.1 0) (ho : on < 2147483648) : ocG κ X t (nI ci) (nI on) = (0, nI (foF κ ci (nI on) 0)) := by
  rw [oc_G hV.2.2.2.1 hV.1 hV.2.1 hV.2.2.1 ht (fun _ => 0)]; unfold opGood
  rw [wr_e hc hV.1.1 ho, show xj (nI ci) = ci from nI_clamp (by have := hV.1.1; omega), fo_cnt hV.2.2.2.1 (fun _ => 0)]; rfl
theorem walks_e {X : XT} (hV : IV κ X) {t : CT} (ht : ShC κ t) (hc : ci < κ.2.2.1 0) (ho : on < 2147483648) : ocH κ X t (nI ci) (nI on) = (0, nI (foF κ ci (nI on) 0)) := by
  rw [oc_H hV.2.2.2.1 hV.1 hV.2.1 hV.2.2.1 ht (fun _ => 0)]; unfold opGood
  rw [wr_e hc hV.1.1 ho, show xj (nI ci) = ci from nI_clamp (by have := hV.1.1; omega), fo_cnt hV.2.2.2.1 (fun _ => 0)]; rfl
theorem at_e {X : XT} (hV : IV κ X) {t b : CT} (ht : ShC κ t) (hb : ShC κ b) (hc : ci < κ.2.2.1 0) (ho : on < 2147483648) {j : Nat} (hj : j < 100) : adI (ocT κ X t b (nI ci) (nI on) (nI j)).1 (ocT κ X t b (nI ci) (nI on) (nI j)).2 = chV κ ci on j := by
  obtain ⟨e1, e2⟩ := fo_size hV.2.2.2.1 (i := ci) (on := nI on) (fun _ => 0)
  rw [oc_T hV.2.2.2.1 hV.1 hV.2.1 hV.2.2.1 ht hb (fun _ => 0)]; unfold opChainAt chV
  rw [wr_e hc hV.1.1 ho, show xj (nI ci) = ci from nI_clamp (by have := hV.1.1; omega), show xj (nI j) = j from nI_clamp (by omega), e1, inR_nI (by omega)]
  by_cases q : j < (bst κ ci (nI on) (fun _ => 0)).1
  · rw [decide_eq_true q, if_pos q, e2 j q]; rfl
  · rw [decide_eq_false q, if_neg q]; rfl
theorem re_e : adI (opReached κ).1 (opReached κ).2 = reV κ := by
  unfold opReached reV
  by_cases q : κ.2.2.1 3 = 0
  · rw [decide_eq_true q, if_pos q]; rfl
  · rw [decide_eq_false q, if_neg q]; rfl
end RV
theorem rd_nameOf (l : Launch) (D : va_G) (g : Nat → ClassId) (A : Nat → Prop) (κ : CS) (u : UT) (b : Nat) (ci : Nat) (htr : l.stackTraces = false) (hv : INV κ u.2.1 u.2.2.1) (hb : u.1 0 0 = b) (hc : ci < κ.2.2.1 0) : Met l yX6_nameOf (wsA yX6_nameOf cX6_nameOf 2 (some .int)) ({ frames := 7, cells := 1, slots := 6, locals := 112 } : Room) (va_Pc [.ref b, .int (nI ci)] (PRE D g A (wT g κ u))) (va_Qi (RDP κ b (κ.1 0 ci)) (fun u' => PO D A (wT g κ u')) A) 1 6 A := by
  subst hb
  have hn := hv.1.1.1
  exact rdU u.1 u.2.1 (u.2.2.1) u.2.2.2.1 u.2.2.2.2 (fun r h => by rw [get_e 0 hc hn] at h; exact h.2) ⟨hv.1, hv.2.1, hv.2.2⟩ (nothr (fun E h => thr_0 (by rw [get_e 0 hc hn] at h; exact h)) (tX6_nameOf l D g A u.1 κ u.2.1 u.2.2.1 u.2.2.2.1 u.2.2.2.2 (nI ci) htr hv.1.1 hv.1.2.1))
theorem rd_keyOf (l : Launch) (D : va_G) (g : Nat → ClassId) (A : Nat → Prop) (κ : CS) (u : UT) (b : Nat) (ci : Nat) (htr : l.stackTraces = false) (hv : INV κ u.2.1 u.2.2.1) (hb : u.1 0 0 = b) (hc : ci < κ.2.2.1 0) : Met l yX6_keyOf (wsA yX6_keyOf cX6_keyOf 2 (some .int)) ({ frames := 7, cells := 1, slots := 6, locals := 112 } : Room) (va_Pc [.ref b, .int (nI ci)] (PRE D g A (wT g κ u))) (va_Qi (RDP κ b (κ.1 1 ci)) (fun u' => PO D A (wT g κ u')) A) 1 6 A := by
  subst hb
  have hn := hv.1.1.1
  exact rdU u.1 u.2.1 (u.2.2.1) u.2.2.2.1 u.2.2.2.2 (fun r h => by rw [get_e 1 hc hn] at h; exact h.2) ⟨hv.1, hv.2.1, hv.2.2⟩ (nothr (fun E h => thr_0 (by rw [get_e 1 hc hn] at h; exact h)) (tX6_keyOf l D g A u.1 κ u.2.1 u.2.2.1 u.2.2.2.1 u.2.2.2.2 (nI ci) htr hv.1.1 hv.1.2.1))
theorem rd_issuerKeyOf (l : Launch) (D : va_G) (g : Nat → ClassId) (A : Nat → Prop) (κ : CS) (u : UT) (b : Nat) (ci : Nat) (htr : l.stackTraces = false) (hv : INV κ u.2.1 u.2.2.1) (hb : u.1 0 0 = b) (hc : ci < κ.2.2.1 0) : Met l yX6_issuerKeyOf (wsA yX6_issuerKeyOf cX6_issuerKeyOf 2 (some .int)) ({ frames := 7, cells := 1, slots := 6, locals := 112 } : Room) (va_Pc [.ref b, .int (nI ci)] (PRE D g A (wT g κ u))) (va_Qi (RDP κ b (κ.1 5 ci)) (fun u' => PO D A (wT g κ u')) A) 1 6 A := by
  subst hb
  have hn := hv.1.1.1
  exact rdU u.1 u.2.1 (u.2.2.1) u.2.2.2.1 u.2.2.2.2 (fun r h => by rw [get_e 5 hc hn] at h; exact h.2) ⟨hv.1, hv.2.1, hv.2.2⟩ (nothr (fun E h => thr_0 (by rw [get_e 5 hc hn] at h; exact h)) (tX6_issuerKeyOf l D g A u.1 κ u.2.1 u.2.2.1 u.2.2.2.1 u.2.2.2.2 (nI ci) htr hv.1.1 hv.1.2.1))
theorem rd_lastDayOf (l : Launch) (D : va_G) (g : Nat → ClassId) (A : Nat → Prop) (κ : CS) (u : UT) (b : Nat) (ci : Nat) (htr : l.stackTraces = false) (hv : INV κ u.2.1 u.2.2.1) (hb : u.1 0 0 = b) (hc : ci < κ.2.2.1 0) : Met l yX6_lastDayOf (wsA yX6_lastDayOf cX6_lastDayOf 2 (some .int)) ({ frames := 7, cells := 1, slots := 6, locals := 112 } : Room) (va_Pc [.ref b, .int (nI ci)] (PRE D g A (wT g κ u))) (va_Qi (RDP κ b (κ.1 3 ci)) (fun u' => PO D A (wT g κ u')) A) 1 6 A := by
  subst hb
  have hn := hv.1.1.1
  exact rdU u.1 u.2.1 (u.2.2.1) u.2.2.2.1 u.2.2.2.2 (fun r h => by rw [get_e 3 hc hn] at h; exact h.2) ⟨hv.1, hv.2.1, hv.2.2⟩ (nothr (fun E h => thr_0 (by rw [get_e 3 hc hn] at h; exact h)) (tX6_lastDayOf l D g A u.1 κ u.2.1 u.2.2.1 u.2.2.2.1 u.2.2.2.2 (nI ci) htr hv.1.1))
theorem rd_kindOf (l : Launch) (D : va_G) (g : Nat → ClassId) (A : Nat → Prop) (κ : CS) (u : UT) (b : Nat) (ci : Nat) (htr : l.stackTraces = false) (hv : INV κ u.2.1 u.2.2.1) (hb : u.1 0 0 = b) (hc : ci < κ.2.2.1 0) : Met l yX6_kindOf (wsA yX6_kindOf cX6_kindOf 3 (some .char)) ({ frames := 7, cells := 1, slots := 6, locals := 112 } : Room) (va_Pc [.ref b, .int (nI ci)] (PRE D g A (wT g κ u))) (va_Qi (RDP κ b (knV κ ci)) (fun u' => PO D A (wT g κ u')) A) 1 6 A := by
  subst hb
  have hn := hv.1.1.1
  exact rdU u.1 u.2.1 (u.2.2.1) u.2.2.2.1 u.2.2.2.2 (fun r h => by rw [kind_e hc hn] at h; exact h.2) ⟨hv.1, hv.2.1, hv.2.2⟩ (nothr (fun E h => thr_0 (by rw [kind_e hc hn] at h; exact h)) (tX6_kindOf l D g A u.1 κ u.2.1 u.2.2.1 u.2.2.2.1 u.2.2.2.2 (nI ci) htr hv.1.1 hv.1.2.1 hv.1.2.2.2.1))
theorem rd_isRevoked (l : Launch) (D : va_G) (g : Nat → ClassId) (A : Nat → Prop) (κ : CS) (u : UT) (b : Nat) (ci on : Nat) (htr : l.stackTraces = false) (hv : INV κ u.2.1 u.2.2.1) (hb : u.1 0 0 = b) (hc : ci < κ.2.2.1 0) (ho : on < 2147483648) : Met l yX6_isRevoked (wsA yX6_isRevoked cX6_isRevoked 4 (some .boolean)) ({ frames := 7, cells := 2, slots := 12, locals := 112 } : Room) (va_Pc [.ref b, .int (nI ci), .int (nI on)] (PRE D g A (wT g κ u))) (va_Qi (RDP κ b (zb (offB κ ci (nI on)))) (fun u' => PO D A (wT g κ u')) A) 2 12 A := by
  subst hb
  have hn := hv.1.1.1
  exact rdU u.1 u.2.1 (u.2.2.1) u.2.2.2.1 u.2.2.2.2 (fun r h => by rw [rev_e hc hn ho] at h; exact h.2) ⟨hv.1, hv.2.1, hv.2.2⟩ (nothr (fun E h => thr_0 (by rw [rev_e hc hn ho] at h; exact h)) (tX6_isRevoked l D g A u.1 κ u.2.1 u.2.2.1 u.2.2.2.1 u.2.2.2.2 (nI ci) (nI on) htr hv.1.1))
theorem rd_isRevokedByLists (l : Launch) (D : va_G) (g : Nat → ClassId) (A : Nat → Prop) (κ : CS) (u : UT) (b : Nat) (ci on : Nat) (htr : l.stackTraces = false) (hv : INV κ u.2.1 u.2.2.1) (hb : u.1 0 0 = b) (hc : ci < κ.2.2.1 0) (ho : on < 2147483648) : Met l yX6_isRevokedByLists (wsA yX6_isRevokedByLists cX6_isRevokedByLists 4 (some .boolean)) ({ frames := 7, cells := 2, slots := 12, locals := 112 } : Room) (va_Pc [.ref b, .int (nI ci), .int (nI on)] (PRE D g A (wT g κ u))) (va_Qi (RDP κ b (zb (offB κ ci (nI on)))) (fun u' => PO D A (wT g κ u')) A) 2 12 A := by
  subst hb
  have hn := hv.1.1.1
  exact rdU u.1 u.2.1 (u.2.2.1) u.2.2.2.1 u.2.2.2.2 (fun r h => by rw [rev_e hc hn ho] at h; exact h.2) ⟨hv.1, hv.2.1, hv.2.2⟩ (nothr (fun E h => thr_0 (by rw [rev_e hc hn ho] at h; exact h)) (tX6_isRevokedByLists l D g A u.1 κ u.2.1 u.2.2.1 u.2.2.2.1 u.2.2.2.2 (nI ci) (nI on) htr hv.1.1 (by have := hv.1.hle; omega) hv.1.hLs))
theorem rd_candidates (l : Launch) (D : va_G) (g : Nat → ClassId) (A : Nat → Prop) (κ : CS) (u : UT) (b : Nat) (ci : Nat) (htr : l.stackTraces = false) (hv : INV κ u.2.1 u.2.2.1) (hb : u.1 0 0 = b) (hc : ci < κ.2.2.1 0) : Met l yX6_candidates (wsA yX6_candidates cX6_candidates 2 (some .int)) ({ frames := 7, cells := 1, slots := 6, locals := 112 } : Room) (va_Pc [.ref b, .int (nI ci)] (PRE D g A (wT g κ u))) (va_Qi (RDP κ b (nI (cnt (candB κ ci) (κ.2.2.1 0)))) (fun u' => PO D A (wT g κ u')) A) 1 6 A := by
  subst hb
  have hn := hv.1.1.1
  exact rdU u.1 u.2.1 (u.2.2.1) u.2.2.2.1 u.2.2.2.2 (fun r h => by rw [cand_e hv.1 hc] at h; exact h.2) ⟨hv.1, hv.2.1, hv.2.2⟩ (nothr (fun E h => thr_0 (by rw [cand_e hv.1 hc] at h; exact h)) (tX6_candidates l D g A u.1 κ u.2.1 u.2.2.1 u.2.2.2.1 u.2.2.2.2 (nI ci) htr hv.1.1))
theorem rd_chainSize (l : Launch) (D : va_G) (g : Nat → ClassId) (A : Nat → Prop) (κ : CS) (u : UT) (b : Nat) (ci on : Nat) (htr : l.stackTraces = false) (hv : INV κ u.2.1 u.2.2.1) (hb : u.1 0 0 = b) (hc : ci < κ.2.2.1 0) (ho : on < 2147483648) : Met l yX6_chainSize (wsA yX6_chainSize cX6_chainSize 4 (some .int)) ({ frames := 13, cells := 2, slots := 12, locals := 346 } : Room) (va_Pc [.ref b, .int (nI ci), .int (nI on)] (PRE D g A (wT g κ u))) (va_Qi (RDP κ b (nI (foF κ ci (nI on) 1))) (fun u' => PO D A (wT g κ u')) A) 2 12 A := by
  subst hb
  have hn := hv.1.1.1
  obtain ⟨ad, X, cs, lf, pr⟩ := u
  have e9 : cs = upc (upc cs 1 (cs 1)) 2 (cs 2) := upc_12
  show Met l _ _ _ (va_Pc _ (PRE D g A (iW ad g κ X cs lf pr))) _ _ _ _
  rw [show iW ad g κ X cs lf pr = iW ad g κ X (upc (upc cs 1 (cs 1)) 2 (cs 2)) lf pr from by rw [← e9]]
  exact rdU ad X (upc (upc cs 1 (sbK κ X (xj (nI ci)) (nI on) (cs 1) (cs 2)).1) 2 (sbK κ X (xj (nI ci)) (nI on) (cs 1) (cs 2)).2) lf pr (fun r h => by rw [size_e hv.1 hv.2.1.2.1 hv.2.1.2.2 hc ho] at h; exact h.2) ⟨hv.1, (by obtain ⟨k1, k2⟩ := sbK_ok (d := nI on) hv.1.2.2.2.1 hv.1.1 (show xj (nI ci) < κ.2.2.1 0 from by rw [show xj (nI ci) = ci from nI_clamp (by omega)]; exact hc) hv.2.1.2.1 hv.2.1.2.2; exact WV_12 hv.2.1 k1 k2), hv.2.2⟩ (nothr (fun E h => thr_0 (by rw [size_e hv.1 hv.2.1.2.1 hv.2.1.2.2 hc ho] at h; exact h)) (tX6_chainSize l D g A ad κ X cs lf pr (cs 1) (cs 2) (nI ci) (nI on) htr hv.1.1 hv.1.2.2.2.1 hv.2.1.2.1 hv.2.1.2.2))
theorem rd_goodChains (l : Launch) (D : va_G) (g : Nat → ClassId) (A : Nat → Prop) (κ : CS) (u : UT) (b : Nat) (ci on : Nat) (htr : l.stackTraces = false) (hv : INV κ u.2.1 u.2.2.1) (hb : u.1 0 0 = b) (hc : ci < κ.2.2.1 0) (ho : on < 2147483648) : Met l yX6_goodChains (wsA yX6_goodChains cX6_goodChains 4 (some .int)) ({ frames := 13, cells := 2, slots := 12, locals := 346 } : Room) (va_Pc [.ref b, .int (nI ci), .int (nI on)] (PRE D g A (wT g κ u))) (va_Qi (RDP κ b (nI (foF κ ci (nI on) 0))) (fun u' => PO D A (wT g κ u')) A) 2 12 A := by
  subst hb
  have hn := hv.1.1.1
  obtain ⟨ad, X, cs, lf, pr⟩ := u
  have e9 : cs = upc cs 1 (cs 1) := upc_1
  show Met l _ _ _ (va_Pc _ (PRE D g A (iW ad g κ X cs lf pr))) _ _ _ _
  rw [show iW ad g κ X cs lf pr = iW ad g κ X (upc cs 1 (cs 1)) lf pr from by rw [← e9]]
  exact rdU ad X (upc cs 1 (cjK κ X 7 (va_up (cs 1).1 0 (some (xj (nI ci))), 1, nI on)).2) lf pr (fun r h => by rw [good_e hv.1 hv.2.1.2.1 hc ho] at h; exact h.2) ⟨hv.1, (WV_1 hv.2.1 (ctK_keep (okJ_7 (κ := κ)) hv.1.1 7 _ (restart_ok hv.2.1.2.1 (show xj (nI ci) < κ.2.2.1 0 from by rw [show xj (nI ci) = ci from nI_clamp (by omega)]; exact hc)) (Nat.le_refl 1)).1), hv.2.2⟩ (nothr (fun E h => thr_0 (by rw [good_e hv.1 hv.2.1.2.1 hc ho] at h; exact h)) (tX6_goodChains l D g A ad κ X cs lf pr (cs 1) (nI ci) (nI on) htr hv.1.1 hv.1.2.2.2.1 hv.2.1.2.1))
theorem rd_goodChainsByWalks (l : Launch) (D : va_G) (g : Nat → ClassId) (A : Nat → Prop) (κ : CS) (u : UT) (b : Nat) (ci on : Nat) (htr : l.stackTraces = false) (hv : INV κ u.2.1 u.2.2.1) (hb : u.1 0 0 = b) (hc : ci < κ.2.2.1 0) (ho : on < 2147483648) : Met l yX6_goodChainsByWalks (wsA yX6_goodChainsByWalks cX6_goodChainsByWalks 4 (some .int)) ({ frames := 12, cells := 2, slots := 12, locals := 324 } : Room) (va_Pc [.ref b, .int (nI ci), .int (nI on)] (PRE D g A (wT g κ u))) (va_Qi (RDP κ b (nI (foF κ ci (nI on) 0))) (fun u' => PO D A (wT g κ u')) A) 2 12 A := by
  subst hb
  have hn := hv.1.1.1
  obtain ⟨ad, X, cs, lf, pr⟩ := u
  have e9 : cs = upc cs 1 (cs 1) := upc_1
  show Met l _ _ _ (va_Pc _ (PRE D g A (iW ad g κ X cs lf pr))) _ _ _ _
  rw [show iW ad g κ X cs lf pr = iW ad g κ X (upc cs 1 (cs 1)) lf pr from by rw [← e9]]
  exact rdU ad X (upc cs 1 (gwK2 κ X (cs 1) (xj (nI ci)) (nI on)).2) lf pr (fun r h => by rw [walks_e hv.1 hv.2.1.2.1 hc ho] at h; exact h.2) ⟨hv.1, (WV_1 hv.2.1 (gw_ok hv.1 hv.2.1.2.1 (show xj (nI ci) < κ.2.2.1 0 from by rw [show xj (nI ci) = ci from nI_clamp (by omega)]; exact hc))), hv.2.2⟩ (nothr (fun E h => thr_0 (by rw [walks_e hv.1 hv.2.1.2.1 hc ho] at h; exact h)) (tX6_goodChainsByWalks l D g A ad κ X cs lf pr (cs 1) (nI ci) (nI on) htr hv.1.1 hv.1.2.2.2.1 hv.2.1.2.1))
theorem rd_walked (l : Launch) (D : va_G) (g : Nat → ClassId) (A : Nat → Prop) (κ : CS) (u : UT) (b : Nat)  (htr : l.stackTraces = false) (hv : INV κ u.2.1 u.2.2.1) (hb : u.1 0 0 = b)  : Met l yX6_walked (wsA yX6_walked cX6_walked 1 (some .int)) ({ frames := 0, cells := 0, slots := 0, locals := 0 } : Room) (va_Pc [.ref b] (PRE D g A (wT g κ u))) (va_Qi (RDP κ b (nI (κ.2.2.1 3))) (fun u' => PO D A (wT g κ u')) A) 0 0 A := by
  subst hb
  have hn := hv.1.1.1
  obtain ⟨ad, X, cs, lf, pr⟩ := u
  have e9 : cs = upc cs 0 (cs 0) := upc_1
  show Met l _ _ _ (va_Pc _ (PRE D g A (iW ad g κ X cs lf pr))) _ _ _ _
  rw [show iW ad g κ X cs lf pr = iW ad g κ X (upc cs 0 (cs 0)) lf pr from by rw [← e9]]
  exact rdU ad X (upc cs 0 (cs 0)) lf pr (fun r h => h) ⟨hv.1, (by rw [upc_self]; exact hv.2.1), hv.2.2⟩ (tX6_walked l D g A ad κ X cs lf pr (cs 0) hv.2.1.1)
theorem rd_isThrough (l : Launch) (D : va_G) (g : Nat → ClassId) (A : Nat → Prop) (κ : CS) (u : UT) (b : Nat)  (htr : l.stackTraces = false) (hv : INV κ u.2.1 u.2.2.1) (hb : u.1 0 0 = b)  : Met l yX6_isThrough (wsA yX6_isThrough cX6_isThrough 1 (some .boolean)) ({ frames := 3, cells := 0, slots := 0, locals := 62 } : Room) (va_Pc [.ref b] (PRE D g A (wT g κ u))) (va_Qi (RDP κ b (zb (thrB κ))) (fun u' => PO D A (wT g κ u')) A) 0 0 A := by
  subst hb
  have hn := hv.1.1.1
  obtain ⟨ad, X, cs, lf, pr⟩ := u
  have e9 : cs = upc cs 0 (cs 0) := upc_1
  show Met l _ _ _ (va_Pc _ (PRE D g A (iW ad g κ X cs lf pr))) _ _ _ _
  rw [show iW ad g κ X cs lf pr = iW ad g κ X (upc cs 0 (cs 0)) lf pr from by rw [← e9]]
  exact rdU ad X (upc cs 0 (cs 0)) lf pr (fun r h => h) ⟨hv.1, (by rw [upc_self]; exact hv.2.1), hv.2.2⟩ (tX6_isThrough l D g A ad κ X cs lf pr (cs 0) hv.1.1 hv.1.2.1 hv.2.1.1)
theorem rd_day (l : Launch) (D : va_G) (g : Nat → ClassId) (A : Nat → Prop) (κ : CS) (u : UT) (b : Nat)  (htr : l.stackTraces = false) (hv : INV κ u.2.1 u.2.2.1) (hb : u.1 0 0 = b)  : Met l yX6_day (wsA yX6_day cX6_day 1 (some .int)) ({ frames := 0, cells := 0, slots := 0, locals := 0 } : Room) (va_Pc [.ref b] (PRE D g A (wT g κ u))) (va_Qi (RDP κ b (nI (κ.2.2.1 2))) (fun u' => PO D A (wT g κ u')) A) 0 0 A := by
  subst hb
  have hn := hv.1.1.1
  exact rdU u.1 u.2.1 (u.2.2.1) u.2.2.2.1 u.2.2.2.2 (fun r h => h) ⟨hv.1, hv.2.1, hv.2.2⟩ (tX6_day l D g A u.1 κ u.2.1 u.2.2.1 u.2.2.2.1 u.2.2.2.2)
theorem rd_certificates (l : Launch) (D : va_G) (g : Nat → ClassId) (A : Nat → Prop) (κ : CS) (u : UT) (b : Nat)  (htr : l.stackTraces = false) (hv : INV κ u.2.1 u.2.2.1) (hb : u.1 0 0 = b)  : Met l yX6_certificates (wsA yX6_certificates cX6_certificates 1 (some .int)) ({ frames := 0, cells := 0, slots := 0, locals := 0 } : Room) (va_Pc [.ref b] (PRE D g A (wT g κ u))) (va_Qi (RDP κ b (nI (κ.2.2.1 0))) (fun u' => PO D A (wT g κ u')) A) 0 0 A := by
  subst hb
  have hn := hv.1.1.1
  exact rdU u.1 u.2.1 (u.2.2.1) u.2.2.2.1 u.2.2.2.2 (fun r h => h) ⟨hv.1, hv.2.1, hv.2.2⟩ (tX6_certificates l D g A u.1 κ u.2.1 u.2.2.1 u.2.2.2.1 u.2.2.2.2)
theorem rd_LcandidateAt (l : Launch) (D : va_G) (g : Nat → ClassId) (A : Nat → Prop) (κ : CS) (u : UT) (b : Nat) (ci rk : Nat) (htr : l.stackTraces = false) (hv : INV κ u.2.1 u.2.2.1) (hb : u.1 0 0 = b) (hd : κ.2.2.1 2 + 999 < 2147483648) (hc : ci < κ.2.2.1 0) : Met l yL_candidateAt (wsH yL_candidateAt cL_candidateAt 4 (some .int) [(0, 6, 7, 37), (0, 6, 11, 72)]) ({ frames := 8, cells := 2, slots := 12, locals := 135 } : Room) (va_Pc [.ref b, .int (nI ci), .int (nI rk)] (PRE D g A (wT g κ u))) (va_Qi (RDP κ b (caV κ ci rk)) (fun u' => PO D A (wT g κ u')) A) 2 12 A := by
  subst hb
  have hn := hv.1.1.1
  exact rdA u.1 (ca_e hv.1 hc rk) (tL_candidateAt l D g A u.1 κ u.2.1 u.2.2.1 u.2.2.2.1 u.2.2.2.2 (nI ci) (nI rk) htr hv.1 hv.2.1 hv.2.2 hd)
theorem rd_LchainAt (l : Launch) (D : va_G) (g : Nat → ClassId) (A : Nat → Prop) (κ : CS) (u : UT) (b : Nat) (ci on j : Nat) (htr : l.stackTraces = false) (hv : INV κ u.2.1 u.2.2.1) (hb : u.1 0 0 = b) (hd : κ.2.2.1 2 + 999 < 2147483648) (hc : ci < κ.2.2.1 0) (ho : on < 2147483648) (hj : j < 100) : Met l yL_chainAt (wsH yL_chainAt cL_chainAt 5 (some .int) [(0, 7, 8, 37), (0, 7, 13, 28), (0, 7, 18, 72)]) ({ frames := 14, cells := 3, slots := 18, locals := 371 } : Room) (va_Pc [.ref b, .int (nI ci), .int (nI on), .int (nI j)] (PRE D g A (wT g κ u))) (va_Qi (RDP κ b (chV κ ci on j)) (fun u' => PO D A (wT g κ u')) A) 3 18 A := by
  subst hb
  have hn := hv.1.1.1
  exact rdA u.1 (at_e hv.1 hv.2.1.2.1 hv.2.1.2.2 hc ho hj) (tL_chainAt l D g A u.1 κ u.2.1 u.2.2.1 u.2.2.2.1 u.2.2.2.2 (nI ci) (nI on) (nI j) htr hv.1 hv.2.1 hv.2.2 hd)
theorem rd_Lreached (l : Launch) (D : va_G) (g : Nat → ClassId) (A : Nat → Prop) (κ : CS) (u : UT) (b : Nat)  (htr : l.stackTraces = false) (hv : INV κ u.2.1 u.2.2.1) (hb : u.1 0 0 = b) (hd : κ.2.2.1 2 + 999 < 2147483648)  : Met l yL_reached (wsH yL_reached cL_reached 2 (some .int) [(0, 4, 5, 31)]) ({ frames := 8, cells := 1, slots := 6, locals := 131 } : Room) (va_Pc [.ref b] (PRE D g A (wT g κ u))) (va_Qi (RDP κ b (reV κ)) (fun u' => PO D A (wT g κ u')) A) 1 6 A := by
  subst hb
  have hn := hv.1.1.1
  exact rdA u.1 (re_e) (tL_reached l D g A u.1 κ u.2.1 u.2.2.1 u.2.2.2.1 u.2.2.2.2  htr hv.1 hv.2.1 hv.2.2 hd)
