set_option maxHeartbeats 4000000 in
set_option maxRecDepth 100000 in
theorem mk_c164 {p : Program} {l : Launch} {e : Env} {s : State} {m : MethodId} {args : Array Value} {below : List Frame} {meth : Method} {c : Code} {D : va_G} {g : Nat → ClassId} {A : Nat → Prop} {an : Nat} {N : Nat → Int32} {ad : Nat → Nat → Nat} {κ : CS} {X : XT} {cs : Nat → CT} {lf : Nat → Int64} {pr : PT} {i : Nat} {ci : Nat} {a0 : Nat} {oi : Nat} {dd : Nat} {ll : Nat} {nm : Nat} {can : Bool} (htr : l.stackTraces = false) (hV : IV κ X) (hw : WV κ cs) (hk : κ.2.2.1 1 ≤ κ.2.2.1 0) (hd : κ.2.2.1 2 + 999 < 2147483648) (hL : LAW N κ) (hi : i < 50000) (hci : ci < κ.2.2.1 0) (ha01 : 1 ≤ a0) (ha02 : a0 ≤ 9999) (ha0 : κ.1 0 ci = nI a0) (hnb : nameB (nI a0) = true) (hoi : oi < κ.2.2.1 0) (hdd : dd < 40) (hdy : isInB (nI (8 + dd)) (nI 1) (nI 999) = true) (hln : isInB (nI ll) (nI 0) (nI 5) = true) (hll : ll ≤ 5) (hnm1 : 1 ≤ nm ∧ nm ≤ 9999) (hnm : nameB (nI nm) = true) (hcan : can = (κ.2.1 0 ci && decide (κ.2.2.1 0 < 40))) (cx : CX p l s m args meth c yL_isMade.cls cL_isMade (some .boolean) 14 D g A) : J p l e ({ frames := 10, cells := 9, slots := 59, locals := 178 } : Room) s m args below meth c D A 14 (MQ below (va_Qi (fun (r : Int32) (u : LT) => r = nI 1 ∧ u.2.2.1 0 = ad 0 ∧ LI u ∧ u.2.1.2.2.1 2 ≤ κ.2.2.1 2 + 999) (fun u => PO D A (wL g an u)) A) args s 9 59 A) 0 0 (iA g an 700 N :: iW ad g κ X cs lf pr) [(0, .ref (ad 0 0)), (1, .ref an), (2, .ref (g 10)), (3, .int (nI i)), (4, .int (nI ci)), (5, .int (nI (10 + 14 * ci))), (6, .int (nI oi)), (7, .int (nI (8 + dd))), (8, .int (nI ll)), (9, .int (nI nm)), (10, .int (zb can))] 164 [] := by
  have hN := hL.1
  have hI := hV.2.2.2.1
  have hn := hV.1.1
  have hF := hV.2.2.2.2.1
  have h1n := hL.2.1
  refine J_aload_n cx dL_isMade_164 rfl 0 rfl ?_
  refine J_iload cx dL_isMade_165 9 rfl ?_
  refine J_iload cx dL_isMade_167 7 rfl ?_
  refine J_iload cx dL_isMade_169 8 rfl ?_
  refine J_callHi cx kL_141 (As := [.ref (ad 0 0), .int (nI nm), .int (nI (8 + dd)), .int (nI ll)]) (frI (w := iW ad g κ X cs lf pr) (wr := [iA g an 700 N]) (W' := fun (u : UT) => wT g ((opMakeRoot κ (nI nm) (nI (8 + dd)) (nI ll)).2.2) u) (W2 := fun (u : UT) => iA g an 700 N :: wT g ((opMakeRoot κ (nI nm) (nI (8 + dd)) (nI ll)).2.2) u) (pm_1 _ _) (fun u => (pm_1 _ _).symm) (tL_makeRoot l D g _ ad κ X cs lf pr (nI nm) (nI (8 + dd)) (nI ll) htr hV hw hk hd)) ⟨rfl, rfl, by decide, by decide⟩ ⟨by decide, by decide⟩ rfl rfl (Nat.le_of_ble_eq_true rfl) dL_isMade_171 ?_
  intro r171 u171 hu171; obtain ⟨hr171, hz171, hv171⟩ := hu171
  generalize hK171 : (opMakeRoot κ (nI nm) (nI (8 + dd)) (nI ll)).2.2 = K171 at *
  refine J_aload_n cx dL_isMade_174 rfl 1 rfl ?_
  refine J_iconst cx (v := nI 0) dL_isMade_175 (by decide) ?_
  refine J_iald cx (j := 0) (f := N) 0 rfl rfl (by omega) (by decide) dL_isMade_176 ?_
  refine J_top (v' := .int (nI (κ.2.2.1 0))) (congrArg Value.int hN.n0) ?_
  refine J_bipush cx (v := nI 40) dL_isMade_177 (by decide) ?_
  refine J_icmp_ne cx (tgt := 187) dL_isMade_179 (by decide) (fun c_1 => ?_) (fun c_1 => ?_)
  · have c_1 := (nat_ic_ne (by omega) (by omega)).mp c_1
    have c_1d := decide_eq_false c_1
    refine J_aload_n cx dL_isMade_187 rfl 1 rfl ?_
    refine J_iload cx dL_isMade_188 9 rfl ?_
    refine J_iload cx dL_isMade_190 7 rfl ?_
    refine J_iload cx dL_isMade_192 8 rfl ?_
    refine J_callSi cx kL_144 (As := [.ref an, .int (nI nm), .int (nI (8 + dd)), .int (nI ll)]) (tL_root l D g A an N (iW u171.1 g K171 u171.2.1 u171.2.2.1 u171.2.2.2.1 u171.2.2.2.2) (κ.2.2.1 0) (κ.2.2.1 1) (nI nm) (nI (8 + dd)) (nI ll) hN.n0 hN.n1 (by have := hn; omega)) ⟨rfl, rfl, by decide, by decide⟩ ⟨by decide, by decide⟩ rfl rfl (Nat.le_of_ble_eq_true rfl) dL_isMade_194 ?_
    intro _ _ hr; cases hr
    refine J_icmp_ne cx (tgt := 204) dL_isMade_197 (by decide) (fun c_2 => ?_) (fun c_2 => ?_)
    · have c_2d := decide_eq_false c_2
      exact absurd (hr171.trans (by rw [op_root_ok hnm hdy hln c_1]; exact adI_0 _)) c_2
    · have c_2d := decide_eq_true c_2
      refine J_iconst cx (v := nI 1) dL_isMade_200 (by decide) ?_
      refine J_goto cx (tgt := 205) dL_isMade_201 (by decide) ?_
      have LAWf : LAW (rtN N (κ.2.2.1 0) (κ.2.2.1 1) (nI nm) (nI (8 + dd)) (nI ll)) K171 := (by rw [← hK171, op_root_ok hnm hdy hln c_1]; exact law_root hL hF (by have := c_1; omega) _ _ hnm hll)
      have DYf : K171.2.2.1 2 ≤ κ.2.2.1 2 + 999 := (by rw [← hK171]; exact dy_root hV hw hk hd)
      exact J_end cx rfl hz171 hv171 LAWf DYf (Nat.le_of_ble_eq_true rfl) (Nat.le_of_ble_eq_true rfl) dL_isMade_205
  · have c_1 := (nat_ic_ne_f (by omega) (by omega)).mp c_1
    have c_1d := decide_eq_true c_1
    refine J_ldc cx (v := (-900002)) dL_isMade_182 cL_33 ?_
    refine J_goto cx (tgt := 197) dL_isMade_184 (by decide) ?_
    refine J_icmp_ne cx (tgt := 204) dL_isMade_197 (by decide) (fun c_3 => ?_) (fun c_3 => ?_)
    · have c_3d := decide_eq_false c_3
      exact absurd (hr171.trans (by rw [op_root_full hnm hdy hln c_1]; rfl)) c_3
    · have c_3d := decide_eq_true c_3
      refine J_iconst cx (v := nI 1) dL_isMade_200 (by decide) ?_
      refine J_goto cx (tgt := 205) dL_isMade_201 (by decide) ?_
      have LAWf : LAW N K171 := (by rw [← hK171, op_root_full hnm hdy hln c_1]; exact hL)
      have DYf : K171.2.2.1 2 ≤ κ.2.2.1 2 + 999 := (by rw [← hK171]; exact dy_root hV hw hk hd)
      exact J_end cx rfl hz171 hv171 LAWf DYf (Nat.le_of_ble_eq_true rfl) (Nat.le_of_ble_eq_true rfl) dL_isMade_205
set_option maxHeartbeats 4000000 in
set_option maxRecDepth 100000 in
theorem mk_c206 {p : Program} {l : Launch} {e : Env} {s : State} {m : MethodId} {args : Array Value} {below : List Frame} {meth : Method} {c : Code} {D : va_G} {g : Nat → ClassId} {A : Nat → Prop} {an : Nat} {N : Nat → Int32} {ad : Nat → Nat → Nat} {κ : CS} {X : XT} {cs : Nat → CT} {lf : Nat → Int64} {pr : PT} {i : Nat} {ci : Nat} {a0 : Nat} {oi : Nat} {dd : Nat} {ll : Nat} {nm : Nat} {can : Bool} (htr : l.stackTraces = false) (hV : IV κ X) (hw : WV κ cs) (hk : κ.2.2.1 1 ≤ κ.2.2.1 0) (hd : κ.2.2.1 2 + 999 < 2147483648) (hL : LAW N κ) (hi : i < 50000) (hci : ci < κ.2.2.1 0) (ha01 : 1 ≤ a0) (ha02 : a0 ≤ 9999) (ha0 : κ.1 0 ci = nI a0) (hnb : nameB (nI a0) = true) (hoi : oi < κ.2.2.1 0) (hdd : dd < 40) (hdy : isInB (nI (8 + dd)) (nI 1) (nI 999) = true) (hln : isInB (nI ll) (nI 0) (nI 5) = true) (hll : ll ≤ 5) (hnm1 : 1 ≤ nm ∧ nm ≤ 9999) (hnm : nameB (nI nm) = true) (hcan : can = (κ.2.1 0 ci && decide (κ.2.2.1 0 < 40))) (cx : CX p l s m args meth c yL_isMade.cls cL_isMade (some .boolean) 14 D g A) : J p l e ({ frames := 10, cells := 9, slots := 59, locals := 178 } : Room) s m args below meth c D A 14 (MQ below (va_Qi (fun (r : Int32) (u : LT) => r = nI 1 ∧ u.2.2.1 0 = ad 0 ∧ LI u ∧ u.2.1.2.2.1 2 ≤ κ.2.2.1 2 + 999) (fun u => PO D A (wL g an u)) A) args s 9 59 A) 0 0 (iA g an 700 N :: iW ad g κ X cs lf pr) [(0, .ref (ad 0 0)), (1, .ref an), (2, .ref (g 10)), (3, .int (nI i)), (4, .int (nI ci)), (5, .int (nI (10 + 14 * ci))), (6, .int (nI oi)), (7, .int (nI (8 + dd))), (8, .int (nI ll)), (9, .int (nI nm)), (10, .int (zb can))] 206 [] := by
  have hN := hL.1
  have hI := hV.2.2.2.1
  have hn := hV.1.1
  have hF := hV.2.2.2.2.1
  have h1n := hL.2.1
  refine J_aload_n cx dL_isMade_206 rfl 0 rfl ?_
  refine J_iload cx dL_isMade_207 4 rfl ?_
  refine J_iload cx dL_isMade_209 9 rfl ?_
  refine J_iload cx dL_isMade_211 7 rfl ?_
  refine J_iload cx dL_isMade_213 8 rfl ?_
  refine J_callHi cx kL_148 (As := [.ref (ad 0 0), .int (nI ci), .int (nI nm), .int (nI (8 + dd)), .int (nI ll)]) (frI (w := iW ad g κ X cs lf pr) (wr := [iA g an 700 N]) (W' := fun (u : UT) => wT g ((opIssueA κ (nI ci) (nI nm) (nI (8 + dd)) (nI ll)).2.2) u) (W2 := fun (u : UT) => iA g an 700 N :: wT g ((opIssueA κ (nI ci) (nI nm) (nI (8 + dd)) (nI ll)).2.2) u) (pm_1 _ _) (fun u => (pm_1 _ _).symm) (tL_issueAuthority l D g _ ad κ X cs lf pr (nI ci) (nI nm) (nI (8 + dd)) (nI ll) htr hV hw hk hd)) ⟨rfl, rfl, by decide, by decide⟩ ⟨by decide, by decide⟩ rfl rfl (Nat.le_of_ble_eq_true rfl) dL_isMade_215 ?_
  intro r215 u215 hu215; obtain ⟨hr215, hz215, hv215⟩ := hu215
  generalize hK215 : (opIssueA κ (nI ci) (nI nm) (nI (8 + dd)) (nI ll)).2.2 = K215 at *
  refine J_iload cx dL_isMade_218 10 rfl ?_
  refine J_ifz_eq cx (tgt := 238) dL_isMade_220 (by decide) (fun c_1 => ?_) (fun c_1 => ?_)
  · refine J_ldc cx (v := (-900003)) dL_isMade_238 cL_39 ?_
    refine J_icmp_ne cx (tgt := 247) dL_isMade_240 (by decide) (fun c_2 => ?_) (fun c_2 => ?_)
    · have c_2d := decide_eq_false c_2
      exact absurd (hr215.trans (by rw [op_issueA_no hci hn hnm hdy hln (hcan.symm.trans c_1)]; rfl)) c_2
    · have c_2d := decide_eq_true c_2
      refine J_iconst cx (v := nI 1) dL_isMade_243 (by decide) ?_
      refine J_goto cx (tgt := 248) dL_isMade_244 (by decide) ?_
      have LAWf : LAW N K215 := (by rw [← hK215, op_issueA_no hci hn hnm hdy hln (hcan.symm.trans c_1)]; exact hL)
      have DYf : K215.2.2.1 2 ≤ κ.2.2.1 2 + 999 := (by rw [← hK215]; exact dy_issueA hV hw hk hd)
      exact J_end cx rfl hz215 hv215 LAWf DYf (Nat.le_of_ble_eq_true rfl) (Nat.le_of_ble_eq_true rfl) dL_isMade_248
  · have hlt := can_lt (hcan.symm.trans c_1)
    refine J_aload_n cx dL_isMade_223 rfl 1 rfl ?_
    refine J_iload cx dL_isMade_224 5 rfl ?_
    refine J_iload cx dL_isMade_226 9 rfl ?_
    refine J_iload cx dL_isMade_228 7 rfl ?_
    refine J_iload cx dL_isMade_230 8 rfl ?_
    refine J_callSi cx kL_151 (As := [.ref an, .int (nI (10 + 14 * ci)), .int (nI nm), .int (nI (8 + dd)), .int (nI ll)]) (tL_child l D g A an N (iW u215.1 g K215 u215.2.1 u215.2.2.1 u215.2.2.2.1 u215.2.2.2.2) (κ.2.2.1 0) (κ.2.2.1 1) ci (nI nm) (nI (8 + dd)) (nI ll) hN.n0 hN.n1 hlt (by omega)) ⟨rfl, rfl, by decide, by decide⟩ ⟨by decide, by decide⟩ rfl rfl (Nat.le_of_ble_eq_true rfl) dL_isMade_232 ?_
    intro _ _ hr; cases hr
    refine J_goto cx (tgt := 240) dL_isMade_235 (by decide) ?_
    refine J_icmp_ne cx (tgt := 247) dL_isMade_240 (by decide) (fun c_3 => ?_) (fun c_3 => ?_)
    · have c_3d := decide_eq_false c_3
      exact absurd (hr215.trans (by rw [op_issueA_ok hci hn hnm hdy hln (hcan.symm.trans c_1)]; exact adI_0 _)) c_3
    · have c_3d := decide_eq_true c_3
      refine J_iconst cx (v := nI 1) dL_isMade_243 (by decide) ?_
      refine J_goto cx (tgt := 248) dL_isMade_244 (by decide) ?_
      have LAWf : LAW (chN N (κ.2.2.1 0) (κ.2.2.1 1) ci (nI nm) (nI (8 + dd)) (nI ll)) K215 := (by rw [← hK215, op_issueA_ok hci hn hnm hdy hln (hcan.symm.trans c_1)]; exact law_issueA hL hF (can_lt (hcan.symm.trans c_1)) hci _ _ hnm hll)
      have DYf : K215.2.2.1 2 ≤ κ.2.2.1 2 + 999 := (by rw [← hK215]; exact dy_issueA hV hw hk hd)
      exact J_end cx rfl hz215 hv215 LAWf DYf (Nat.le_of_ble_eq_true rfl) (Nat.le_of_ble_eq_true rfl) dL_isMade_248
set_option maxHeartbeats 4000000 in
set_option maxRecDepth 100000 in
theorem mk_c249 {p : Program} {l : Launch} {e : Env} {s : State} {m : MethodId} {args : Array Value} {below : List Frame} {meth : Method} {c : Code} {D : va_G} {g : Nat → ClassId} {A : Nat → Prop} {an : Nat} {N : Nat → Int32} {ad : Nat → Nat → Nat} {κ : CS} {X : XT} {cs : Nat → CT} {lf : Nat → Int64} {pr : PT} {i : Nat} {ci : Nat} {a0 : Nat} {oi : Nat} {dd : Nat} {ll : Nat} {nm : Nat} {can : Bool} (htr : l.stackTraces = false) (hV : IV κ X) (hw : WV κ cs) (hk : κ.2.2.1 1 ≤ κ.2.2.1 0) (hd : κ.2.2.1 2 + 999 < 2147483648) (hL : LAW N κ) (hi : i < 50000) (hci : ci < κ.2.2.1 0) (ha01 : 1 ≤ a0) (ha02 : a0 ≤ 9999) (ha0 : κ.1 0 ci = nI a0) (hnb : nameB (nI a0) = true) (hoi : oi < κ.2.2.1 0) (hdd : dd < 40) (hdy : isInB (nI (8 + dd)) (nI 1) (nI 999) = true) (hln : isInB (nI ll) (nI 0) (nI 5) = true) (hll : ll ≤ 5) (hnm1 : 1 ≤ nm ∧ nm ≤ 9999) (hnm : nameB (nI nm) = true) (hcan : can = (κ.2.1 0 ci && decide (κ.2.2.1 0 < 40))) (cx : CX p l s m args meth c yL_isMade.cls cL_isMade (some .boolean) 14 D g A) : J p l e ({ frames := 10, cells := 9, slots := 59, locals := 178 } : Room) s m args below meth c D A 14 (MQ below (va_Qi (fun (r : Int32) (u : LT) => r = nI 1 ∧ u.2.2.1 0 = ad 0 ∧ LI u ∧ u.2.1.2.2.1 2 ≤ κ.2.2.1 2 + 999) (fun u => PO D A (wL g an u)) A) args s 9 59 A) 0 0 (iA g an 700 N :: iW ad g κ X cs lf pr) [(0, .ref (ad 0 0)), (1, .ref an), (2, .ref (g 10)), (3, .int (nI i)), (4, .int (nI ci)), (5, .int (nI (10 + 14 * ci))), (6, .int (nI oi)), (7, .int (nI (8 + dd))), (8, .int (nI ll)), (9, .int (nI nm)), (10, .int (zb can))] 249 [] := by
  have hN := hL.1
  have hI := hV.2.2.2.1
  have hn := hV.1.1
  have hF := hV.2.2.2.2.1
  have h1n := hL.2.1
  refine J_aload_n cx dL_isMade_249 rfl 0 rfl ?_
  refine J_iload cx dL_isMade_250 4 rfl ?_
  refine J_iload cx dL_isMade_252 9 rfl ?_
  refine J_iload cx dL_isMade_254 7 rfl ?_
  refine J_callHi cx kL_155 (As := [.ref (ad 0 0), .int (nI ci), .int (nI nm), .int (nI (8 + dd))]) (frI (w := iW ad g κ X cs lf pr) (wr := [iA g an 700 N]) (W' := fun (u : UT) => wT g ((opIssue κ (nI ci) (nI nm) (nI (8 + dd))).2.2) u) (W2 := fun (u : UT) => iA g an 700 N :: wT g ((opIssue κ (nI ci) (nI nm) (nI (8 + dd))).2.2) u) (pm_1 _ _) (fun u => (pm_1 _ _).symm) (tL_issue l D g _ ad κ X cs lf pr (nI ci) (nI nm) (nI (8 + dd)) htr hV hw hk hd)) ⟨rfl, rfl, by decide, by decide⟩ ⟨by decide, by decide⟩ rfl rfl (Nat.le_of_ble_eq_true rfl) dL_isMade_256 ?_
  intro r256 u256 hu256; obtain ⟨hr256, hz256, hv256⟩ := hu256
  generalize hK256 : (opIssue κ (nI ci) (nI nm) (nI (8 + dd))).2.2 = K256 at *
  refine J_iload cx dL_isMade_259 10 rfl ?_
  refine J_ifz_eq cx (tgt := 278) dL_isMade_261 (by decide) (fun c_1 => ?_) (fun c_1 => ?_)
  · refine J_ldc cx (v := (-900003)) dL_isMade_278 cL_39 ?_
    refine J_icmp_ne cx (tgt := 287) dL_isMade_280 (by decide) (fun c_2 => ?_) (fun c_2 => ?_)
    · have c_2d := decide_eq_false c_2
      exact absurd (hr256.trans (by rw [op_issue_no hci hn hnm hdy (hcan.symm.trans c_1)]; rfl)) c_2
    · have c_2d := decide_eq_true c_2
      refine J_iconst cx (v := nI 1) dL_isMade_283 (by decide) ?_
      refine J_goto cx (tgt := 288) dL_isMade_284 (by decide) ?_
      have LAWf : LAW N K256 := (by rw [← hK256, op_issue_no hci hn hnm hdy (hcan.symm.trans c_1)]; exact hL)
      have DYf : K256.2.2.1 2 ≤ κ.2.2.1 2 + 999 := (by rw [← hK256]; exact dy_issue hV hw hk hd)
      exact J_end cx rfl hz256 hv256 LAWf DYf (Nat.le_of_ble_eq_true rfl) (Nat.le_of_ble_eq_true rfl) dL_isMade_288
  · have hlt := can_lt (hcan.symm.trans c_1)
    refine J_aload_n cx dL_isMade_264 rfl 1 rfl ?_
    refine J_iload cx dL_isMade_265 5 rfl ?_
    refine J_iload cx dL_isMade_267 9 rfl ?_
    refine J_iload cx dL_isMade_269 7 rfl ?_
    refine J_iconst cx (v := (-1)) dL_isMade_271 (by decide) ?_
    refine J_callSi cx kL_151 (As := [.ref an, .int (nI (10 + 14 * ci)), .int (nI nm), .int (nI (8 + dd)), .int (-1)]) (tL_child l D g A an N (iW u256.1 g K256 u256.2.1 u256.2.2.1 u256.2.2.2.1 u256.2.2.2.2) (κ.2.2.1 0) (κ.2.2.1 1) ci (nI nm) (nI (8 + dd)) (-1) hN.n0 hN.n1 hlt (by omega)) ⟨rfl, rfl, by decide, by decide⟩ ⟨by decide, by decide⟩ rfl rfl (Nat.le_of_ble_eq_true rfl) dL_isMade_272 ?_
    intro _ _ hr; cases hr
    refine J_goto cx (tgt := 280) dL_isMade_275 (by decide) ?_
    refine J_icmp_ne cx (tgt := 287) dL_isMade_280 (by decide) (fun c_3 => ?_) (fun c_3 => ?_)
    · have c_3d := decide_eq_false c_3
      exact absurd (hr256.trans (by rw [op_issue_ok hci hn hnm hdy (hcan.symm.trans c_1)]; exact adI_0 _)) c_3
    · have c_3d := decide_eq_true c_3
      refine J_iconst cx (v := nI 1) dL_isMade_283 (by decide) ?_
      refine J_goto cx (tgt := 288) dL_isMade_284 (by decide) ?_
      have LAWf : LAW (chN N (κ.2.2.1 0) (κ.2.2.1 1) ci (nI nm) (nI (8 + dd)) (-1)) K256 := (by rw [← hK256, op_issue_ok hci hn hnm hdy (hcan.symm.trans c_1)]; exact law_issue hL hF (can_lt (hcan.symm.trans c_1)) hci _ _ hnm)
      have DYf : K256.2.2.1 2 ≤ κ.2.2.1 2 + 999 := (by rw [← hK256]; exact dy_issue hV hw hk hd)
      exact J_end cx rfl hz256 hv256 LAWf DYf (Nat.le_of_ble_eq_true rfl) (Nat.le_of_ble_eq_true rfl) dL_isMade_288
set_option maxHeartbeats 4000000 in
set_option maxRecDepth 100000 in
theorem mk_c289 {p : Program} {l : Launch} {e : Env} {s : State} {m : MethodId} {args : Array Value} {below : List Frame} {meth : Method} {c : Code} {D : va_G} {g : Nat → ClassId} {A : Nat → Prop} {an : Nat} {N : Nat → Int32} {ad : Nat → Nat → Nat} {κ : CS} {X : XT} {cs : Nat → CT} {lf : Nat → Int64} {pr : PT} {i : Nat} {ci : Nat} {a0 : Nat} {oi : Nat} {dd : Nat} {ll : Nat} {nm : Nat} {can : Bool} (htr : l.stackTraces = false) (hV : IV κ X) (hw : WV κ cs) (hk : κ.2.2.1 1 ≤ κ.2.2.1 0) (hd : κ.2.2.1 2 + 999 < 2147483648) (hL : LAW N κ) (hi : i < 50000) (hci : ci < κ.2.2.1 0) (ha01 : 1 ≤ a0) (ha02 : a0 ≤ 9999) (ha0 : κ.1 0 ci = nI a0) (hnb : nameB (nI a0) = true) (hoi : oi < κ.2.2.1 0) (hdd : dd < 40) (hdy : isInB (nI (8 + dd)) (nI 1) (nI 999) = true) (hln : isInB (nI ll) (nI 0) (nI 5) = true) (hll : ll ≤ 5) (hnm1 : 1 ≤ nm ∧ nm ≤ 9999) (hnm : nameB (nI nm) = true) (hcan : can = (κ.2.1 0 ci && decide (κ.2.2.1 0 < 40))) (cx : CX p l s m args meth c yL_isMade.cls cL_isMade (some .boolean) 14 D g A) : J p l e ({ frames := 10, cells := 9, slots := 59, locals := 178 } : Room) s m args below meth c D A 14 (MQ below (va_Qi (fun (r : Int32) (u : LT) => r = nI 1 ∧ u.2.2.1 0 = ad 0 ∧ LI u ∧ u.2.1.2.2.1 2 ≤ κ.2.2.1 2 + 999) (fun u => PO D A (wL g an u)) A) args s 9 59 A) 0 0 (iA g an 700 N :: iW ad g κ X cs lf pr) [(0, .ref (ad 0 0)), (1, .ref an), (2, .ref (g 10)), (3, .int (nI i)), (4, .int (nI ci)), (5, .int (nI (10 + 14 * ci))), (6, .int (nI oi)), (7, .int (nI (8 + dd))), (8, .int (nI ll)), (9, .int (nI nm)), (10, .int (zb can))] 289 [] := by
  have hN := hL.1
  have hI := hV.2.2.2.1
  have hn := hV.1.1
  have hF := hV.2.2.2.2.1
  have h1n := hL.2.1
  refine J_bipush cx (v := nI 10) dL_isMade_289 (by decide) ?_
  refine J_bipush cx (v := nI 14) dL_isMade_291 (by decide) ?_
  refine J_iload cx dL_isMade_293 6 rfl ?_
  refine J_imul cx dL_isMade_295 ?_
  refine J_top (v' := .int (nI (14 * oi))) (congrArg Value.int (pk_mul 14 oi)) ?_
  refine J_iadd cx dL_isMade_296 ?_
  refine J_top (v' := .int (nI (10 + (14 * oi)))) (congrArg Value.int (nI_add 10 (14 * oi))) ?_
  refine J_istore cx (L' := [(11, .int (nI (10 + (14 * oi)))), (0, .ref (ad 0 0)), (1, .ref an), (2, .ref (g 10)), (3, .int (nI i)), (4, .int (nI ci)), (5, .int (nI (10 + 14 * ci))), (6, .int (nI oi)), (7, .int (nI (8 + dd))), (8, .int (nI ll)), (9, .int (nI nm)), (10, .int (zb can))]) dL_isMade_297 (by decide) rfl ?_
  have IS : ∀ (isb : Bool), (isb = crB κ ci oi) → J p l e ({ frames := 10, cells := 9, slots := 59, locals := 178 } : Room) s m args below meth c D A 14 (MQ below (va_Qi (fun (r : Int32) (u : LT) => r = nI 1 ∧ u.2.2.1 0 = ad 0 ∧ LI u ∧ u.2.1.2.2.1 2 ≤ κ.2.2.1 2 + 999) (fun u => PO D A (wL g an u)) A) args s 9 59 A) 0 0 (iA g an 700 N :: iW ad g κ X cs lf pr) [(0, .ref (ad 0 0)), (1, .ref an), (2, .ref (g 10)), (3, .int (nI i)), (4, .int (nI ci)), (5, .int (nI (10 + 14 * ci))), (6, .int (nI oi)), (7, .int (nI (8 + dd))), (8, .int (nI ll)), (9, .int (nI nm)), (10, .int (zb can)), (11, .int (nI (10 + 14 * oi))), (12, .int (zb isb))] 352 [] := by
    intro isb his
    refine J_aload_n cx dL_isMade_352 rfl 0 rfl ?_
    refine J_iload cx dL_isMade_353 4 rfl ?_
    refine J_iload cx dL_isMade_355 6 rfl ?_
    refine J_iload cx dL_isMade_357 7 rfl ?_
    refine J_iload cx dL_isMade_359 8 rfl ?_
    refine J_callHi cx kL_157 (As := [.ref (ad 0 0), .int (nI ci), .int (nI oi), .int (nI (8 + dd)), .int (nI ll)]) (frI (w := iW ad g κ X cs lf pr) (wr := [iA g an 700 N]) (W' := fun (u : UT) => wT g ((opCross κ (nI ci) (nI oi) (nI (8 + dd)) (nI ll)).2.2) u) (W2 := fun (u : UT) => iA g an 700 N :: wT g ((opCross κ (nI ci) (nI oi) (nI (8 + dd)) (nI ll)).2.2) u) (pm_1 _ _) (fun u => (pm_1 _ _).symm) (tL_cross l D g _ ad κ X cs lf pr (nI ci) (nI oi) (nI (8 + dd)) (nI ll) htr hV hw hk hd)) ⟨rfl, rfl, by decide, by decide⟩ ⟨by decide, by decide⟩ rfl rfl (Nat.le_of_ble_eq_true rfl) dL_isMade_361 ?_
    intro r361 u361 hu361; obtain ⟨hr361, hz361, hv361⟩ := hu361
    generalize hK361 : (opCross κ (nI ci) (nI oi) (nI (8 + dd)) (nI ll)).2.2 = K361 at *
    refine J_iload cx dL_isMade_364 12 rfl ?_
    refine J_ifz_eq cx (tgt := 400) dL_isMade_366 (by decide) (fun c_1 => ?_) (fun c_1 => ?_)
    · refine J_ldc cx (v := (-900003)) dL_isMade_400 cL_39 ?_
      refine J_icmp_ne cx (tgt := 409) dL_isMade_402 (by decide) (fun c_2 => ?_) (fun c_2 => ?_)
      · have c_2d := decide_eq_false c_2
        exact absurd (hr361.trans (by rw [op_cross_no hci hoi hn hdy hln (his.symm.trans c_1)]; rfl)) c_2
      · have c_2d := decide_eq_true c_2
        refine J_iconst cx (v := nI 1) dL_isMade_405 (by decide) ?_
        refine J_goto cx (tgt := 410) dL_isMade_406 (by decide) ?_
        have LAWf : LAW N K361 := (by rw [← hK361, op_cross_no hci hoi hn hdy hln (his.symm.trans c_1)]; exact hL)
        have DYf : K361.2.2.1 2 ≤ κ.2.2.1 2 + 999 := (by rw [← hK361]; exact dy_cross hV hw hk hd)
        exact J_end cx rfl hz361 hv361 LAWf DYf (Nat.le_of_ble_eq_true rfl) (Nat.le_of_ble_eq_true rfl) dL_isMade_410
    · have hlt := cr_lt (his.symm.trans c_1)
      refine J_aload_n cx dL_isMade_369 rfl 1 rfl ?_
      refine J_aload_n cx dL_isMade_370 rfl 1 rfl ?_
      refine J_iload cx dL_isMade_371 11 rfl ?_
      refine J_iald cx (j := (10 + 14 * oi)) (f := N) 0 rfl rfl (by omega) (by decide) dL_isMade_373 ?_
      refine J_top (v' := .int (κ.1 0 oi)) (congrArg Value.int (hN.c0 (by omega))) ?_
      refine J_aload_n cx dL_isMade_374 rfl 1 rfl ?_
      refine J_iload cx dL_isMade_375 11 rfl ?_
      refine J_iconst cx (v := nI 1) dL_isMade_377 (by decide) ?_
      refine J_iadd cx dL_isMade_378 ?_
      refine J_top (v' := .int (nI ((10 + 14 * oi) + 1))) (congrArg Value.int (nI_add (10 + 14 * oi) 1)) ?_
      refine J_iald cx (j := (10 + 14 * oi + 1)) (f := N) 0 rfl (congrArg nI (by omega)) (by omega) (by decide) dL_isMade_379 ?_
      refine J_top (v' := .int (κ.1 1 oi)) (congrArg Value.int (hN.c1 (by omega))) ?_
      refine J_aload_n cx dL_isMade_380 rfl 1 rfl ?_
      refine J_iload cx dL_isMade_381 5 rfl ?_
      refine J_iald cx (j := (10 + 14 * ci)) (f := N) 0 rfl rfl (by omega) (by decide) dL_isMade_383 ?_
      refine J_top (v' := .int (κ.1 0 ci)) (congrArg Value.int (hN.c0 (by omega))) ?_
      refine J_aload_n cx dL_isMade_384 rfl 1 rfl ?_
      refine J_iload cx dL_isMade_385 5 rfl ?_
      refine J_iconst cx (v := nI 1) dL_isMade_387 (by decide) ?_
      refine J_iadd cx dL_isMade_388 ?_
      refine J_top (v' := .int (nI ((10 + 14 * ci) + 1))) (congrArg Value.int (nI_add (10 + 14 * ci) 1)) ?_
      refine J_iald cx (j := (10 + 14 * ci + 1)) (f := N) 0 rfl (congrArg nI (by omega)) (by omega) (by decide) dL_isMade_389 ?_
      refine J_top (v' := .int (κ.1 1 ci)) (congrArg Value.int (hN.c1 (by omega))) ?_
      refine J_iload cx dL_isMade_390 7 rfl ?_
      refine J_iload cx dL_isMade_392 8 rfl ?_
      refine J_callSi cx kL_109 (As := [.ref an, .int (κ.1 0 oi), .int (κ.1 1 oi), .int (κ.1 0 ci), .int (κ.1 1 ci), .int (nI (8 + dd)), .int (nI ll)]) (tL_makes l D g A an N (iW u361.1 g K361 u361.2.1 u361.2.2.1 u361.2.2.2.1 u361.2.2.2.2) (κ.2.2.1 0) (κ.1 0 oi) (κ.1 1 oi) (κ.1 0 ci) (κ.1 1 ci) (nI (8 + dd)) (nI ll) hN.n0 hlt) ⟨rfl, rfl, by decide, by decide⟩ ⟨by decide, by decide⟩ rfl rfl (Nat.le_of_ble_eq_true rfl) dL_isMade_394 ?_
      intro _ _ hr; cases hr
      refine J_goto cx (tgt := 402) dL_isMade_397 (by decide) ?_
      refine J_icmp_ne cx (tgt := 409) dL_isMade_402 (by decide) (fun c_3 => ?_) (fun c_3 => ?_)
      · have c_3d := decide_eq_false c_3
        exact absurd (hr361.trans (by rw [op_cross_ok hci hoi hn hdy hln (his.symm.trans c_1)]; exact adI_0 _)) c_3
      · have c_3d := decide_eq_true c_3
        refine J_iconst cx (v := nI 1) dL_isMade_405 (by decide) ?_
        refine J_goto cx (tgt := 410) dL_isMade_406 (by decide) ?_
        have LAWf : LAW (mkN N (κ.2.2.1 0) (κ.1 0 oi) (κ.1 1 oi) (κ.1 0 ci) (κ.1 1 ci) (nI (8 + dd)) (nI ll)) K361 := (by rw [← hK361, op_cross_ok hci hoi hn hdy hln (his.symm.trans c_1)]; exact law_cross hL hF (cr_lt (his.symm.trans c_1)) _ _ _ _ _ (hL.2.2.2.2 oi hoi) hll)
        have DYf : K361.2.2.1 2 ≤ κ.2.2.1 2 + 999 := (by rw [← hK361]; exact dy_cross hV hw hk hd)
        exact J_end cx rfl hz361 hv361 LAWf DYf (Nat.le_of_ble_eq_true rfl) (Nat.le_of_ble_eq_true rfl) dL_isMade_410
  refine J_iload cx dL_isMade_299 11 rfl ?_
  refine J_ifz_eq cx (tgt := 349) dL_isMade_301 (by decide) (fun c_4 => ?_) (fun c_4 => ?_)
  · refine J_iconst cx (v := nI 0) dL_isMade_349 (by decide) ?_
    refine J_istore cx (L' := [(12, .int (nI 0)), (11, .int (nI (10 + (14 * oi)))), (0, .ref (ad 0 0)), (1, .ref an), (2, .ref (g 10)), (3, .int (nI i)), (4, .int (nI ci)), (5, .int (nI (10 + 14 * ci))), (6, .int (nI oi)), (7, .int (nI (8 + dd))), (8, .int (nI ll)), (9, .int (nI nm)), (10, .int (zb can))]) dL_isMade_350 (by decide) rfl ?_
    refine J_L [2, 3, 4, 5, 6, 7, 8, 9, 10, 11, 12, 1, 0] rfl ?_
    exact IS false (by rw [crB_can hcan]; simp [c_4])
  · refine J_aload_n cx dL_isMade_304 rfl 2 rfl ?_
    refine J_iload cx dL_isMade_305 0 rfl ?_
    refine J_bipush cx (v := nI 6) dL_isMade_307 (by decide) ?_
    refine J_iadd cx dL_isMade_309 ?_
    refine J_top (v' := .int (nI ((10 + (14 * oi)) + 6))) (congrArg Value.int (nI_add (10 + (14 * oi)) 6)) ?_
    refine J_iald cx (j := (10 + 14 * oi + 6)) (f := N) 0 rfl (congrArg nI (by omega)) (by omega) (by decide) dL_isMade_310 ?_
    refine J_top (v' := .int (zb (κ.2.1 0 oi))) (congrArg Value.int (hN.c6 (by omega))) ?_
    refine J_iconst cx (v := nI 1) dL_isMade_311 (by decide) ?_
    refine J_icmp_ne cx (tgt := 349) dL_isMade_312 (by decide) (fun c_5 => ?_) (fun c_5 => ?_)
    · have c_5 := (zb1n _).mp c_5
      refine J_iconst cx (v := nI 0) dL_isMade_349 (by decide) ?_
      refine J_istore cx (L' := [(12, .int (nI 0)), (11, .int (nI (10 + (14 * oi)))), (0, .ref (ad 0 0)), (1, .ref an), (2, .ref (g 10)), (3, .int (nI i)), (4, .int (nI ci)), (5, .int (nI (10 + 14 * ci))), (6, .int (nI oi)), (7, .int (nI (8 + dd))), (8, .int (nI ll)), (9, .int (nI nm)), (10, .int (zb can))]) dL_isMade_350 (by decide) rfl ?_
      refine J_L [2, 3, 4, 5, 6, 7, 8, 9, 10, 11, 12, 1, 0] rfl ?_
      exact IS false (by rw [crB_can hcan]; simp [c_4, c_5])
    · have c_5 := (zb1 _).mp c_5
      refine J_aload_n cx dL_isMade_315 rfl 2 rfl ?_
      refine J_iload cx dL_isMade_316 6 rfl ?_
      refine J_iconst cx (v := nI 1) dL_isMade_318 (by decide) ?_
      refine J_iadd cx dL_isMade_319 ?_
      refine J_top (v' := .int (nI ((10 + 14 * ci) + 1))) (congrArg Value.int (nI_add (10 + 14 * ci) 1)) ?_
      refine J_iald cx (j := (10 + 14 * ci + 1)) (f := N) 0 rfl (congrArg nI (by omega)) (by omega) (by decide) dL_isMade_320 ?_
      refine J_top (v' := .int (κ.1 1 ci)) (congrArg Value.int (hN.c1 (by omega))) ?_
      refine J_aload_n cx dL_isMade_321 rfl 2 rfl ?_
      refine J_iload cx dL_isMade_322 0 rfl ?_
      refine J_iconst cx (v := nI 1) dL_isMade_324 (by decide) ?_
      refine J_iadd cx dL_isMade_325 ?_
      refine J_top (v' := .int (nI ((10 + (14 * oi)) + 1))) (congrArg Value.int (nI_add (10 + (14 * oi)) 1)) ?_
      refine J_iald cx (j := (10 + 14 * oi + 1)) (f := N) 0 rfl (congrArg nI (by omega)) (by omega) (by decide) dL_isMade_326 ?_
      refine J_top (v' := .int (κ.1 1 oi)) (congrArg Value.int (hN.c1 (by omega))) ?_
      refine J_icmp_eq cx (tgt := 349) dL_isMade_327 (by decide) (fun c_6 => ?_) (fun c_6 => ?_)
      · have c_6d := decide_eq_true c_6
        refine J_iconst cx (v := nI 0) dL_isMade_349 (by decide) ?_
        refine J_istore cx (L' := [(12, .int (nI 0)), (11, .int (nI (10 + (14 * oi)))), (0, .ref (ad 0 0)), (1, .ref an), (2, .ref (g 10)), (3, .int (nI i)), (4, .int (nI ci)), (5, .int (nI (10 + 14 * ci))), (6, .int (nI oi)), (7, .int (nI (8 + dd))), (8, .int (nI ll)), (9, .int (nI nm)), (10, .int (zb can))]) dL_isMade_350 (by decide) rfl ?_
        refine J_L [2, 3, 4, 5, 6, 7, 8, 9, 10, 11, 12, 1, 0] rfl ?_
        exact IS false (by rw [crB_can hcan]; simp [c_4, c_5, c_6d])
      · have c_6d := decide_eq_false c_6
        refine J_aload_n cx dL_isMade_330 rfl 2 rfl ?_
        refine J_iconst cx (v := nI 1) dL_isMade_331 (by decide) ?_
        refine J_aload_n cx dL_isMade_332 rfl 2 rfl ?_
        refine J_iload cx dL_isMade_333 0 rfl ?_
        refine J_iconst cx (v := nI 1) dL_isMade_335 (by decide) ?_
        refine J_iadd cx dL_isMade_336 ?_
        refine J_top (v' := .int (nI ((10 + (14 * oi)) + 1))) (congrArg Value.int (nI_add (10 + (14 * oi)) 1)) ?_
        refine J_iald cx (j := (10 + 14 * oi + 1)) (f := N) 0 rfl (congrArg nI (by omega)) (by omega) (by decide) dL_isMade_337 ?_
        refine J_top (v' := .int (κ.1 1 oi)) (congrArg Value.int (hN.c1 (by omega))) ?_
        refine J_callSi cx kL_113 (As := [.ref an, .int (nI 1), .int (κ.1 1 oi)]) (tL_many l D g A an N κ (iW ad g κ X cs lf pr) 1 (κ.1 1 oi) hN (by decide) hn) ⟨rfl, rfl, by decide, by decide⟩ ⟨by decide, by decide⟩ rfl rfl (Nat.le_of_ble_eq_true rfl) dL_isMade_338 ?_
        intro _ _ hr; cases hr
        refine J_top (v' := .int (nI (cnt (wkB κ (κ.1 1 oi)) (κ.2.2.1 0)))) (congrArg (fun z => Value.int (nI z)) (wkB_cnt hN _)) ?_
        have hwc := cnt_le (wkB κ (κ.1 1 oi)) (κ.2.2.1 0)
        refine J_iconst cx (v := nI 3) dL_isMade_341 (by decide) ?_
        refine J_icmp_ge cx (tgt := 349) dL_isMade_342 (by decide) (fun c_7 => ?_) (fun c_7 => ?_)
        · have c_7 := (nat_ic_ge (by omega) (by omega)).mp c_7
          have c_7d := decide_eq_true c_7
          refine J_iconst cx (v := nI 0) dL_isMade_349 (by decide) ?_
          refine J_istore cx (L' := [(12, .int (nI 0)), (11, .int (nI (10 + (14 * oi)))), (0, .ref (ad 0 0)), (1, .ref an), (2, .ref (g 10)), (3, .int (nI i)), (4, .int (nI ci)), (5, .int (nI (10 + 14 * ci))), (6, .int (nI oi)), (7, .int (nI (8 + dd))), (8, .int (nI ll)), (9, .int (nI nm)), (10, .int (zb can))]) dL_isMade_350 (by decide) rfl ?_
          refine J_L [2, 3, 4, 5, 6, 7, 8, 9, 10, 11, 12, 1, 0] rfl ?_
          exact IS false (by rw [crB_can hcan]; simp [c_4, c_5, c_6, c_6d, c_7, c_7d])
        · have c_7 := (nat_ic_ge_f (by omega) (by omega)).mp c_7
          have c_7d := decide_eq_false (Nat.not_le.mpr c_7)
          refine J_iconst cx (v := nI 1) dL_isMade_345 (by decide) ?_
          refine J_goto cx (tgt := 350) dL_isMade_346 (by decide) ?_
          refine J_istore cx (L' := [(12, .int (nI 1)), (11, .int (nI (10 + (14 * oi)))), (0, .ref (ad 0 0)), (1, .ref an), (2, .ref (g 10)), (3, .int (nI i)), (4, .int (nI ci)), (5, .int (nI (10 + 14 * ci))), (6, .int (nI oi)), (7, .int (nI (8 + dd))), (8, .int (nI ll)), (9, .int (nI nm)), (10, .int (zb can))]) dL_isMade_350 (by decide) rfl ?_
          refine J_L [2, 3, 4, 5, 6, 7, 8, 9, 10, 11, 12, 1, 0] rfl ?_
          exact IS true (by rw [crB_can hcan]; simp [c_4, c_5, c_6, c_6d, c_7, c_7d])
set_option maxHeartbeats 4000000 in
set_option maxRecDepth 100000 in
theorem mk_c601 {p : Program} {l : Launch} {e : Env} {s : State} {m : MethodId} {args : Array Value} {below : List Frame} {meth : Method} {c : Code} {D : va_G} {g : Nat → ClassId} {A : Nat → Prop} {an : Nat} {N : Nat → Int32} {ad : Nat → Nat → Nat} {κ : CS} {X : XT} {cs : Nat → CT} {lf : Nat → Int64} {pr : PT} {i : Nat} {ci : Nat} {a0 : Nat} {oi : Nat} {dd : Nat} {ll : Nat} {nm : Nat} {can : Bool} (htr : l.stackTraces = false) (hV : IV κ X) (hw : WV κ cs) (hk : κ.2.2.1 1 ≤ κ.2.2.1 0) (hd : κ.2.2.1 2 + 999 < 2147483648) (hL : LAW N κ) (hi : i < 50000) (hci : ci < κ.2.2.1 0) (ha01 : 1 ≤ a0) (ha02 : a0 ≤ 9999) (ha0 : κ.1 0 ci = nI a0) (hnb : nameB (nI a0) = true) (hoi : oi < κ.2.2.1 0) (hdd : dd < 40) (hdy : isInB (nI (8 + dd)) (nI 1) (nI 999) = true) (hln : isInB (nI ll) (nI 0) (nI 5) = true) (hll : ll ≤ 5) (hnm1 : 1 ≤ nm ∧ nm ≤ 9999) (hnm : nameB (nI nm) = true) (hcan : can = (κ.2.1 0 ci && decide (κ.2.2.1 0 < 40))) (cx : CX p l s m args meth c yL_isMade.cls cL_isMade (some .boolean) 14 D g A) : J p l e ({ frames := 10, cells := 9, slots := 59, locals := 178 } : Room) s m args below meth c D A 14 (MQ below (va_Qi (fun (r : Int32) (u : LT) => r = nI 1 ∧ u.2.2.1 0 = ad 0 ∧ LI u ∧ u.2.1.2.2.1 2 ≤ κ.2.2.1 2 + 999) (fun u => PO D A (wL g an u)) A) args s 9 59 A) 0 0 (iA g an 700 N :: iW ad g κ X cs lf pr) [(0, .ref (ad 0 0)), (1, .ref an), (2, .ref (g 10)), (3, .int (nI i)), (4, .int (nI ci)), (5, .int (nI (10 + 14 * ci))), (6, .int (nI oi)), (7, .int (nI (8 + dd))), (8, .int (nI ll)), (9, .int (nI nm)), (10, .int (zb can))] 601 [] := by
  have hN := hL.1
  have hI := hV.2.2.2.1
  have hn := hV.1.1
  have hF := hV.2.2.2.2.1
  have h1n := hL.2.1
  refine J_aload_n cx dL_isMade_601 rfl 1 rfl ?_
  refine J_iload cx dL_isMade_602 5 rfl ?_
  refine J_bipush cx (v := nI 13) dL_isMade_604 (by decide) ?_
  refine J_iadd cx dL_isMade_606 ?_
  refine J_top (v' := .int (nI ((10 + 14 * ci) + 13))) (congrArg Value.int (nI_add (10 + 14 * ci) 13)) ?_
  refine J_iald cx (j := (10 + 14 * ci + 13)) (f := N) 0 rfl (congrArg nI (by omega)) (by omega) (by decide) dL_isMade_607 ?_
  refine J_top (v' := .int (zb (κ.2.1 1 ci))) (congrArg Value.int (hN.c13 (by omega))) ?_
  refine J_iconst cx (v := nI 1) dL_isMade_608 (by decide) ?_
  refine J_icmp_ne cx (tgt := 616) dL_isMade_609 (by decide) (fun c_1 => ?_) (fun c_1 => ?_)
  · have c_1 := (zb1n _).mp c_1
    refine J_iconst cx (v := nI 0) dL_isMade_616 (by decide) ?_
    refine J_istore cx (L' := [(11, .int (nI 0)), (0, .ref (ad 0 0)), (1, .ref an), (2, .ref (g 10)), (3, .int (nI i)), (4, .int (nI ci)), (5, .int (nI (10 + 14 * ci))), (6, .int (nI oi)), (7, .int (nI (8 + dd))), (8, .int (nI ll)), (9, .int (nI nm)), (10, .int (zb can))]) dL_isMade_617 (by decide) rfl ?_
    refine J_aload_n cx dL_isMade_619 rfl 2 rfl ?_
    refine J_iload cx dL_isMade_620 6 rfl ?_
    refine J_bipush cx (v := nI 12) dL_isMade_622 (by decide) ?_
    refine J_iadd cx dL_isMade_624 ?_
    refine J_top (v' := .int (nI ((10 + 14 * ci) + 12))) (congrArg Value.int (nI_add (10 + 14 * ci) 12)) ?_
    refine J_iload cx dL_isMade_625 0 rfl ?_
    refine J_if_eq cx (tgt := 646) dL_isMade_627 (by decide) (fun _ => ?_) (fun h => absurd h (by decide))
    refine J_iconst cx (v := nI 0) dL_isMade_646 (by decide) ?_
    refine J_iast cx (ws' := (iA g an 700 (upd N (10 + 14 * ci + 12) (nI 0)) :: iW ad g κ X cs lf pr)) (j := (10 + 14 * ci + 12)) 0 rfl (congrArg nI (by omega)) (by omega) (by decide) rfl dL_isMade_647 ?_
    have hnt : κ.2.1 2 ci = false := by cases q : κ.2.1 2 ci with | false => rfl | true => exact absurd (hL.2.2.2.1 ci hci q) (by rw [c_1]; decide)
    refine J_ws (ws' := (iA g an 700 N :: iW ad g κ X cs lf pr)) (by rw [show upd N (10 + 14 * ci + 12) (nI 0) = N from upd_id ((hN.c12 hci).trans (by rw [hnt]; rfl))]) ?_
    refine J_aload_n cx dL_isMade_648 rfl 1 rfl ?_
    refine J_iload cx dL_isMade_649 5 rfl ?_
    refine J_aload_n cx dL_isMade_651 rfl 3 rfl ?_
    refine J_iload_n cx dL_isMade_652 rfl 4 rfl ?_
    refine J_bipush cx (v := nI 10) dL_isMade_653 (by decide) ?_
    refine J_iadd cx dL_isMade_655 ?_
    refine J_top (v' := .int (nI (i + 10))) (congrArg Value.int (nI_add i 10)) ?_
    refine J_iconst cx (v := nI 4) dL_isMade_656 (by decide) ?_
    refine J_callSi cx kL_101 (As := [.ref (g 10), .int (nI (i + 10)), .int (nI 4)]) (tL_in l D g A (iA g an 700 N :: iW ad g κ X cs lf pr) (i + 10) 4 (by omega) (by omega) (by omega)) ⟨rfl, rfl, by decide, by decide⟩ ⟨by decide, by decide⟩ rfl rfl (Nat.le_of_ble_eq_true rfl) dL_isMade_657 ?_
    intro _ _ hr; cases hr
    have hin_3 := inN_lt (g := g) (i := (i + 10)) (n := 4) (by omega)
    generalize hg_t4 : inN g (i + 10) 4 = t4 at *
    have ht4 : t4 < 4 := by assumption
    refine J_if_le cx (tgt := 667) dL_isMade_660 (by decide) (fun c_4 => ?_) (fun c_4 => ?_)
    · have c_4 := (nat_if_le (by omega)).mp c_4
      refine J_iconst cx (v := nI 0) dL_isMade_667 (by decide) ?_
      refine J_callHi cx kL_165 (As := [.ref (ad 0 0), .int (nI ci), .int (nI 0)]) (frI (w := iW ad g κ X cs lf pr) (wr := [iA g an 700 N]) (W' := fun (u : UT) => wT g ((opTrust κ (nI ci) false).2.2) u) (W2 := fun (u : UT) => iA g an 700 N :: wT g ((opTrust κ (nI ci) false).2.2) u) (pm_1 _ _) (fun u => (pm_1 _ _).symm) (tL_trust l D g _ ad κ X cs lf pr (nI ci) false htr hV hw hk hd)) ⟨rfl, rfl, by decide, by decide⟩ ⟨by decide, by decide⟩ rfl rfl (Nat.le_of_ble_eq_true rfl) dL_isMade_668 ?_
      intro r668 u668 hu668; obtain ⟨hr668, hz668, hv668⟩ := hu668
      generalize hK668 : (opTrust κ (nI ci) false).2.2 = K668 at *
      refine J_iload cx dL_isMade_671 0 rfl ?_
      refine J_if_eq cx (tgt := 686) dL_isMade_673 (by decide) (fun _ => ?_) (fun h => absurd h (by decide))
      refine J_ldc cx (v := (-900002)) dL_isMade_686 cL_33 ?_
      refine J_icmp_ne cx (tgt := 695) dL_isMade_688 (by decide) (fun c_6 => ?_) (fun c_6 => ?_)
      · have c_6d := decide_eq_false c_6
        exact absurd (hr668.trans (by rw [op_trust_no hci hn c_1]; rfl)) c_6
      · have c_6d := decide_eq_true c_6
        refine J_iconst cx (v := nI 1) dL_isMade_691 (by decide) ?_
        refine J_goto cx (tgt := 696) dL_isMade_692 (by decide) ?_
        have LAWf : LAW N K668 := (by rw [← hK668, op_trust_no hci hn c_1]; exact hL)
        have DYf : K668.2.2.1 2 ≤ κ.2.2.1 2 + 999 := (by rw [← hK668]; exact dy_trust)
        exact J_end cx rfl hz668 hv668 LAWf DYf (Nat.le_of_ble_eq_true rfl) (Nat.le_of_ble_eq_true rfl) dL_isMade_696
    · have c_4 := (nat_if_le_f (by omega)).mp c_4
      refine J_iconst cx (v := nI 1) dL_isMade_663 (by decide) ?_
      refine J_goto cx (tgt := 668) dL_isMade_664 (by decide) ?_
      refine J_callHi cx kL_165 (As := [.ref (ad 0 0), .int (nI ci), .int (nI 1)]) (frI (w := iW ad g κ X cs lf pr) (wr := [iA g an 700 N]) (W' := fun (u : UT) => wT g ((opTrust κ (nI ci) true).2.2) u) (W2 := fun (u : UT) => iA g an 700 N :: wT g ((opTrust κ (nI ci) true).2.2) u) (pm_1 _ _) (fun u => (pm_1 _ _).symm) (tL_trust l D g _ ad κ X cs lf pr (nI ci) true htr hV hw hk hd)) ⟨rfl, rfl, by decide, by decide⟩ ⟨by decide, by decide⟩ rfl rfl (Nat.le_of_ble_eq_true rfl) dL_isMade_668 ?_
      intro r668 u668 hu668; obtain ⟨hr668, hz668, hv668⟩ := hu668
      generalize hK668 : (opTrust κ (nI ci) true).2.2 = K668 at *
      refine J_iload cx dL_isMade_671 0 rfl ?_
      refine J_if_eq cx (tgt := 686) dL_isMade_673 (by decide) (fun _ => ?_) (fun h => absurd h (by decide))
      refine J_ldc cx (v := (-900002)) dL_isMade_686 cL_33 ?_
      refine J_icmp_ne cx (tgt := 695) dL_isMade_688 (by decide) (fun c_8 => ?_) (fun c_8 => ?_)
      · have c_8d := decide_eq_false c_8
        exact absurd (hr668.trans (by rw [op_trust_no hci hn c_1]; rfl)) c_8
      · have c_8d := decide_eq_true c_8
        refine J_iconst cx (v := nI 1) dL_isMade_691 (by decide) ?_
        refine J_goto cx (tgt := 696) dL_isMade_692 (by decide) ?_
        have LAWf : LAW N K668 := (by rw [← hK668, op_trust_no hci hn c_1]; exact hL)
        have DYf : K668.2.2.1 2 ≤ κ.2.2.1 2 + 999 := (by rw [← hK668]; exact dy_trust)
        exact J_end cx rfl hz668 hv668 LAWf DYf (Nat.le_of_ble_eq_true rfl) (Nat.le_of_ble_eq_true rfl) dL_isMade_696
  · have c_1 := (zb1 _).mp c_1
    refine J_iconst cx (v := nI 1) dL_isMade_612 (by decide) ?_
    refine J_goto cx (tgt := 617) dL_isMade_613 (by decide) ?_
    refine J_istore cx (L' := [(11, .int (nI 1)), (0, .ref (ad 0 0)), (1, .ref an), (2, .ref (g 10)), (3, .int (nI i)), (4, .int (nI ci)), (5, .int (nI (10 + 14 * ci))), (6, .int (nI oi)), (7, .int (nI (8 + dd))), (8, .int (nI ll)), (9, .int (nI nm)), (10, .int (zb can))]) dL_isMade_617 (by decide) rfl ?_
    refine J_aload_n cx dL_isMade_619 rfl 2 rfl ?_
    refine J_iload cx dL_isMade_620 6 rfl ?_
    refine J_bipush cx (v := nI 12) dL_isMade_622 (by decide) ?_
    refine J_iadd cx dL_isMade_624 ?_
    refine J_top (v' := .int (nI ((10 + 14 * ci) + 12))) (congrArg Value.int (nI_add (10 + 14 * ci) 12)) ?_
    refine J_iload cx dL_isMade_625 0 rfl ?_
    refine J_if_eq cx (tgt := 646) dL_isMade_627 (by decide) (fun h => absurd h (by decide)) (fun _ => ?_)
    refine J_aload_n cx dL_isMade_630 rfl 3 rfl ?_
    refine J_iload_n cx dL_isMade_631 rfl 4 rfl ?_
    refine J_bipush cx (v := nI 10) dL_isMade_632 (by decide) ?_
    refine J_iadd cx dL_isMade_634 ?_
    refine J_top (v' := .int (nI (i + 10))) (congrArg Value.int (nI_add i 10)) ?_
    refine J_iconst cx (v := nI 4) dL_isMade_635 (by decide) ?_
    refine J_callSi cx kL_101 (As := [.ref (g 10), .int (nI (i + 10)), .int (nI 4)]) (tL_in l D g A (iA g an 700 N :: iW ad g κ X cs lf pr) (i + 10) 4 (by omega) (by omega) (by omega)) ⟨rfl, rfl, by decide, by decide⟩ ⟨by decide, by decide⟩ rfl rfl (Nat.le_of_ble_eq_true rfl) dL_isMade_636 ?_
    intro _ _ hr; cases hr
    have hin_10 := inN_lt (g := g) (i := (i + 10)) (n := 4) (by omega)
    generalize hg_t4 : inN g (i + 10) 4 = t4 at *
    have ht4 : t4 < 4 := by assumption
    refine J_if_le cx (tgt := 646) dL_isMade_639 (by decide) (fun c_11 => ?_) (fun c_11 => ?_)
    · have c_11 := (nat_if_le (by omega)).mp c_11
      refine J_iconst cx (v := nI 0) dL_isMade_646 (by decide) ?_
      refine J_iast cx (ws' := (iA g an 700 (upd N (10 + 14 * ci + 12) (nI 0)) :: iW ad g κ X cs lf pr)) (j := (10 + 14 * ci + 12)) 0 rfl (congrArg nI (by omega)) (by omega) (by decide) rfl dL_isMade_647 ?_
      have hLt := law_trust hL hci hn c_1 false
      refine J_aload_n cx dL_isMade_648 rfl 1 rfl ?_
      refine J_iload cx dL_isMade_649 5 rfl ?_
      refine J_aload_n cx dL_isMade_651 rfl 3 rfl ?_
      refine J_iload_n cx dL_isMade_652 rfl 4 rfl ?_
      refine J_bipush cx (v := nI 10) dL_isMade_653 (by decide) ?_
      refine J_iadd cx dL_isMade_655 ?_
      refine J_top (v' := .int (nI (i + 10))) (congrArg Value.int (nI_add i 10)) ?_
      refine J_iconst cx (v := nI 4) dL_isMade_656 (by decide) ?_
      refine J_callSi cx kL_101 (As := [.ref (g 10), .int (nI (i + 10)), .int (nI 4)]) (tL_in l D g A (iA g an 700 (upd N (10 + 14 * ci + 12) (nI 0)) :: iW ad g κ X cs lf pr) (i + 10) 4 (by omega) (by omega) (by omega)) ⟨rfl, rfl, by decide, by decide⟩ ⟨by decide, by decide⟩ rfl rfl (Nat.le_of_ble_eq_true rfl) dL_isMade_657 ?_
      intro _ _ hr; cases hr
      have hin_12 := inN_lt (g := g) (i := (i + 10)) (n := 4) (by omega)
      rw [hg_t4]
      refine J_if_le cx (tgt := 667) dL_isMade_660 (by decide) (fun c_13 => ?_) (fun c_13 => ?_)
      · have c_13 := (nat_if_le (by omega)).mp c_13
        refine J_iconst cx (v := nI 0) dL_isMade_667 (by decide) ?_
        refine J_callHi cx kL_165 (As := [.ref (ad 0 0), .int (nI ci), .int (nI 0)]) (frI (w := iW ad g κ X cs lf pr) (wr := [iA g an 700 (upd N (10 + 14 * ci + 12) (nI 0))]) (W' := fun (u : UT) => wT g ((opTrust κ (nI ci) false).2.2) u) (W2 := fun (u : UT) => iA g an 700 (upd N (10 + 14 * ci + 12) (nI 0)) :: wT g ((opTrust κ (nI ci) false).2.2) u) (pm_1 _ _) (fun u => (pm_1 _ _).symm) (tL_trust l D g _ ad κ X cs lf pr (nI ci) false htr hV hw hk hd)) ⟨rfl, rfl, by decide, by decide⟩ ⟨by decide, by decide⟩ rfl rfl (Nat.le_of_ble_eq_true rfl) dL_isMade_668 ?_
        intro r668 u668 hu668; obtain ⟨hr668, hz668, hv668⟩ := hu668
        generalize hK668 : (opTrust κ (nI ci) false).2.2 = K668 at *
        refine J_iload cx dL_isMade_671 0 rfl ?_
        refine J_if_eq cx (tgt := 686) dL_isMade_673 (by decide) (fun h => absurd h (by decide)) (fun _ => ?_)
        refine J_aload_n cx dL_isMade_676 rfl 2 rfl ?_
        refine J_bipush cx (v := nI 12) dL_isMade_677 (by decide) ?_
        refine J_iconst cx (v := nI 1) dL_isMade_679 (by decide) ?_
        refine J_callSi cx kL_113 (As := [.ref an, .int (nI 12), .int (nI 1)]) (tL_many l D g A an (upd N (10 + 14 * ci + 12) (nI 0)) (setB κ 2 ci false) (iW u668.1 g K668 u668.2.1 u668.2.2.1 u668.2.2.2.1 u668.2.2.2.2) 12 (nI 1) hLt.1 (by decide) hn) ⟨rfl, rfl, by decide, by decide⟩ ⟨by decide, by decide⟩ rfl rfl (Nat.le_of_ble_eq_true rfl) dL_isMade_680 ?_
        intro _ _ hr; cases hr
        refine J_top (v' := .int (nI (cnt (upB κ.2.1 2 ci false 2) (κ.2.2.1 0)))) (congrArg (fun z => Value.int (nI z)) (tr_cnt hLt.1)) ?_
        refine J_goto cx (tgt := 688) dL_isMade_683 (by decide) ?_
        refine J_icmp_ne cx (tgt := 695) dL_isMade_688 (by decide) (fun c_15 => ?_) (fun c_15 => ?_)
        · have c_15d := decide_eq_false c_15
          exact absurd (hr668.trans (by rw [op_trust_ok hci hn c_1]; exact adI_0 _)) c_15
        · have c_15d := decide_eq_true c_15
          refine J_iconst cx (v := nI 1) dL_isMade_691 (by decide) ?_
          refine J_goto cx (tgt := 696) dL_isMade_692 (by decide) ?_
          generalize hNN : upd N (10 + 14 * ci + 12) (nI 0) = NN
          have LAWf : LAW NN K668 := (by rw [← hNN, ← hK668, op_trust_ok hci hn c_1]; exact hLt)
          have DYf : K668.2.2.1 2 ≤ κ.2.2.1 2 + 999 := (by rw [← hK668]; exact dy_trust)
          exact J_end cx rfl hz668 hv668 LAWf DYf (Nat.le_of_ble_eq_true rfl) (Nat.le_of_ble_eq_true rfl) dL_isMade_696
      · have c_13 := (nat_if_le_f (by omega)).mp c_13
        exfalso; omega
    · have c_11 := (nat_if_le_f (by omega)).mp c_11
      refine J_iconst cx (v := nI 1) dL_isMade_642 (by decide) ?_
      refine J_goto cx (tgt := 647) dL_isMade_643 (by decide) ?_
      refine J_iast cx (ws' := (iA g an 700 (upd N (10 + 14 * ci + 12) (nI 1)) :: iW ad g κ X cs lf pr)) (j := (10 + 14 * ci + 12)) 0 rfl (congrArg nI (by omega)) (by omega) (by decide) rfl dL_isMade_647 ?_
      have hLt := law_trust hL hci hn c_1 true
      refine J_aload_n cx dL_isMade_648 rfl 1 rfl ?_
      refine J_iload cx dL_isMade_649 5 rfl ?_
      refine J_aload_n cx dL_isMade_651 rfl 3 rfl ?_
      refine J_iload_n cx dL_isMade_652 rfl 4 rfl ?_
      refine J_bipush cx (v := nI 10) dL_isMade_653 (by decide) ?_
      refine J_iadd cx dL_isMade_655 ?_
      refine J_top (v' := .int (nI (i + 10))) (congrArg Value.int (nI_add i 10)) ?_
      refine J_iconst cx (v := nI 4) dL_isMade_656 (by decide) ?_
      refine J_callSi cx kL_101 (As := [.ref (g 10), .int (nI (i + 10)), .int (nI 4)]) (tL_in l D g A (iA g an 700 (upd N (10 + 14 * ci + 12) (nI 1)) :: iW ad g κ X cs lf pr) (i + 10) 4 (by omega) (by omega) (by omega)) ⟨rfl, rfl, by decide, by decide⟩ ⟨by decide, by decide⟩ rfl rfl (Nat.le_of_ble_eq_true rfl) dL_isMade_657 ?_
      intro _ _ hr; cases hr
      have hin_16 := inN_lt (g := g) (i := (i + 10)) (n := 4) (by omega)
      rw [hg_t4]
      refine J_if_le cx (tgt := 667) dL_isMade_660 (by decide) (fun c_17 => ?_) (fun c_17 => ?_)
      · have c_17 := (nat_if_le (by omega)).mp c_17
        exfalso; omega
      · have c_17 := (nat_if_le_f (by omega)).mp c_17
        refine J_iconst cx (v := nI 1) dL_isMade_663 (by decide) ?_
        refine J_goto cx (tgt := 668) dL_isMade_664 (by decide) ?_
        refine J_callHi cx kL_165 (As := [.ref (ad 0 0), .int (nI ci), .int (nI 1)]) (frI (w := iW ad g κ X cs lf pr) (wr := [iA g an 700 (upd N (10 + 14 * ci + 12) (nI 1))]) (W' := fun (u : UT) => wT g ((opTrust κ (nI ci) true).2.2) u) (W2 := fun (u : UT) => iA g an 700 (upd N (10 + 14 * ci + 12) (nI 1)) :: wT g ((opTrust κ (nI ci) true).2.2) u) (pm_1 _ _) (fun u => (pm_1 _ _).symm) (tL_trust l D g _ ad κ X cs lf pr (nI ci) true htr hV hw hk hd)) ⟨rfl, rfl, by decide, by decide⟩ ⟨by decide, by decide⟩ rfl rfl (Nat.le_of_ble_eq_true rfl) dL_isMade_668 ?_
        intro r668 u668 hu668; obtain ⟨hr668, hz668, hv668⟩ := hu668
        generalize hK668 : (opTrust κ (nI ci) true).2.2 = K668 at *
        refine J_iload cx dL_isMade_671 0 rfl ?_
        refine J_if_eq cx (tgt := 686) dL_isMade_673 (by decide) (fun h => absurd h (by decide)) (fun _ => ?_)
        refine J_aload_n cx dL_isMade_676 rfl 2 rfl ?_
        refine J_bipush cx (v := nI 12) dL_isMade_677 (by decide) ?_
        refine J_iconst cx (v := nI 1) dL_isMade_679 (by decide) ?_
        refine J_callSi cx kL_113 (As := [.ref an, .int (nI 12), .int (nI 1)]) (tL_many l D g A an (upd N (10 + 14 * ci + 12) (nI 1)) (setB κ 2 ci true) (iW u668.1 g K668 u668.2.1 u668.2.2.1 u668.2.2.2.1 u668.2.2.2.2) 12 (nI 1) hLt.1 (by decide) hn) ⟨rfl, rfl, by decide, by decide⟩ ⟨by decide, by decide⟩ rfl rfl (Nat.le_of_ble_eq_true rfl) dL_isMade_680 ?_
        intro _ _ hr; cases hr
        refine J_top (v' := .int (nI (cnt (upB κ.2.1 2 ci true 2) (κ.2.2.1 0)))) (congrArg (fun z => Value.int (nI z)) (tr_cnt hLt.1)) ?_
        refine J_goto cx (tgt := 688) dL_isMade_683 (by decide) ?_
        refine J_icmp_ne cx (tgt := 695) dL_isMade_688 (by decide) (fun c_19 => ?_) (fun c_19 => ?_)
        · have c_19d := decide_eq_false c_19
          exact absurd (hr668.trans (by rw [op_trust_ok hci hn c_1]; exact adI_0 _)) c_19
        · have c_19d := decide_eq_true c_19
          refine J_iconst cx (v := nI 1) dL_isMade_691 (by decide) ?_
          refine J_goto cx (tgt := 696) dL_isMade_692 (by decide) ?_
          generalize hNN : upd N (10 + 14 * ci + 12) (nI 1) = NN
          have LAWf : LAW NN K668 := (by rw [← hNN, ← hK668, op_trust_ok hci hn c_1]; exact hLt)
          have DYf : K668.2.2.1 2 ≤ κ.2.2.1 2 + 999 := (by rw [← hK668]; exact dy_trust)
          exact J_end cx rfl hz668 hv668 LAWf DYf (Nat.le_of_ble_eq_true rfl) (Nat.le_of_ble_eq_true rfl) dL_isMade_696
set_option maxHeartbeats 4000000 in
set_option maxRecDepth 100000 in
theorem mk_c503 {p : Program} {l : Launch} {e : Env} {s : State} {m : MethodId} {args : Array Value} {below : List Frame} {meth : Method} {c : Code} {D : va_G} {g : Nat → ClassId} {A : Nat → Prop} {an : Nat} {N : Nat → Int32} {ad : Nat → Nat → Nat} {κ : CS} {X : XT} {cs : Nat → CT} {lf : Nat → Int64} {pr : PT} {i : Nat} {ci : Nat} {a0 : Nat} {oi : Nat} {dd : Nat} {ll : Nat} {nm : Nat} {can : Bool} {xp : Nat} {xe : Nat} {isb : Bool} (htr : l.stackTraces = false) (hV : IV κ X) (hw : WV κ cs) (hk : κ.2.2.1 1 ≤ κ.2.2.1 0) (hd : κ.2.2.1 2 + 999 < 2147483648) (hL : LAW N κ) (hi : i < 50000) (hci : ci < κ.2.2.1 0) (ha01 : 1 ≤ a0) (ha02 : a0 ≤ 9999) (ha0 : κ.1 0 ci = nI a0) (hnb : nameB (nI a0) = true) (hoi : oi < κ.2.2.1 0) (hdd : dd < 40) (hdy : isInB (nI (8 + dd)) (nI 1) (nI 999) = true) (hln : isInB (nI ll) (nI 0) (nI 5) = true) (hll : ll ≤ 5) (hnm1 : 1 ≤ nm ∧ nm ≤ 9999) (hnm : nameB (nI nm) = true) (hcan : can = (κ.2.1 0 ci && decide (κ.2.2.1 0 < 40))) (hxp : xp ≤ 9999) (hxp0 : nm0 (nI xp) = true) (hxe : xe ≤ 9999) (hxe0 : nm0 (nI xe) = true) (his : isb = (κ.2.1 0 ci && !anyN (issB κ (κ.1 1 ci)) (κ.2.2.1 0))) (cx : CX p l s m args meth c yL_isMade.cls cL_isMade (some .boolean) 14 D g A) : J p l e ({ frames := 10, cells := 9, slots := 59, locals := 178 } : Room) s m args below meth c D A 14 (MQ below (va_Qi (fun (r : Int32) (u : LT) => r = nI 1 ∧ u.2.2.1 0 = ad 0 ∧ LI u ∧ u.2.1.2.2.1 2 ≤ κ.2.2.1 2 + 999) (fun u => PO D A (wL g an u)) A) args s 9 59 A) 0 0 (iA g an 700 N :: iW ad g κ X cs lf pr) [(0, .ref (ad 0 0)), (1, .ref an), (2, .ref (g 10)), (3, .int (nI i)), (4, .int (nI ci)), (5, .int (nI (10 + 14 * ci))), (6, .int (nI oi)), (7, .int (nI (8 + dd))), (8, .int (nI ll)), (9, .int (nI nm)), (10, .int (zb can)), (11, .int (nI xp)), (12, .int (nI xe)), (13, .int (zb isb))] 503 [] := by
  have hN := hL.1
  have hI := hV.2.2.2.1
  have hn := hV.1.1
  have hF := hV.2.2.2.2.1
  have h1n := hL.2.1
  refine J_aload_n cx dL_isMade_503 rfl 1 rfl ?_
  refine J_iload cx dL_isMade_504 5 rfl ?_
  refine J_bipush cx (v := nI 8) dL_isMade_506 (by decide) ?_
  refine J_iadd cx dL_isMade_508 ?_
  refine J_top (v' := .int (nI ((10 + 14 * ci) + 8))) (congrArg Value.int (nI_add (10 + 14 * ci) 8)) ?_
  refine J_iload cx dL_isMade_509 13 rfl ?_
  refine J_ifz_eq cx (tgt := 519) dL_isMade_511 (by decide) (fun c_1 => ?_) (fun c_1 => ?_)
  · refine J_aload_n cx dL_isMade_519 rfl 1 rfl ?_
    refine J_iload cx dL_isMade_520 5 rfl ?_
    refine J_bipush cx (v := nI 8) dL_isMade_522 (by decide) ?_
    refine J_iadd cx dL_isMade_524 ?_
    refine J_top (v' := .int (nI ((10 + 14 * ci) + 8))) (congrArg Value.int (nI_add (10 + 14 * ci) 8)) ?_
    refine J_iald cx (j := (10 + 14 * ci + 8)) (f := N) 0 rfl (congrArg nI (by omega)) (by omega) (by decide) dL_isMade_525 ?_
    refine J_top (v' := .int (κ.1 7 ci)) (congrArg Value.int (hN.c8 (by omega))) ?_
    refine J_iast cx (ws' := (iA g an 700 (upd N (10 + 14 * ci + 8) (κ.1 7 ci)) :: iW ad g κ X cs lf pr)) (j := (10 + 14 * ci + 8)) 0 rfl (congrArg nI (by omega)) (by omega) (by decide) rfl dL_isMade_526 ?_
    refine J_aload_n cx dL_isMade_527 rfl 1 rfl ?_
    refine J_iload cx dL_isMade_528 5 rfl ?_
    refine J_bipush cx (v := nI 9) dL_isMade_530 (by decide) ?_
    refine J_iadd cx dL_isMade_532 ?_
    refine J_top (v' := .int (nI ((10 + 14 * ci) + 9))) (congrArg Value.int (nI_add (10 + 14 * ci) 9)) ?_
    refine J_iload cx dL_isMade_533 13 rfl ?_
    refine J_ifz_eq cx (tgt := 543) dL_isMade_535 (by decide) (fun _ => ?_) (fun h => absurd (c_1.symm.trans h) (by decide))
    refine J_aload_n cx dL_isMade_543 rfl 1 rfl ?_
    refine J_iload cx dL_isMade_544 5 rfl ?_
    refine J_bipush cx (v := nI 9) dL_isMade_546 (by decide) ?_
    refine J_iadd cx dL_isMade_548 ?_
    refine J_top (v' := .int (nI ((10 + 14 * ci) + 9))) (congrArg Value.int (nI_add (10 + 14 * ci) 9)) ?_
    refine J_iald cx (j := (10 + 14 * ci + 9)) (f := upd N (10 + 14 * ci + 8) (κ.1 7 ci)) 0 rfl (congrArg nI (by omega)) (by omega) (by decide) dL_isMade_549 ?_
    refine J_top (v' := .int (κ.1 8 ci)) (congrArg Value.int ((pk_un (by omega)).trans (hN.c9 (by omega)))) ?_
    refine J_iast cx (ws' := (iA g an 700 (upd (upd N (10 + 14 * ci + 8) (κ.1 7 ci)) (10 + 14 * ci + 9) (κ.1 8 ci)) :: iW ad g κ X cs lf pr)) (j := (10 + 14 * ci + 9)) 0 rfl (congrArg nI (by omega)) (by omega) (by decide) rfl dL_isMade_550 ?_
    refine J_ws (ws' := (iA g an 700 N :: iW ad g κ X cs lf pr)) (by rw [show upd (upd N (10 + 14 * ci + 8) (κ.1 7 ci)) (10 + 14 * ci + 9) (κ.1 8 ci) = N from (by rw [upd_id (N := upd N (10 + 14 * ci + 8) (κ.1 7 ci)) ((pk_un (by omega)).trans (hN.c9 hci)), upd_id (hN.c8 hci)])]) ?_
    refine J_aload_n cx dL_isMade_551 rfl 0 rfl ?_
    refine J_iload cx dL_isMade_552 4 rfl ?_
    refine J_iload cx dL_isMade_554 11 rfl ?_
    refine J_iload cx dL_isMade_556 12 rfl ?_
    refine J_callHi cx kL_163 (As := [.ref (ad 0 0), .int (nI ci), .int (nI xp), .int (nI xe)]) (frI (w := iW ad g κ X cs lf pr) (wr := [iA g an 700 N]) (W' := fun (u : UT) => wT g ((opSetNames κ (nI ci) (nI xp) (nI xe)).2.2) u) (W2 := fun (u : UT) => iA g an 700 N :: wT g ((opSetNames κ (nI ci) (nI xp) (nI xe)).2.2) u) (pm_1 _ _) (fun u => (pm_1 _ _).symm) (tL_setNames l D g _ ad κ X cs lf pr (nI ci) (nI xp) (nI xe) htr hV hw hk hd)) ⟨rfl, rfl, by decide, by decide⟩ ⟨by decide, by decide⟩ rfl rfl (Nat.le_of_ble_eq_true rfl) dL_isMade_558 ?_
    intro r558 u558 hu558; obtain ⟨hr558, hz558, hv558⟩ := hu558
    generalize hK558 : (opSetNames κ (nI ci) (nI xp) (nI xe)).2.2 = K558 at *
    refine J_iload cx dL_isMade_561 13 rfl ?_
    refine J_ifz_eq cx (tgt := 590) dL_isMade_563 (by decide) (fun _ => ?_) (fun h => absurd (c_1.symm.trans h) (by decide))
    refine J_ldc cx (v := (-900003)) dL_isMade_590 cL_39 ?_
    refine J_icmp_ne cx (tgt := 599) dL_isMade_592 (by decide) (fun c_4 => ?_) (fun c_4 => ?_)
    · have c_4d := decide_eq_false c_4
      exact absurd (hr558.trans (by rw [op_set_no hci hn hxp0 hxe0 (his.symm.trans c_1)]; rfl)) c_4
    · have c_4d := decide_eq_true c_4
      refine J_iconst cx (v := nI 1) dL_isMade_595 (by decide) ?_
      refine J_goto cx (tgt := 600) dL_isMade_596 (by decide) ?_
      have LAWf : LAW N K558 := (by rw [← hK558, op_set_no hci hn hxp0 hxe0 (his.symm.trans c_1)]; exact hL)
      have DYf : K558.2.2.1 2 ≤ κ.2.2.1 2 + 999 := (by rw [← hK558]; exact dy_setNames)
      exact J_end cx rfl hz558 hv558 LAWf DYf (Nat.le_of_ble_eq_true rfl) (Nat.le_of_ble_eq_true rfl) dL_isMade_600
  · refine J_iload cx dL_isMade_514 11 rfl ?_
    refine J_goto cx (tgt := 526) dL_isMade_516 (by decide) ?_
    refine J_iast cx (ws' := (iA g an 700 (upd N (10 + 14 * ci + 8) (nI xp)) :: iW ad g κ X cs lf pr)) (j := (10 + 14 * ci + 8)) 0 rfl (congrArg nI (by omega)) (by omega) (by decide) rfl dL_isMade_526 ?_
    refine J_aload_n cx dL_isMade_527 rfl 1 rfl ?_
    refine J_iload cx dL_isMade_528 5 rfl ?_
    refine J_bipush cx (v := nI 9) dL_isMade_530 (by decide) ?_
    refine J_iadd cx dL_isMade_532 ?_
    refine J_top (v' := .int (nI ((10 + 14 * ci) + 9))) (congrArg Value.int (nI_add (10 + 14 * ci) 9)) ?_
    refine J_iload cx dL_isMade_533 13 rfl ?_
    refine J_ifz_eq cx (tgt := 543) dL_isMade_535 (by decide) (fun h => absurd (c_1.symm.trans h) (by decide)) (fun _ => ?_)
    refine J_iload cx dL_isMade_538 12 rfl ?_
    refine J_goto cx (tgt := 550) dL_isMade_540 (by decide) ?_
    refine J_iast cx (ws' := (iA g an 700 (upd (upd N (10 + 14 * ci + 8) (nI xp)) (10 + 14 * ci + 9) (nI xe)) :: iW ad g κ X cs lf pr)) (j := (10 + 14 * ci + 9)) 0 rfl (congrArg nI (by omega)) (by omega) (by decide) rfl dL_isMade_550 ?_
    refine J_aload_n cx dL_isMade_551 rfl 0 rfl ?_
    refine J_iload cx dL_isMade_552 4 rfl ?_
    refine J_iload cx dL_isMade_554 11 rfl ?_
    refine J_iload cx dL_isMade_556 12 rfl ?_
    refine J_callHi cx kL_163 (As := [.ref (ad 0 0), .int (nI ci), .int (nI xp), .int (nI xe)]) (frI (w := iW ad g κ X cs lf pr) (wr := [iA g an 700 (upd (upd N (10 + 14 * ci + 8) (nI xp)) (10 + 14 * ci + 9) (nI xe))]) (W' := fun (u : UT) => wT g ((opSetNames κ (nI ci) (nI xp) (nI xe)).2.2) u) (W2 := fun (u : UT) => iA g an 700 (upd (upd N (10 + 14 * ci + 8) (nI xp)) (10 + 14 * ci + 9) (nI xe)) :: wT g ((opSetNames κ (nI ci) (nI xp) (nI xe)).2.2) u) (pm_1 _ _) (fun u => (pm_1 _ _).symm) (tL_setNames l D g _ ad κ X cs lf pr (nI ci) (nI xp) (nI xe) htr hV hw hk hd)) ⟨rfl, rfl, by decide, by decide⟩ ⟨by decide, by decide⟩ rfl rfl (Nat.le_of_ble_eq_true rfl) dL_isMade_558 ?_
    intro r558 u558 hu558; obtain ⟨hr558, hz558, hv558⟩ := hu558
    generalize hK558 : (opSetNames κ (nI ci) (nI xp) (nI xe)).2.2 = K558 at *
    refine J_iload cx dL_isMade_561 13 rfl ?_
    refine J_ifz_eq cx (tgt := 590) dL_isMade_563 (by decide) (fun h => absurd (c_1.symm.trans h) (by decide)) (fun _ => ?_)
    refine J_iload cx dL_isMade_566 11 rfl ?_
    refine J_if_le cx (tgt := 575) dL_isMade_568 (by decide) (fun c_7 => ?_) (fun c_7 => ?_)
    · have c_7 := (nat_if_le (by omega)).mp c_7
      refine J_iconst cx (v := nI 0) dL_isMade_575 (by decide) ?_
      refine J_iload cx dL_isMade_576 12 rfl ?_
      refine J_if_le cx (tgt := 585) dL_isMade_578 (by decide) (fun c_8 => ?_) (fun c_8 => ?_)
      · have c_8 := (nat_if_le (by omega)).mp c_8
        refine J_iconst cx (v := nI 0) dL_isMade_585 (by decide) ?_
        refine J_iadd cx dL_isMade_586 ?_
        refine J_top (v' := .int (nI (0 + 0))) (congrArg Value.int (nI_add 0 0)) ?_
        refine J_goto cx (tgt := 592) dL_isMade_587 (by decide) ?_
        refine J_icmp_ne cx (tgt := 599) dL_isMade_592 (by decide) (fun c_9 => ?_) (fun c_9 => ?_)
        · have c_9d := decide_eq_false c_9
          exact absurd (hr558.trans (by rw [op_set_ok hxp hxe hci hn hxp0 hxe0 (his.symm.trans c_1)]; exact congrArg nI (by simp [c_1, c_7, c_8, c_9, c_9d]))) c_9
        · have c_9d := decide_eq_true c_9
          refine J_iconst cx (v := nI 1) dL_isMade_595 (by decide) ?_
          refine J_goto cx (tgt := 600) dL_isMade_596 (by decide) ?_
          generalize hNN : upd (upd N (10 + 14 * ci + 8) (nI xp)) (10 + 14 * ci + 9) (nI xe) = NN
          have LAWf : LAW NN K558 := (by rw [← hNN, ← hK558, op_set_ok hxp hxe hci hn hxp0 hxe0 (his.symm.trans c_1)]; exact law_set hL hci hn _ _)
          have DYf : K558.2.2.1 2 ≤ κ.2.2.1 2 + 999 := (by rw [← hK558]; exact dy_setNames)
          exact J_end cx rfl hz558 hv558 LAWf DYf (Nat.le_of_ble_eq_true rfl) (Nat.le_of_ble_eq_true rfl) dL_isMade_600
      · have c_8 := (nat_if_le_f (by omega)).mp c_8
        have hp8 := Nat.ne_of_gt c_8
        refine J_iconst cx (v := nI 1) dL_isMade_581 (by decide) ?_
        refine J_goto cx (tgt := 586) dL_isMade_582 (by decide) ?_
        refine J_iadd cx dL_isMade_586 ?_
        refine J_top (v' := .int (nI (0 + 1))) (congrArg Value.int (nI_add 0 1)) ?_
        refine J_goto cx (tgt := 592) dL_isMade_587 (by decide) ?_
        refine J_icmp_ne cx (tgt := 599) dL_isMade_592 (by decide) (fun c_10 => ?_) (fun c_10 => ?_)
        · have c_10d := decide_eq_false c_10
          exact absurd (hr558.trans (by rw [op_set_ok hxp hxe hci hn hxp0 hxe0 (his.symm.trans c_1)]; exact congrArg nI (by simp [c_1, c_7, c_8, hp8, c_10, c_10d]))) c_10
        · have c_10d := decide_eq_true c_10
          refine J_iconst cx (v := nI 1) dL_isMade_595 (by decide) ?_
          refine J_goto cx (tgt := 600) dL_isMade_596 (by decide) ?_
          generalize hNN : upd (upd N (10 + 14 * ci + 8) (nI xp)) (10 + 14 * ci + 9) (nI xe) = NN
          have LAWf : LAW NN K558 := (by rw [← hNN, ← hK558, op_set_ok hxp hxe hci hn hxp0 hxe0 (his.symm.trans c_1)]; exact law_set hL hci hn _ _)
          have DYf : K558.2.2.1 2 ≤ κ.2.2.1 2 + 999 := (by rw [← hK558]; exact dy_setNames)
          exact J_end cx rfl hz558 hv558 LAWf DYf (Nat.le_of_ble_eq_true rfl) (Nat.le_of_ble_eq_true rfl) dL_isMade_600
    · have c_7 := (nat_if_le_f (by omega)).mp c_7
      have hp7 := Nat.ne_of_gt c_7
      refine J_iconst cx (v := nI 1) dL_isMade_571 (by decide) ?_
      refine J_goto cx (tgt := 576) dL_isMade_572 (by decide) ?_
      refine J_iload cx dL_isMade_576 12 rfl ?_
      refine J_if_le cx (tgt := 585) dL_isMade_578 (by decide) (fun c_11 => ?_) (fun c_11 => ?_)
      · have c_11 := (nat_if_le (by omega)).mp c_11
        refine J_iconst cx (v := nI 0) dL_isMade_585 (by decide) ?_
        refine J_iadd cx dL_isMade_586 ?_
        refine J_top (v' := .int (nI (1 + 0))) (congrArg Value.int (nI_add 1 0)) ?_
        refine J_goto cx (tgt := 592) dL_isMade_587 (by decide) ?_
        refine J_icmp_ne cx (tgt := 599) dL_isMade_592 (by decide) (fun c_12 => ?_) (fun c_12 => ?_)
        · have c_12d := decide_eq_false c_12
          exact absurd (hr558.trans (by rw [op_set_ok hxp hxe hci hn hxp0 hxe0 (his.symm.trans c_1)]; exact congrArg nI (by simp [c_1, c_7, hp7, c_11, c_12, c_12d]))) c_12
        · have c_12d := decide_eq_true c_12
          refine J_iconst cx (v := nI 1) dL_isMade_595 (by decide) ?_
          refine J_goto cx (tgt := 600) dL_isMade_596 (by decide) ?_
          generalize hNN : upd (upd N (10 + 14 * ci + 8) (nI xp)) (10 + 14 * ci + 9) (nI xe) = NN
          have LAWf : LAW NN K558 := (by rw [← hNN, ← hK558, op_set_ok hxp hxe hci hn hxp0 hxe0 (his.symm.trans c_1)]; exact law_set hL hci hn _ _)
          have DYf : K558.2.2.1 2 ≤ κ.2.2.1 2 + 999 := (by rw [← hK558]; exact dy_setNames)
          exact J_end cx rfl hz558 hv558 LAWf DYf (Nat.le_of_ble_eq_true rfl) (Nat.le_of_ble_eq_true rfl) dL_isMade_600
      · have c_11 := (nat_if_le_f (by omega)).mp c_11
        have hp8 := Nat.ne_of_gt c_11
        refine J_iconst cx (v := nI 1) dL_isMade_581 (by decide) ?_
        refine J_goto cx (tgt := 586) dL_isMade_582 (by decide) ?_
        refine J_iadd cx dL_isMade_586 ?_
        refine J_top (v' := .int (nI (1 + 1))) (congrArg Value.int (nI_add 1 1)) ?_
        refine J_goto cx (tgt := 592) dL_isMade_587 (by decide) ?_
        refine J_icmp_ne cx (tgt := 599) dL_isMade_592 (by decide) (fun c_13 => ?_) (fun c_13 => ?_)
        · have c_13d := decide_eq_false c_13
          exact absurd (hr558.trans (by rw [op_set_ok hxp hxe hci hn hxp0 hxe0 (his.symm.trans c_1)]; exact congrArg nI (by simp [c_1, c_7, hp7, c_11, hp8, c_13, c_13d]))) c_13
        · have c_13d := decide_eq_true c_13
          refine J_iconst cx (v := nI 1) dL_isMade_595 (by decide) ?_
          refine J_goto cx (tgt := 600) dL_isMade_596 (by decide) ?_
          generalize hNN : upd (upd N (10 + 14 * ci + 8) (nI xp)) (10 + 14 * ci + 9) (nI xe) = NN
          have LAWf : LAW NN K558 := (by rw [← hNN, ← hK558, op_set_ok hxp hxe hci hn hxp0 hxe0 (his.symm.trans c_1)]; exact law_set hL hci hn _ _)
          have DYf : K558.2.2.1 2 ≤ κ.2.2.1 2 + 999 := (by rw [← hK558]; exact dy_setNames)
          exact J_end cx rfl hz558 hv558 LAWf DYf (Nat.le_of_ble_eq_true rfl) (Nat.le_of_ble_eq_true rfl) dL_isMade_600
set_option maxHeartbeats 4000000 in
set_option maxRecDepth 100000 in
theorem mk_c411 {p : Program} {l : Launch} {e : Env} {s : State} {m : MethodId} {args : Array Value} {below : List Frame} {meth : Method} {c : Code} {D : va_G} {g : Nat → ClassId} {A : Nat → Prop} {an : Nat} {N : Nat → Int32} {ad : Nat → Nat → Nat} {κ : CS} {X : XT} {cs : Nat → CT} {lf : Nat → Int64} {pr : PT} {i : Nat} {ci : Nat} {a0 : Nat} {oi : Nat} {dd : Nat} {ll : Nat} {nm : Nat} {can : Bool} (htr : l.stackTraces = false) (hV : IV κ X) (hw : WV κ cs) (hk : κ.2.2.1 1 ≤ κ.2.2.1 0) (hd : κ.2.2.1 2 + 999 < 2147483648) (hL : LAW N κ) (hi : i < 50000) (hci : ci < κ.2.2.1 0) (ha01 : 1 ≤ a0) (ha02 : a0 ≤ 9999) (ha0 : κ.1 0 ci = nI a0) (hnb : nameB (nI a0) = true) (hoi : oi < κ.2.2.1 0) (hdd : dd < 40) (hdy : isInB (nI (8 + dd)) (nI 1) (nI 999) = true) (hln : isInB (nI ll) (nI 0) (nI 5) = true) (hll : ll ≤ 5) (hnm1 : 1 ≤ nm ∧ nm ≤ 9999) (hnm : nameB (nI nm) = true) (hcan : can = (κ.2.1 0 ci && decide (κ.2.2.1 0 < 40))) (cx : CX p l s m args meth c yL_isMade.cls cL_isMade (some .boolean) 14 D g A) : J p l e ({ frames := 10, cells := 9, slots := 59, locals := 178 } : Room) s m args below meth c D A 14 (MQ below (va_Qi (fun (r : Int32) (u : LT) => r = nI 1 ∧ u.2.2.1 0 = ad 0 ∧ LI u ∧ u.2.1.2.2.1 2 ≤ κ.2.2.1 2 + 999) (fun u => PO D A (wL g an u)) A) args s 9 59 A) 0 0 (iA g an 700 N :: iW ad g κ X cs lf pr) [(0, .ref (ad 0 0)), (1, .ref an), (2, .ref (g 10)), (3, .int (nI i)), (4, .int (nI ci)), (5, .int (nI (10 + 14 * ci))), (6, .int (nI oi)), (7, .int (nI (8 + dd))), (8, .int (nI ll)), (9, .int (nI nm)), (10, .int (zb can))] 411 [] := by
  have hN := hL.1
  have hI := hV.2.2.2.1
  have hn := hV.1.1
  have hF := hV.2.2.2.2.1
  have h1n := hL.2.1
  refine J_aload_n cx dL_isMade_411 rfl 2 rfl ?_
  refine J_iload_n cx dL_isMade_412 rfl 3 rfl ?_
  refine J_bipush cx (v := nI 10) dL_isMade_413 (by decide) ?_
  refine J_iadd cx dL_isMade_415 ?_
  refine J_top (v' := .int (nI (i + 10))) (congrArg Value.int (nI_add i 10)) ?_
  refine J_iconst cx (v := nI 3) dL_isMade_416 (by decide) ?_
  refine J_callSi cx kL_101 (As := [.ref (g 10), .int (nI (i + 10)), .int (nI 3)]) (tL_in l D g A (iA g an 700 N :: iW ad g κ X cs lf pr) (i + 10) 3 (by omega) (by omega) (by omega)) ⟨rfl, rfl, by decide, by decide⟩ ⟨by decide, by decide⟩ rfl rfl (Nat.le_of_ble_eq_true rfl) dL_isMade_417 ?_
  intro _ _ hr; cases hr
  have hin_1 := inN_lt (g := g) (i := (i + 10)) (n := 3) (by omega)
  have XP : ∀ (xp : Nat), (xp ≤ 9999) → (nm0 (nI xp) = true) → J p l e ({ frames := 10, cells := 9, slots := 59, locals := 178 } : Room) s m args below meth c D A 14 (MQ below (va_Qi (fun (r : Int32) (u : LT) => r = nI 1 ∧ u.2.2.1 0 = ad 0 ∧ LI u ∧ u.2.1.2.2.1 2 ≤ κ.2.2.1 2 + 999) (fun u => PO D A (wL g an u)) A) args s 9 59 A) 0 0 (iA g an 700 N :: iW ad g κ X cs lf pr) [(0, .ref (ad 0 0)), (1, .ref an), (2, .ref (g 10)), (3, .int (nI i)), (4, .int (nI ci)), (5, .int (nI (10 + 14 * ci))), (6, .int (nI oi)), (7, .int (nI (8 + dd))), (8, .int (nI ll)), (9, .int (nI nm)), (10, .int (zb can)), (11, .int (nI xp))] 452 [] := by
    intro xp hxp hxp0
    refine J_aload_n cx dL_isMade_452 rfl 2 rfl ?_
    refine J_iload_n cx dL_isMade_453 rfl 3 rfl ?_
    refine J_bipush cx (v := nI 11) dL_isMade_454 (by decide) ?_
    refine J_iadd cx dL_isMade_456 ?_
    refine J_top (v' := .int (nI (i + 11))) (congrArg Value.int (nI_add i 11)) ?_
    refine J_iconst cx (v := nI 2) dL_isMade_457 (by decide) ?_
    refine J_callSi cx kL_101 (As := [.ref (g 10), .int (nI (i + 11)), .int (nI 2)]) (tL_in l D g A (iA g an 700 N :: iW ad g κ X cs lf pr) (i + 11) 2 (by omega) (by omega) (by omega)) ⟨rfl, rfl, by decide, by decide⟩ ⟨by decide, by decide⟩ rfl rfl (Nat.le_of_ble_eq_true rfl) dL_isMade_458 ?_
    intro _ _ hr; cases hr
    have hin_2 := inN_lt (g := g) (i := (i + 11)) (n := 2) (by omega)
    have XE : ∀ (xe : Nat), (xe ≤ 9999) → (nm0 (nI xe) = true) → J p l e ({ frames := 10, cells := 9, slots := 59, locals := 178 } : Room) s m args below meth c D A 14 (MQ below (va_Qi (fun (r : Int32) (u : LT) => r = nI 1 ∧ u.2.2.1 0 = ad 0 ∧ LI u ∧ u.2.1.2.2.1 2 ≤ κ.2.2.1 2 + 999) (fun u => PO D A (wL g an u)) A) args s 9 59 A) 0 0 (iA g an 700 N :: iW ad g κ X cs lf pr) [(0, .ref (ad 0 0)), (1, .ref an), (2, .ref (g 10)), (3, .int (nI i)), (4, .int (nI ci)), (5, .int (nI (10 + 14 * ci))), (6, .int (nI oi)), (7, .int (nI (8 + dd))), (8, .int (nI ll)), (9, .int (nI nm)), (10, .int (zb can)), (11, .int (nI xp)), (12, .int (nI xe))] 472 [] := by
      intro xe hxe hxe0
      refine J_aload_n cx dL_isMade_472 rfl 1 rfl ?_
      refine J_iload cx dL_isMade_473 5 rfl ?_
      refine J_bipush cx (v := nI 6) dL_isMade_475 (by decide) ?_
      refine J_iadd cx dL_isMade_477 ?_
      refine J_top (v' := .int (nI ((10 + 14 * ci) + 6))) (congrArg Value.int (nI_add (10 + 14 * ci) 6)) ?_
      refine J_iald cx (j := (10 + 14 * ci + 6)) (f := N) 0 rfl (congrArg nI (by omega)) (by omega) (by decide) dL_isMade_478 ?_
      refine J_top (v' := .int (zb (κ.2.1 0 ci))) (congrArg Value.int (hN.c6 (by omega))) ?_
      refine J_iconst cx (v := nI 1) dL_isMade_479 (by decide) ?_
      have IT : ∀ (isb : Bool), (isb = (κ.2.1 0 ci && !anyN (issB κ (κ.1 1 ci)) (κ.2.2.1 0))) → J p l e ({ frames := 10, cells := 9, slots := 59, locals := 178 } : Room) s m args below meth c D A 14 (MQ below (va_Qi (fun (r : Int32) (u : LT) => r = nI 1 ∧ u.2.2.1 0 = ad 0 ∧ LI u ∧ u.2.1.2.2.1 2 ≤ κ.2.2.1 2 + 999) (fun u => PO D A (wL g an u)) A) args s 9 59 A) 0 0 (iA g an 700 N :: iW ad g κ X cs lf pr) [(0, .ref (ad 0 0)), (1, .ref an), (2, .ref (g 10)), (3, .int (nI i)), (4, .int (nI ci)), (5, .int (nI (10 + 14 * ci))), (6, .int (nI oi)), (7, .int (nI (8 + dd))), (8, .int (nI ll)), (9, .int (nI nm)), (10, .int (zb can)), (11, .int (nI xp)), (12, .int (nI xe)), (13, .int (zb isb))] 503 [] := by
        intro isb his
        refine J_L [0, 1, 2, 3, 4, 5, 6, 7, 8, 9, 10, 11, 12, 13] rfl ?_
        exact mk_c503 htr hV hw hk hd hL hi hci ha01 ha02 ha0 hnb hoi hdd hdy hln hll hnm1 hnm hcan hxp hxp0 hxe hxe0 his cx
      refine J_icmp_ne cx (tgt := 500) dL_isMade_480 (by decide) (fun c_3 => ?_) (fun c_3 => ?_)
      · have c_3 := (zb1n _).mp c_3
        refine J_iconst cx (v := nI 0) dL_isMade_500 (by decide) ?_
        refine J_istore cx (L' := [(13, .int (nI 0)), (0, .ref (ad 0 0)), (1, .ref an), (2, .ref (g 10)), (3, .int (nI i)), (4, .int (nI ci)), (5, .int (nI (10 + 14 * ci))), (6, .int (nI oi)), (7, .int (nI (8 + dd))), (8, .int (nI ll)), (9, .int (nI nm)), (10, .int (zb can)), (11, .int (nI xp)), (12, .int (nI xe))]) dL_isMade_501 (by decide) rfl ?_
        refine J_L [1, 2, 3, 4, 5, 6, 7, 8, 9, 10, 11, 12, 13, 0] rfl ?_
        exact IT false (by simp [hxp, hxp0, hxe, hxe0, c_3])
      · have c_3 := (zb1 _).mp c_3
        refine J_aload_n cx dL_isMade_483 rfl 1 rfl ?_
        refine J_aload_n cx dL_isMade_484 rfl 1 rfl ?_
        refine J_iload cx dL_isMade_485 5 rfl ?_
        refine J_iconst cx (v := nI 1) dL_isMade_487 (by decide) ?_
        refine J_iadd cx dL_isMade_488 ?_
        refine J_top (v' := .int (nI ((10 + 14 * ci) + 1))) (congrArg Value.int (nI_add (10 + 14 * ci) 1)) ?_
        refine J_iald cx (j := (10 + 14 * ci + 1)) (f := N) 0 rfl (congrArg nI (by omega)) (by omega) (by decide) dL_isMade_489 ?_
        refine J_top (v' := .int (κ.1 1 ci)) (congrArg Value.int (hN.c1 (by omega))) ?_
        refine J_callSi cx kL_159 (As := [.ref an, .int (κ.1 1 ci)]) (tL_hasIssued l D g A an N κ (iW ad g κ X cs lf pr) (κ.1 1 ci) hN hn) ⟨rfl, rfl, by decide, by decide⟩ ⟨by decide, by decide⟩ rfl rfl (Nat.le_of_ble_eq_true rfl) dL_isMade_490 ?_
        intro _ _ hr; cases hr
        refine J_ifz_ne cx (tgt := 500) dL_isMade_493 (by decide) (fun c_4 => ?_) (fun c_4 => ?_)
        · refine J_iconst cx (v := nI 0) dL_isMade_500 (by decide) ?_
          refine J_istore cx (L' := [(13, .int (nI 0)), (0, .ref (ad 0 0)), (1, .ref an), (2, .ref (g 10)), (3, .int (nI i)), (4, .int (nI ci)), (5, .int (nI (10 + 14 * ci))), (6, .int (nI oi)), (7, .int (nI (8 + dd))), (8, .int (nI ll)), (9, .int (nI nm)), (10, .int (zb can)), (11, .int (nI xp)), (12, .int (nI xe))]) dL_isMade_501 (by decide) rfl ?_
          refine J_L [1, 2, 3, 4, 5, 6, 7, 8, 9, 10, 11, 12, 13, 0] rfl ?_
          exact IT false (by simp [hxp, hxp0, hxe, hxe0, c_3, c_4])
        · refine J_iconst cx (v := nI 1) dL_isMade_496 (by decide) ?_
          refine J_goto cx (tgt := 501) dL_isMade_497 (by decide) ?_
          refine J_istore cx (L' := [(13, .int (nI 1)), (0, .ref (ad 0 0)), (1, .ref an), (2, .ref (g 10)), (3, .int (nI i)), (4, .int (nI ci)), (5, .int (nI (10 + 14 * ci))), (6, .int (nI oi)), (7, .int (nI (8 + dd))), (8, .int (nI ll)), (9, .int (nI nm)), (10, .int (zb can)), (11, .int (nI xp)), (12, .int (nI xe))]) dL_isMade_501 (by decide) rfl ?_
          refine J_L [1, 2, 3, 4, 5, 6, 7, 8, 9, 10, 11, 12, 13, 0] rfl ?_
          exact IT true (by simp [hxp, hxp0, hxe, hxe0, c_3, c_4])
    refine J_if_ne cx (tgt := 468) dL_isMade_461 (by decide) (fun c_5 => ?_) (fun c_5 => ?_)
    · have c_5 := (nat_if_ne (by omega)).mp c_5
      have c_5d := decide_eq_false c_5
      refine J_iload cx dL_isMade_468 9 rfl ?_
      refine J_istore cx (L' := [(12, .int (nI nm)), (0, .ref (ad 0 0)), (1, .ref an), (2, .ref (g 10)), (3, .int (nI i)), (4, .int (nI ci)), (5, .int (nI (10 + 14 * ci))), (6, .int (nI oi)), (7, .int (nI (8 + dd))), (8, .int (nI ll)), (9, .int (nI nm)), (10, .int (zb can)), (11, .int (nI xp))]) dL_isMade_470 (by decide) rfl ?_
      refine J_L [1, 2, 3, 4, 5, 6, 7, 8, 9, 10, 11, 12, 0] rfl ?_
      exact XE nm hnm1.2 (nm0_i hnm)
    · have c_5 := (nat_if_ne_f (by omega)).mp c_5
      have c_5d := decide_eq_true c_5
      refine J_iconst cx (v := nI 0) dL_isMade_464 (by decide) ?_
      refine J_goto cx (tgt := 470) dL_isMade_465 (by decide) ?_
      refine J_istore cx (L' := [(12, .int (nI 0)), (0, .ref (ad 0 0)), (1, .ref an), (2, .ref (g 10)), (3, .int (nI i)), (4, .int (nI ci)), (5, .int (nI (10 + 14 * ci))), (6, .int (nI oi)), (7, .int (nI (8 + dd))), (8, .int (nI ll)), (9, .int (nI nm)), (10, .int (zb can)), (11, .int (nI xp))]) dL_isMade_470 (by decide) rfl ?_
      refine J_L [1, 2, 3, 4, 5, 6, 7, 8, 9, 10, 11, 12, 0] rfl ?_
      exact XE 0 (by decide) nm0_0
  refine J_if_ne cx (tgt := 427) dL_isMade_420 (by decide) (fun c_6 => ?_) (fun c_6 => ?_)
  · have c_6 := (nat_if_ne (by omega)).mp c_6
    have c_6d := decide_eq_false c_6
    refine J_aload_n cx dL_isMade_427 rfl 1 rfl ?_
    refine J_iload cx dL_isMade_428 5 rfl ?_
    refine J_iald cx (j := (10 + 14 * ci)) (f := N) 0 rfl rfl (by omega) (by decide) dL_isMade_430 ?_
    refine J_top (v' := .int (nI a0)) (congrArg Value.int ((hN.c0 hci).trans ha0)) ?_
    refine J_bipush cx (v := nI 9) dL_isMade_431 (by decide) ?_
    refine J_icmp_le cx (tgt := 446) dL_isMade_433 (by decide) (fun c_7 => ?_) (fun c_7 => ?_)
    · have c_7 := (nat_ic_le (by omega) (by omega)).mp c_7
      have c_7d := decide_eq_true c_7
      refine J_aload_n cx dL_isMade_446 rfl 1 rfl ?_
      refine J_iload cx dL_isMade_447 5 rfl ?_
      refine J_iald cx (j := (10 + 14 * ci)) (f := N) 0 rfl rfl (by omega) (by decide) dL_isMade_449 ?_
      refine J_top (v' := .int (nI a0)) (congrArg Value.int ((hN.c0 hci).trans ha0)) ?_
      refine J_istore cx (L' := [(11, .int (nI a0)), (0, .ref (ad 0 0)), (1, .ref an), (2, .ref (g 10)), (3, .int (nI i)), (4, .int (nI ci)), (5, .int (nI (10 + 14 * ci))), (6, .int (nI oi)), (7, .int (nI (8 + dd))), (8, .int (nI ll)), (9, .int (nI nm)), (10, .int (zb can))]) dL_isMade_450 (by decide) rfl ?_
      refine J_L [1, 2, 3, 4, 5, 6, 7, 8, 9, 10, 11, 0] rfl ?_
      exact XP a0 ha02 (nm0_i hnb)
    · have c_7 := (nat_ic_le_f (by omega) (by omega)).mp c_7
      have c_7d := decide_eq_false (Nat.not_le.mpr c_7)
      refine J_aload_n cx dL_isMade_436 rfl 1 rfl ?_
      refine J_iload cx dL_isMade_437 5 rfl ?_
      refine J_iald cx (j := (10 + 14 * ci)) (f := N) 0 rfl rfl (by omega) (by decide) dL_isMade_439 ?_
      refine J_top (v' := .int (nI a0)) (congrArg Value.int ((hN.c0 hci).trans ha0)) ?_
      refine J_bipush cx (v := nI 10) dL_isMade_440 (by decide) ?_
      refine J_idiv cx dL_isMade_442 (by decide) ?_
      refine J_top (v' := .int (nI (a0 / 10))) (congrArg Value.int (pk_div (by omega) (by decide) (by decide))) ?_
      refine J_goto cx (tgt := 450) dL_isMade_443 (by decide) ?_
      refine J_istore cx (L' := [(11, .int (nI (a0 / 10))), (0, .ref (ad 0 0)), (1, .ref an), (2, .ref (g 10)), (3, .int (nI i)), (4, .int (nI ci)), (5, .int (nI (10 + 14 * ci))), (6, .int (nI oi)), (7, .int (nI (8 + dd))), (8, .int (nI ll)), (9, .int (nI nm)), (10, .int (zb can))]) dL_isMade_450 (by decide) rfl ?_
      refine J_L [1, 2, 3, 4, 5, 6, 7, 8, 9, 10, 11, 0] rfl ?_
      exact XP (a0 / 10) (by omega) (nm0_i (nm_cut hnb ha02 c_7))
  · have c_6 := (nat_if_ne_f (by omega)).mp c_6
    have c_6d := decide_eq_true c_6
    refine J_iconst cx (v := nI 0) dL_isMade_423 (by decide) ?_
    refine J_goto cx (tgt := 450) dL_isMade_424 (by decide) ?_
    refine J_istore cx (L' := [(11, .int (nI 0)), (0, .ref (ad 0 0)), (1, .ref an), (2, .ref (g 10)), (3, .int (nI i)), (4, .int (nI ci)), (5, .int (nI (10 + 14 * ci))), (6, .int (nI oi)), (7, .int (nI (8 + dd))), (8, .int (nI ll)), (9, .int (nI nm)), (10, .int (zb can))]) dL_isMade_450 (by decide) rfl ?_
    refine J_L [1, 2, 3, 4, 5, 6, 7, 8, 9, 10, 11, 0] rfl ?_
    exact XP 0 (by decide) nm0_0
set_option maxHeartbeats 4000000 in
set_option maxRecDepth 100000 in
theorem mk_c113 {p : Program} {l : Launch} {e : Env} {s : State} {m : MethodId} {args : Array Value} {below : List Frame} {meth : Method} {c : Code} {D : va_G} {g : Nat → ClassId} {A : Nat → Prop} {an : Nat} {N : Nat → Int32} {ad : Nat → Nat → Nat} {κ : CS} {X : XT} {cs : Nat → CT} {lf : Nat → Int64} {pr : PT} {i : Nat} {ci : Nat} {a0 : Nat} {oi : Nat} {dd : Nat} {ll : Nat} {nm : Nat} {can : Bool} (htr : l.stackTraces = false) (hV : IV κ X) (hw : WV κ cs) (hk : κ.2.2.1 1 ≤ κ.2.2.1 0) (hd : κ.2.2.1 2 + 999 < 2147483648) (hL : LAW N κ) (hi : i < 50000) (hci : ci < κ.2.2.1 0) (ha01 : 1 ≤ a0) (ha02 : a0 ≤ 9999) (ha0 : κ.1 0 ci = nI a0) (hnb : nameB (nI a0) = true) (hoi : oi < κ.2.2.1 0) (hdd : dd < 40) (hdy : isInB (nI (8 + dd)) (nI 1) (nI 999) = true) (hln : isInB (nI ll) (nI 0) (nI 5) = true) (hll : ll ≤ 5) (hnm1 : 1 ≤ nm ∧ nm ≤ 9999) (hnm : nameB (nI nm) = true) (hcan : can = (κ.2.1 0 ci && decide (κ.2.2.1 0 < 40))) (cx : CX p l s m args meth c yL_isMade.cls cL_isMade (some .boolean) 14 D g A) : J p l e ({ frames := 10, cells := 9, slots := 59, locals := 178 } : Room) s m args below meth c D A 14 (MQ below (va_Qi (fun (r : Int32) (u : LT) => r = nI 1 ∧ u.2.2.1 0 = ad 0 ∧ LI u ∧ u.2.1.2.2.1 2 ≤ κ.2.2.1 2 + 999) (fun u => PO D A (wL g an u)) A) args s 9 59 A) 0 0 (iA g an 700 N :: iW ad g κ X cs lf pr) [(0, .ref (ad 0 0)), (1, .ref an), (2, .ref (g 10)), (3, .int (nI i)), (4, .int (nI ci)), (5, .int (nI (10 + 14 * ci))), (6, .int (nI oi)), (7, .int (nI (8 + dd))), (8, .int (nI ll)), (9, .int (nI nm)), (10, .int (zb can))] 113 [] := by
  have hN := hL.1
  have hI := hV.2.2.2.1
  have hn := hV.1.1
  have hF := hV.2.2.2.2.1
  have h1n := hL.2.1
  refine J_aload_n cx dL_isMade_113 rfl 2 rfl ?_
  refine J_iload_n cx dL_isMade_114 rfl 3 rfl ?_
  refine J_bipush cx (v := nI 8) dL_isMade_115 (by decide) ?_
  refine J_callSi cx kL_101 (As := [.ref (g 10), .int (nI i), .int (nI 8)]) (tL_in l D g A (iA g an 700 N :: iW ad g κ X cs lf pr) i 8 (by omega) (by omega) (by omega)) ⟨rfl, rfl, by decide, by decide⟩ ⟨by decide, by decide⟩ rfl rfl (Nat.le_of_ble_eq_true rfl) dL_isMade_117 ?_
  intro _ _ hr; cases hr
  have hin_1 := inN_lt (g := g) (i := i) (n := 8) (by omega)
  generalize hg_j8 : inN g i 8 = j8 at *
  have hj8 : j8 < 8 := by assumption
  refine J_L [0, 1, 2, 3, 4, 5, 6, 7, 8, 9, 10] rfl ?_
  by_cases h8_0 : j8 = 0
  · subst h8_0
    refine J_tab cx (off := 44) (tgt := 164) dL_isMade_120 (by decide) (by decide) rfl (by decide) ?_
    exact mk_c164 htr hV hw hk hd hL hi hci ha01 ha02 ha0 hnb hoi hdd hdy hln hll hnm1 hnm hcan cx
  by_cases h8_1 : j8 = 1
  · subst h8_1
    refine J_tab cx (off := 86) (tgt := 206) dL_isMade_120 (by decide) (by decide) rfl (by decide) ?_
    exact mk_c206 htr hV hw hk hd hL hi hci ha01 ha02 ha0 hnb hoi hdd hdy hln hll hnm1 hnm hcan cx
  by_cases h8_2 : j8 = 2
  · subst h8_2
    refine J_tab cx (off := 86) (tgt := 206) dL_isMade_120 (by decide) (by decide) rfl (by decide) ?_
    exact mk_c206 htr hV hw hk hd hL hi hci ha01 ha02 ha0 hnb hoi hdd hdy hln hll hnm1 hnm hcan cx
  by_cases h8_3 : j8 = 3
  · subst h8_3
    refine J_tab cx (off := 86) (tgt := 206) dL_isMade_120 (by decide) (by decide) rfl (by decide) ?_
    exact mk_c206 htr hV hw hk hd hL hi hci ha01 ha02 ha0 hnb hoi hdd hdy hln hll hnm1 hnm hcan cx
  by_cases h8_4 : j8 = 4
  · subst h8_4
    refine J_tab cx (off := 129) (tgt := 249) dL_isMade_120 (by decide) (by decide) rfl (by decide) ?_
    exact mk_c249 htr hV hw hk hd hL hi hci ha01 ha02 ha0 hnb hoi hdd hdy hln hll hnm1 hnm hcan cx
  by_cases h8_5 : j8 = 5
  · subst h8_5
    refine J_tab cx (off := 169) (tgt := 289) dL_isMade_120 (by decide) (by decide) rfl (by decide) ?_
    exact mk_c289 htr hV hw hk hd hL hi hci ha01 ha02 ha0 hnb hoi hdd hdy hln hll hnm1 hnm hcan cx
  by_cases h8_6 : j8 = 6
  · subst h8_6
    refine J_tab cx (off := 291) (tgt := 411) dL_isMade_120 (by decide) (by decide) rfl (by decide) ?_
    exact mk_c411 htr hV hw hk hd hL hi hci ha01 ha02 ha0 hnb hoi hdd hdy hln hll hnm1 hnm hcan cx
  refine J_tabO cx (tgt := 601) dL_isMade_120 (Or.inr (by rw [nI_toInt (by omega)]; omega)) (by decide) ?_
  exact mk_c601 htr hV hw hk hd hL hi hci ha01 ha02 ha0 hnb hoi hdd hdy hln hll hnm1 hnm hcan cx
set_option maxHeartbeats 4000000 in
set_option maxRecDepth 100000 in
theorem mk_c87 {p : Program} {l : Launch} {e : Env} {s : State} {m : MethodId} {args : Array Value} {below : List Frame} {meth : Method} {c : Code} {D : va_G} {g : Nat → ClassId} {A : Nat → Prop} {an : Nat} {N : Nat → Int32} {ad : Nat → Nat → Nat} {κ : CS} {X : XT} {cs : Nat → CT} {lf : Nat → Int64} {pr : PT} {i : Nat} {ci : Nat} {a0 : Nat} {oi : Nat} {dd : Nat} {ll : Nat} {nm : Nat} (htr : l.stackTraces = false) (hV : IV κ X) (hw : WV κ cs) (hk : κ.2.2.1 1 ≤ κ.2.2.1 0) (hd : κ.2.2.1 2 + 999 < 2147483648) (hL : LAW N κ) (hi : i < 50000) (hci : ci < κ.2.2.1 0) (ha01 : 1 ≤ a0) (ha02 : a0 ≤ 9999) (ha0 : κ.1 0 ci = nI a0) (hnb : nameB (nI a0) = true) (hoi : oi < κ.2.2.1 0) (hdd : dd < 40) (hdy : isInB (nI (8 + dd)) (nI 1) (nI 999) = true) (hln : isInB (nI ll) (nI 0) (nI 5) = true) (hll : ll ≤ 5) (hnm1 : 1 ≤ nm ∧ nm ≤ 9999) (hnm : nameB (nI nm) = true) (cx : CX p l s m args meth c yL_isMade.cls cL_isMade (some .boolean) 14 D g A) : J p l e ({ frames := 10, cells := 9, slots := 59, locals := 178 } : Room) s m args below meth c D A 14 (MQ below (va_Qi (fun (r : Int32) (u : LT) => r = nI 1 ∧ u.2.2.1 0 = ad 0 ∧ LI u ∧ u.2.1.2.2.1 2 ≤ κ.2.2.1 2 + 999) (fun u => PO D A (wL g an u)) A) args s 9 59 A) 0 0 (iA g an 700 N :: iW ad g κ X cs lf pr) [(0, .ref (ad 0 0)), (1, .ref an), (2, .ref (g 10)), (3, .int (nI i)), (4, .int (nI ci)), (5, .int (nI (10 + 14 * ci))), (6, .int (nI oi)), (7, .int (nI (8 + dd))), (8, .int (nI ll)), (9, .int (nI nm))] 87 [] := by
  have hN := hL.1
  have hI := hV.2.2.2.1
  have hn := hV.1.1
  have hF := hV.2.2.2.2.1
  have h1n := hL.2.1
  refine J_aload_n cx dL_isMade_87 rfl 1 rfl ?_
  refine J_iload cx dL_isMade_88 5 rfl ?_
  have CAN : ∀ (can : Bool), (can = (κ.2.1 0 ci && decide (κ.2.2.1 0 < 40))) → J p l e ({ frames := 10, cells := 9, slots := 59, locals := 178 } : Room) s m args below meth c D A 14 (MQ below (va_Qi (fun (r : Int32) (u : LT) => r = nI 1 ∧ u.2.2.1 0 = ad 0 ∧ LI u ∧ u.2.1.2.2.1 2 ≤ κ.2.2.1 2 + 999) (fun u => PO D A (wL g an u)) A) args s 9 59 A) 0 0 (iA g an 700 N :: iW ad g κ X cs lf pr) [(0, .ref (ad 0 0)), (1, .ref an), (2, .ref (g 10)), (3, .int (nI i)), (4, .int (nI ci)), (5, .int (nI (10 + 14 * ci))), (6, .int (nI oi)), (7, .int (nI (8 + dd))), (8, .int (nI ll)), (9, .int (nI nm)), (10, .int (zb can))] 113 [] := by
    intro can hcan
    refine J_L [0, 1, 2, 3, 4, 5, 6, 7, 8, 9, 10] rfl ?_
    exact mk_c113 htr hV hw hk hd hL hi hci ha01 ha02 ha0 hnb hoi hdd hdy hln hll hnm1 hnm hcan cx
  refine J_bipush cx (v := nI 6) dL_isMade_90 (by decide) ?_
  refine J_iadd cx dL_isMade_92 ?_
  refine J_top (v' := .int (nI ((10 + 14 * ci) + 6))) (congrArg Value.int (nI_add (10 + 14 * ci) 6)) ?_
  refine J_iald cx (j := (10 + 14 * ci + 6)) (f := N) 0 rfl (congrArg nI (by omega)) (by omega) (by decide) dL_isMade_93 ?_
  refine J_top (v' := .int (zb (κ.2.1 0 ci))) (congrArg Value.int (hN.c6 (by omega))) ?_
  refine J_iconst cx (v := nI 1) dL_isMade_94 (by decide) ?_
  refine J_icmp_ne cx (tgt := 110) dL_isMade_95 (by decide) (fun c_1 => ?_) (fun c_1 => ?_)
  · have c_1 := (zb1n _).mp c_1
    refine J_iconst cx (v := nI 0) dL_isMade_110 (by decide) ?_
    refine J_istore cx (L' := [(10, .int (nI 0)), (0, .ref (ad 0 0)), (1, .ref an), (2, .ref (g 10)), (3, .int (nI i)), (4, .int (nI ci)), (5, .int (nI (10 + 14 * ci))), (6, .int (nI oi)), (7, .int (nI (8 + dd))), (8, .int (nI ll)), (9, .int (nI nm))]) dL_isMade_111 (by decide) rfl ?_
    refine J_L [1, 2, 3, 4, 5, 6, 7, 8, 9, 10, 0] rfl ?_
    exact CAN false (by simp [c_1])
  · have c_1 := (zb1 _).mp c_1
    refine J_aload_n cx dL_isMade_98 rfl 1 rfl ?_
    refine J_iconst cx (v := nI 0) dL_isMade_99 (by decide) ?_
    refine J_iald cx (j := 0) (f := N) 0 rfl rfl (by omega) (by decide) dL_isMade_100 ?_
    refine J_top (v' := .int (nI (κ.2.2.1 0))) (congrArg Value.int hN.n0) ?_
    refine J_bipush cx (v := nI 40) dL_isMade_101 (by decide) ?_
    refine J_icmp_ge cx (tgt := 110) dL_isMade_103 (by decide) (fun c_2 => ?_) (fun c_2 => ?_)
    · have c_2 := (nat_ic_ge (by omega) (by omega)).mp c_2
      have c_2d := decide_eq_true c_2
      refine J_iconst cx (v := nI 0) dL_isMade_110 (by decide) ?_
      refine J_istore cx (L' := [(10, .int (nI 0)), (0, .ref (ad 0 0)), (1, .ref an), (2, .ref (g 10)), (3, .int (nI i)), (4, .int (nI ci)), (5, .int (nI (10 + 14 * ci))), (6, .int (nI oi)), (7, .int (nI (8 + dd))), (8, .int (nI ll)), (9, .int (nI nm))]) dL_isMade_111 (by decide) rfl ?_
      refine J_L [1, 2, 3, 4, 5, 6, 7, 8, 9, 10, 0] rfl ?_
      exact CAN false (by simp [c_1, c_2, c_2d])
    · have c_2 := (nat_ic_ge_f (by omega) (by omega)).mp c_2
      have c_2d := decide_eq_false (Nat.not_le.mpr c_2)
      refine J_iconst cx (v := nI 1) dL_isMade_106 (by decide) ?_
      refine J_goto cx (tgt := 111) dL_isMade_107 (by decide) ?_
      refine J_istore cx (L' := [(10, .int (nI 1)), (0, .ref (ad 0 0)), (1, .ref an), (2, .ref (g 10)), (3, .int (nI i)), (4, .int (nI ci)), (5, .int (nI (10 + 14 * ci))), (6, .int (nI oi)), (7, .int (nI (8 + dd))), (8, .int (nI ll)), (9, .int (nI nm))]) dL_isMade_111 (by decide) rfl ?_
      refine J_L [1, 2, 3, 4, 5, 6, 7, 8, 9, 10, 0] rfl ?_
      exact CAN true (by simp [c_1, c_2, c_2d])
set_option maxHeartbeats 8000000 in
set_option maxRecDepth 100000 in
theorem tL_isMade (l : Launch) (D : va_G) (g : Nat → ClassId) (A : Nat → Prop) (an : Nat) (N : Nat → Int32) (ad : Nat → Nat → Nat) (κ : CS) (X : XT) (cs : Nat → CT) (lf : Nat → Int64) (pr : PT) (i : Nat) (htr : l.stackTraces = false) (hV : IV κ X) (hw : WV κ cs) (hk : κ.2.2.1 1 ≤ κ.2.2.1 0) (hd : κ.2.2.1 2 + 999 < 2147483648) (hL : LAW N κ) (hi : i < 50000) : Met l yL_isMade (wsA yL_isMade cL_isMade 14 (some .boolean)) ({ frames := 10, cells := 9, slots := 59, locals := 178 } : Room) (va_Pc [.ref (ad 0 0), .ref an, .ref (g 10), .int (nI i)] (PRE D g A (iA g an 700 N :: iW ad g κ X cs lf pr))) (va_Qi (fun (r : Int32) (u : LT) => r = nI 1 ∧ u.2.2.1 0 = ad 0 ∧ LI u ∧ u.2.1.2.2.1 2 ≤ κ.2.2.1 2 + 999) (fun u => PO D A (wL g an u)) A) 9 59 A := by
  have hN := hL.1
  have hI := hV.2.2.2.1
  have hn := hV.1.1
  have hF := hV.2.2.2.2.1
  have h1n := hL.2.1
  refine metJ (by decide) (Nat.le_of_ble_eq_true rfl) ?_
  intro p e s m args below meth c _ _ cx
  refine J_aload_n cx dL_isMade_0 rfl 2 rfl ?_
  refine J_iload_n cx dL_isMade_1 rfl 3 rfl ?_
  refine J_iconst cx (v := nI 1) dL_isMade_2 (by decide) ?_
  refine J_iadd cx dL_isMade_3 ?_
  refine J_top (v' := .int (nI (i + 1))) (congrArg Value.int (nI_add i 1)) ?_
  refine J_aload_n cx dL_isMade_4 rfl 1 rfl ?_
  refine J_iconst cx (v := nI 0) dL_isMade_5 (by decide) ?_
  refine J_iald cx (j := 0) (f := N) 0 rfl rfl (by omega) (by decide) dL_isMade_6 ?_
  refine J_top (v' := .int (nI (κ.2.2.1 0))) (congrArg Value.int hN.n0) ?_
  refine J_callSi cx kL_101 (As := [.ref (g 10), .int (nI (i + 1)), .int (nI (κ.2.2.1 0))]) (tL_in l D g A (iA g an 700 N :: iW ad g κ X cs lf pr) (i + 1) (κ.2.2.1 0) (by omega) (by omega) (by omega)) ⟨rfl, rfl, by decide, by decide⟩ ⟨by decide, by decide⟩ rfl rfl (Nat.le_of_ble_eq_true rfl) dL_isMade_7 ?_
  intro _ _ hr; cases hr
  have hin_1 := inN_lt (g := g) (i := (i + 1)) (n := (κ.2.2.1 0)) (by omega)
  generalize hg_ci : inN g (i + 1) (κ.2.2.1 0) = ci at *
  obtain ⟨a0, ha01, ha02, ha0⟩ := hI.2.1 ci (by assumption)
  have hci : ci < κ.2.2.1 0 := by assumption
  have hnb : nameB (nI a0) = true := by rw [← ha0]; exact hL.2.2.2.2 ci hci
  refine J_istore cx (L' := [(4, .int (nI ci)), (0, .ref (ad 0 0)), (1, .ref an), (2, .ref (g 10)), (3, .int (nI i))]) dL_isMade_10 (by decide) rfl ?_
  refine J_bipush cx (v := nI 10) dL_isMade_12 (by decide) ?_
  refine J_bipush cx (v := nI 14) dL_isMade_14 (by decide) ?_
  refine J_iload cx dL_isMade_16 0 rfl ?_
  refine J_imul cx dL_isMade_18 ?_
  refine J_top (v' := .int (nI (14 * ci))) (congrArg Value.int (pk_mul 14 ci)) ?_
  refine J_iadd cx dL_isMade_19 ?_
  refine J_top (v' := .int (nI (10 + (14 * ci)))) (congrArg Value.int (nI_add 10 (14 * ci))) ?_
  refine J_istore cx (L' := [(5, .int (nI (10 + (14 * ci)))), (4, .int (nI ci)), (0, .ref (ad 0 0)), (1, .ref an), (2, .ref (g 10)), (3, .int (nI i))]) dL_isMade_20 (by decide) rfl ?_
  refine J_aload_n cx dL_isMade_22 rfl 4 rfl ?_
  refine J_iload_n cx dL_isMade_23 rfl 5 rfl ?_
  refine J_iconst cx (v := nI 2) dL_isMade_24 (by decide) ?_
  refine J_iadd cx dL_isMade_25 ?_
  refine J_top (v' := .int (nI (i + 2))) (congrArg Value.int (nI_add i 2)) ?_
  refine J_aload_n cx dL_isMade_26 rfl 3 rfl ?_
  refine J_iconst cx (v := nI 0) dL_isMade_27 (by decide) ?_
  refine J_iald cx (j := 0) (f := N) 0 rfl rfl (by omega) (by decide) dL_isMade_28 ?_
  refine J_top (v' := .int (nI (κ.2.2.1 0))) (congrArg Value.int hN.n0) ?_
  refine J_callSi cx kL_101 (As := [.ref (g 10), .int (nI (i + 2)), .int (nI (κ.2.2.1 0))]) (tL_in l D g A (iA g an 700 N :: iW ad g κ X cs lf pr) (i + 2) (κ.2.2.1 0) (by omega) (by omega) (by omega)) ⟨rfl, rfl, by decide, by decide⟩ ⟨by decide, by decide⟩ rfl rfl (Nat.le_of_ble_eq_true rfl) dL_isMade_29 ?_
  intro _ _ hr; cases hr
  have hin_2 := inN_lt (g := g) (i := (i + 2)) (n := (κ.2.2.1 0)) (by omega)
  generalize hg_oi : inN g (i + 2) (κ.2.2.1 0) = oi at *
  have hoi : oi < κ.2.2.1 0 := by assumption
  refine J_istore cx (L' := [(6, .int (nI oi)), (5, .int (nI (10 + (14 * ci)))), (4, .int (nI ci)), (0, .ref (ad 0 0)), (1, .ref an), (2, .ref (g 10)), (3, .int (nI i))]) dL_isMade_32 (by decide) rfl ?_
  refine J_bipush cx (v := nI 8) dL_isMade_34 (by decide) ?_
  refine J_aload_n cx dL_isMade_36 rfl 5 rfl ?_
  refine J_iload_n cx dL_isMade_37 rfl 6 rfl ?_
  refine J_iconst cx (v := nI 3) dL_isMade_38 (by decide) ?_
  refine J_iadd cx dL_isMade_39 ?_
  refine J_top (v' := .int (nI (i + 3))) (congrArg Value.int (nI_add i 3)) ?_
  refine J_bipush cx (v := nI 40) dL_isMade_40 (by decide) ?_
  refine J_callSi cx kL_101 (As := [.ref (g 10), .int (nI (i + 3)), .int (nI 40)]) (tL_in l D g A (iA g an 700 N :: iW ad g κ X cs lf pr) (i + 3) 40 (by omega) (by omega) (by omega)) ⟨rfl, rfl, by decide, by decide⟩ ⟨by decide, by decide⟩ rfl rfl (Nat.le_of_ble_eq_true rfl) dL_isMade_42 ?_
  intro _ _ hr; cases hr
  have hin_3 := inN_lt (g := g) (i := (i + 3)) (n := 40) (by omega)
  refine J_iadd cx dL_isMade_45 ?_
  refine J_top (v' := .int (nI (8 + (inN g (i + 3) 40)))) (congrArg Value.int (nI_add 8 (inN g (i + 3) 40))) ?_
  generalize hg_dd : inN g (i + 3) 40 = dd at *
  have hdy : isInB (nI (8 + dd)) (nI 1) (nI 999) = true := ds_ok (by assumption)
  have hdd : dd < 40 := by assumption
  refine J_istore cx (L' := [(7, .int (nI (8 + dd))), (6, .int (nI oi)), (5, .int (nI (10 + (14 * ci)))), (4, .int (nI ci)), (0, .ref (ad 0 0)), (1, .ref an), (2, .ref (g 10)), (3, .int (nI i))]) dL_isMade_46 (by decide) rfl ?_
  refine J_aload_n cx dL_isMade_48 rfl 6 rfl ?_
  refine J_iload_n cx dL_isMade_49 rfl 7 rfl ?_
  refine J_iconst cx (v := nI 4) dL_isMade_50 (by decide) ?_
  refine J_iadd cx dL_isMade_51 ?_
  refine J_top (v' := .int (nI (i + 4))) (congrArg Value.int (nI_add i 4)) ?_
  refine J_iconst cx (v := nI 4) dL_isMade_52 (by decide) ?_
  refine J_callSi cx kL_101 (As := [.ref (g 10), .int (nI (i + 4)), .int (nI 4)]) (tL_in l D g A (iA g an 700 N :: iW ad g κ X cs lf pr) (i + 4) 4 (by omega) (by omega) (by omega)) ⟨rfl, rfl, by decide, by decide⟩ ⟨by decide, by decide⟩ rfl rfl (Nat.le_of_ble_eq_true rfl) dL_isMade_53 ?_
  intro _ _ hr; cases hr
  have hin_4 := inN_lt (g := g) (i := (i + 4)) (n := 4) (by omega)
  generalize hg_ll : inN g (i + 4) 4 = ll at *
  have hln : isInB (nI ll) (nI 0) (nI 5) = true := ln_ok (by assumption)
  have hll : ll ≤ 5 := by omega
  refine J_istore cx (L' := [(8, .int (nI ll)), (7, .int (nI (8 + dd))), (6, .int (nI oi)), (5, .int (nI (10 + (14 * ci)))), (4, .int (nI ci)), (0, .ref (ad 0 0)), (1, .ref an), (2, .ref (g 10)), (3, .int (nI i))]) dL_isMade_56 (by decide) rfl ?_
  refine J_aload_n cx dL_isMade_58 rfl 7 rfl ?_
  refine J_iload_n cx dL_isMade_59 rfl 8 rfl ?_
  refine J_iconst cx (v := nI 5) dL_isMade_60 (by decide) ?_
  refine J_iadd cx dL_isMade_61 ?_
  refine J_top (v' := .int (nI (i + 5))) (congrArg Value.int (nI_add i 5)) ?_
  refine J_aload_n cx dL_isMade_62 rfl 7 rfl ?_
  refine J_iload_n cx dL_isMade_63 rfl 8 rfl ?_
  refine J_bipush cx (v := nI 9) dL_isMade_64 (by decide) ?_
  refine J_iadd cx dL_isMade_66 ?_
  refine J_top (v' := .int (nI (i + 9))) (congrArg Value.int (nI_add i 9)) ?_
  refine J_iconst cx (v := nI 3) dL_isMade_67 (by decide) ?_
  refine J_callSi cx kL_101 (As := [.ref (g 10), .int (nI (i + 9)), .int (nI 3)]) (tL_in l D g A (iA g an 700 N :: iW ad g κ X cs lf pr) (i + 9) 3 (by omega) (by omega) (by omega)) ⟨rfl, rfl, by decide, by decide⟩ ⟨by decide, by decide⟩ rfl rfl (Nat.le_of_ble_eq_true rfl) dL_isMade_68 ?_
  intro _ _ hr; cases hr
  have hin_5 := inN_lt (g := g) (i := (i + 9)) (n := 3) (by omega)
  have NM : ∀ (nm : Nat), (1 ≤ nm ∧ nm ≤ 9999) → (nameB (nI nm) = true) → J p l e ({ frames := 10, cells := 9, slots := 59, locals := 178 } : Room) s m args below meth c D A 14 (MQ below (va_Qi (fun (r : Int32) (u : LT) => r = nI 1 ∧ u.2.2.1 0 = ad 0 ∧ LI u ∧ u.2.1.2.2.1 2 ≤ κ.2.2.1 2 + 999) (fun u => PO D A (wL g an u)) A) args s 9 59 A) 0 0 (iA g an 700 N :: iW ad g κ X cs lf pr) [(0, .ref (ad 0 0)), (1, .ref an), (2, .ref (g 10)), (3, .int (nI i)), (4, .int (nI ci)), (5, .int (nI (10 + 14 * ci))), (6, .int (nI oi)), (7, .int (nI (8 + dd))), (8, .int (nI ll)), (9, .int (nI nm))] 87 [] := by
    intro nm hnm1 hnm
    refine J_L [0, 1, 2, 3, 4, 5, 6, 7, 8, 9] rfl ?_
    exact mk_c87 htr hV hw hk hd hL hi hci ha01 ha02 ha0 hnb hoi hdd hdy hln hll hnm1 hnm cx
  refine J_if_ne cx (tgt := 78) dL_isMade_71 (by decide) (fun c_6 => ?_) (fun c_6 => ?_)
  · have c_6 := (nat_if_ne (by omega)).mp c_6
    have c_6d := decide_eq_false c_6
    refine J_aload_n cx dL_isMade_78 rfl 6 rfl ?_
    refine J_iload cx dL_isMade_79 3 rfl ?_
    refine J_iald cx (j := (10 + 14 * ci)) (f := N) 0 rfl (congrArg nI (by omega)) (by omega) (by decide) dL_isMade_81 ?_
    refine J_top (v' := .int (nI a0)) (congrArg Value.int ((hN.c0 hci).trans ha0)) ?_
    refine J_callSi cx kL_138 (As := [.ref (g 10), .int (nI (i + 5)), .int (nI a0)]) (tL_name l D g A (iA g an 700 N :: iW ad g κ X cs lf pr) (i + 5) a0 (by omega) (by omega)) ⟨rfl, rfl, by decide, by decide⟩ ⟨by decide, by decide⟩ rfl rfl (Nat.le_of_ble_eq_true rfl) dL_isMade_82 ?_
    intro _ _ hr; cases hr
    refine J_istore cx (L' := [(9, .int (nI (nmG g (i + 5) a0))), (8, .int (nI ll)), (7, .int (nI (8 + dd))), (6, .int (nI oi)), (5, .int (nI (10 + (14 * ci)))), (4, .int (nI ci)), (0, .ref (ad 0 0)), (1, .ref an), (2, .ref (g 10)), (3, .int (nI i))]) dL_isMade_85 (by decide) rfl ?_
    refine J_L [6, 7, 8, 9, 5, 4, 3, 2, 1, 0] rfl ?_
    exact NM (nmG g (i + 5) a0) ⟨(nmG_ok (Or.inr hnb) ha02).1, (nmG_ok (Or.inr hnb) ha02).2.1⟩ (nmG_ok (Or.inr hnb) ha02).2.2
  · have c_6 := (nat_if_ne_f (by omega)).mp c_6
    have c_6d := decide_eq_true c_6
    refine J_iconst cx (v := nI 0) dL_isMade_74 (by decide) ?_
    refine J_goto cx (tgt := 82) dL_isMade_75 (by decide) ?_
    refine J_callSi cx kL_138 (As := [.ref (g 10), .int (nI (i + 5)), .int (nI 0)]) (tL_name l D g A (iA g an 700 N :: iW ad g κ X cs lf pr) (i + 5) 0 (by omega) (by omega)) ⟨rfl, rfl, by decide, by decide⟩ ⟨by decide, by decide⟩ rfl rfl (Nat.le_of_ble_eq_true rfl) dL_isMade_82 ?_
    intro _ _ hr; cases hr
    refine J_istore cx (L' := [(9, .int (nI (nmG g (i + 5) 0))), (8, .int (nI ll)), (7, .int (nI (8 + dd))), (6, .int (nI oi)), (5, .int (nI (10 + (14 * ci)))), (4, .int (nI ci)), (0, .ref (ad 0 0)), (1, .ref an), (2, .ref (g 10)), (3, .int (nI i))]) dL_isMade_85 (by decide) rfl ?_
    refine J_L [6, 7, 8, 9, 5, 4, 3, 2, 1, 0] rfl ?_
    exact NM (nmG g (i + 5) 0) ⟨(nmG_ok (Or.inl rfl) (by decide)).1, (nmG_ok (Or.inl rfl) (by decide)).2.1⟩ (nmG_ok (Or.inl rfl) (by decide)).2.2
