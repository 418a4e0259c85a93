set_option maxHeartbeats 4000000 in
set_option maxRecDepth 100000 in
theorem lw_e {p : Program} {l : Launch} {e : Env} {s : State} {m : MethodId} {args : Array Value} {below : List Frame} {meth : Method} {c : Code} {D : va_G} {g : Nat → ClassId} {A : Nat → Prop} {an : Nat} {Q : State → Prop} {rt9 : Option FieldType} {N : Nat → Int32} {ad : Nat → Nat → Nat} {κ : CS} {X : XT} {cs : Nat → CT} {lf : Nat → Int64} {pr : PT} (htr : l.stackTraces = false) (hV : IV κ X) (hw : WV κ cs) (hk : κ.2.2.1 1 ≤ κ.2.2.1 0) (hL : LAW N κ) (hd : κ.2.2.1 2 + 999 < 2147483648) (hE : ∀ (ws : va_W) (L : List (Nat × Value)), J p l e ({ frames := 2048, cells := 600312, slots := 7292577, locals := 94400 } : Room) s m args below meth c D A 7 Q 600312 7292577 ws L 387 [.int (nI 1)]) (cx : CX p l s m args meth c RL cL_law rt9 7 D g A) : J p l e ({ frames := 2048, cells := 600312, slots := 7292577, locals := 94400 } : Room) s m args below meth c D A 7 Q 7200 56000 (iA g an 700 N :: iW ad g κ X cs lf pr) [(2, .ref (ad 0 0)), (0, .ref (g 10)), (1, .ref an)] 218 [] := by
  have h1n := hL.2.1
  have hn := hV.1.1
  have hN := hL.1
  refine J_aload_n cx dL_law_218 rfl 2 rfl ?_
  refine J_iconst cx (v := nI 0) dL_law_219 (by decide) ?_
  refine J_iald cx (j := 0) (f := N) 0 rfl rfl (by omega) (by decide) dL_law_220 ?_
  refine J_top (v' := .int (nI (κ.2.2.1 0))) (congrArg Value.int hN.n0) ?_
  refine J_istore_n cx (L' := [(3, .int (nI (κ.2.2.1 0))), (2, .ref (ad 0 0)), (0, .ref (g 10)), (1, .ref an)]) dL_law_221 rfl (by decide) rfl ?_
  refine J_aload_n cx dL_law_222 rfl 1 rfl ?_
  refine J_iload_n cx dL_law_223 rfl 0 rfl ?_
  refine J_iconst cx (v := nI 0) dL_law_224 (by decide) ?_
  refine J_callHi cx kL_186 (As := [.ref (ad 0 0), .int (nI (κ.2.2.1 0)), .int (nI 0)]) (frI (w := iW ad g κ X cs lf pr) (wr := [iA g an 700 N]) (W' := fun (u : UT) => wT g ((opBegin κ (nI (κ.2.2.1 0)) (nI 0)).2.2) u) (W2 := fun (u : UT) => iA g an 700 N :: wT g ((opBegin κ (nI (κ.2.2.1 0)) (nI 0)).2.2) u) (pm_1 _ _) (fun u => (pm_1 _ _).symm) (tL_begin l D g _ ad κ X cs lf pr (nI (κ.2.2.1 0)) (nI 0) htr hV hw hk hd)) ⟨rfl, rfl, by decide, by decide⟩ ⟨by first | decide | (show _ ≤ _; dsimp only; omega), by first | decide | (show _ ≤ _; dsimp only; omega)⟩ rfl rfl (Nat.le_of_ble_eq_true rfl) dL_law_225 ?_
  intro r225 u225 hu225; obtain ⟨hr225, hz225, hv225⟩ := hu225
  generalize hK225 : (opBegin κ (nI (κ.2.2.1 0)) (nI 0)).2.2 = K225 at *
  have E225 := e_begin_n hn
  have hr225 : r225 = -900001 := hr225.trans (by rw [E225]; rfl)
  have hq225 : κ = K225 := by rw [← hK225, E225]
  subst hq225
  subst hr225
  refine J_Le (L' := [(3, .int (nI (κ.2.2.1 0))), (2, .ref (u225.1 0 0)), (0, .ref (g 10)), (1, .ref an)]) (by rw [hz225]) ?_
  refine J_ldc cx (v := (-900001)) dL_law_228 cL_30 ?_
  refine J_icmp_ne cx (tgt := 386) dL_law_230 (by decide) (fun h => absurd rfl h) (fun _ => ?_)
  refine J_aload_n cx dL_law_233 rfl 1 rfl ?_
  refine J_iconst cx (v := nI 0) dL_law_234 (by decide) ?_
  refine J_iconst cx (v := (-1)) dL_law_235 (by decide) ?_
  refine J_callHi cx kL_186 (As := [.ref (u225.1 0 0), .int (nI 0), .int (-1)]) (frI (w := iW u225.1 g κ u225.2.1 u225.2.2.1 u225.2.2.2.1 u225.2.2.2.2) (wr := [iA g an 700 N]) (W' := fun (u : UT) => wT g ((opBegin κ (nI 0) (-1)).2.2) u) (W2 := fun (u : UT) => iA g an 700 N :: wT g ((opBegin κ (nI 0) (-1)).2.2) u) (pm_1 _ _) (fun u => (pm_1 _ _).symm) (tL_begin l D g _ u225.1 κ u225.2.1 u225.2.2.1 u225.2.2.2.1 u225.2.2.2.2 (nI 0) (-1) htr hv225.1 hv225.2.1 hv225.2.2 hd)) ⟨rfl, rfl, by decide, by decide⟩ ⟨by first | decide | (show _ ≤ _; dsimp only; omega), by first | decide | (show _ ≤ _; dsimp only; omega)⟩ rfl rfl (Nat.le_of_ble_eq_true rfl) dL_law_236 ?_
  intro r236 u236 hu236; obtain ⟨hr236, hz236, hv236⟩ := hu236
  generalize hK236 : (opBegin κ (nI 0) (-1)).2.2 = K236 at *
  have E236 := e_begin_0 h1n
  have hr236 : r236 = -900002 := hr236.trans (by rw [E236]; rfl)
  have hq236 : κ = K236 := by rw [← hK236, E236]
  subst hq236
  subst hr236
  refine J_Le (L' := [(3, .int (nI (κ.2.2.1 0))), (2, .ref (u236.1 0 0)), (0, .ref (g 10)), (1, .ref an)]) (by rw [hz236]) ?_
  refine J_ldc cx (v := (-900002)) dL_law_239 cL_33 ?_
  refine J_icmp_ne cx (tgt := 386) dL_law_241 (by decide) (fun h => absurd rfl h) (fun _ => ?_)
  refine J_aload_n cx dL_law_244 rfl 1 rfl ?_
  refine J_iconst cx (v := (-1)) dL_law_245 (by decide) ?_
  refine J_iconst cx (v := nI 0) dL_law_246 (by decide) ?_
  refine J_callHi cx kL_268 (As := [.ref (u236.1 0 0), .int (-1), .int (nI 0)]) (frI (w := iW u236.1 g κ u236.2.1 u236.2.2.1 u236.2.2.2.1 u236.2.2.2.2) (wr := [iA g an 700 N]) (W' := fun (u : UT) => wT g κ u) (W2 := fun (u : UT) => iA g an 700 N :: wT g κ u) (pm_1 _ _) (fun u => (pm_1 _ _).symm) (tL_chainSize l D g _ u236.1 κ u236.2.1 u236.2.2.1 u236.2.2.2.1 u236.2.2.2.2 (-1) (nI 0) htr hv236.1 hv236.2.1 hv236.2.2 hd)) ⟨rfl, rfl, by decide, by decide⟩ ⟨by first | decide | (show _ ≤ _; dsimp only; omega), by first | decide | (show _ ≤ _; dsimp only; omega)⟩ rfl rfl (Nat.le_of_ble_eq_true rfl) dL_law_247 ?_
  intro r247 u247 hu247; obtain ⟨hr247, hz247, hv247⟩ := hu247
  have hr247 : r247 = -900001 := hr247.trans (e_size hv236.1 hv236.2.1.2.1 hv236.2.1.2.2)
  subst hr247
  refine J_Le (L' := [(3, .int (nI (κ.2.2.1 0))), (2, .ref (u247.1 0 0)), (0, .ref (g 10)), (1, .ref an)]) (by rw [hz247]) ?_
  refine J_ldc cx (v := (-900001)) dL_law_250 cL_30 ?_
  refine J_icmp_ne cx (tgt := 386) dL_law_252 (by decide) (fun h => absurd rfl h) (fun _ => ?_)
  refine J_aload_n cx dL_law_255 rfl 1 rfl ?_
  refine J_iconst cx (v := nI 0) dL_law_256 (by decide) ?_
  refine J_iconst cx (v := (-1)) dL_law_257 (by decide) ?_
  refine J_callHi cx kL_270 (As := [.ref (u247.1 0 0), .int (nI 0), .int (-1)]) (frI (w := iW u247.1 g κ u247.2.1 u247.2.2.1 u247.2.2.2.1 u247.2.2.2.2) (wr := [iA g an 700 N]) (W' := fun (u : UT) => wT g κ u) (W2 := fun (u : UT) => iA g an 700 N :: wT g κ u) (pm_1 _ _) (fun u => (pm_1 _ _).symm) (tL_goodChains l D g _ u247.1 κ u247.2.1 u247.2.2.1 u247.2.2.2.1 u247.2.2.2.2 (nI 0) (-1) htr hv247.1 hv247.2.1 hv247.2.2 hd)) ⟨rfl, rfl, by decide, by decide⟩ ⟨by first | decide | (show _ ≤ _; dsimp only; omega), by first | decide | (show _ ≤ _; dsimp only; omega)⟩ rfl rfl (Nat.le_of_ble_eq_true rfl) dL_law_258 ?_
  intro r258 u258 hu258; obtain ⟨hr258, hz258, hv258⟩ := hu258
  have hr258 : r258 = -900002 := hr258.trans (e_good hv247.1 hv247.2.1.2.1 h1n)
  subst hr258
  refine J_Le (L' := [(3, .int (nI (κ.2.2.1 0))), (2, .ref (u258.1 0 0)), (0, .ref (g 10)), (1, .ref an)]) (by rw [hz258]) ?_
  refine J_ldc cx (v := (-900002)) dL_law_261 cL_33 ?_
  refine J_icmp_ne cx (tgt := 386) dL_law_263 (by decide) (fun h => absurd rfl h) (fun _ => ?_)
  refine J_aload_n cx dL_law_266 rfl 1 rfl ?_
  refine J_iload_n cx dL_law_267 rfl 0 rfl ?_
  refine J_iconst cx (v := nI 1) dL_law_268 (by decide) ?_
  refine J_iconst cx (v := nI 1) dL_law_269 (by decide) ?_
  refine J_callHi cx kL_155 (As := [.ref (u258.1 0 0), .int (nI (κ.2.2.1 0)), .int (nI 1), .int (nI 1)]) (frI (w := iW u258.1 g κ u258.2.1 u258.2.2.1 u258.2.2.2.1 u258.2.2.2.2) (wr := [iA g an 700 N]) (W' := fun (u : UT) => wT g ((opIssue κ (nI (κ.2.2.1 0)) (nI 1) (nI 1)).2.2) u) (W2 := fun (u : UT) => iA g an 700 N :: wT g ((opIssue κ (nI (κ.2.2.1 0)) (nI 1) (nI 1)).2.2) u) (pm_1 _ _) (fun u => (pm_1 _ _).symm) (tL_issue l D g _ u258.1 κ u258.2.1 u258.2.2.1 u258.2.2.2.1 u258.2.2.2.2 (nI (κ.2.2.1 0)) (nI 1) (nI 1) htr hv258.1 hv258.2.1 hv258.2.2 hd)) ⟨rfl, rfl, by decide, by decide⟩ ⟨by first | decide | (show _ ≤ _; dsimp only; omega), by first | decide | (show _ ≤ _; dsimp only; omega)⟩ rfl rfl (Nat.le_of_ble_eq_true rfl) dL_law_270 ?_
  intro r270 u270 hu270; obtain ⟨hr270, hz270, hv270⟩ := hu270
  generalize hK270 : (opIssue κ (nI (κ.2.2.1 0)) (nI 1) (nI 1)).2.2 = K270 at *
  have E270 := e_issue_n hn
  have hr270 : r270 = -900001 := hr270.trans (by rw [E270]; rfl)
  have hq270 : κ = K270 := by rw [← hK270, E270]
  subst hq270
  subst hr270
  refine J_Le (L' := [(3, .int (nI (κ.2.2.1 0))), (2, .ref (u270.1 0 0)), (0, .ref (g 10)), (1, .ref an)]) (by rw [hz270]) ?_
  refine J_ldc cx (v := (-900001)) dL_law_273 cL_30 ?_
  refine J_icmp_ne cx (tgt := 386) dL_law_275 (by decide) (fun h => absurd rfl h) (fun _ => ?_)
  refine J_aload_n cx dL_law_278 rfl 1 rfl ?_
  refine J_iconst cx (v := nI 0) dL_law_279 (by decide) ?_
  refine J_bipush cx (v := nI 10) dL_law_280 (by decide) ?_
  refine J_iconst cx (v := nI 1) dL_law_282 (by decide) ?_
  refine J_callHi cx kL_155 (As := [.ref (u270.1 0 0), .int (nI 0), .int (nI 10), .int (nI 1)]) (frI (w := iW u270.1 g κ u270.2.1 u270.2.2.1 u270.2.2.2.1 u270.2.2.2.2) (wr := [iA g an 700 N]) (W' := fun (u : UT) => wT g ((opIssue κ (nI 0) (nI 10) (nI 1)).2.2) u) (W2 := fun (u : UT) => iA g an 700 N :: wT g ((opIssue κ (nI 0) (nI 10) (nI 1)).2.2) u) (pm_1 _ _) (fun u => (pm_1 _ _).symm) (tL_issue l D g _ u270.1 κ u270.2.1 u270.2.2.1 u270.2.2.2.1 u270.2.2.2.2 (nI 0) (nI 10) (nI 1) htr hv270.1 hv270.2.1 hv270.2.2 hd)) ⟨rfl, rfl, by decide, by decide⟩ ⟨by first | decide | (show _ ≤ _; dsimp only; omega), by first | decide | (show _ ≤ _; dsimp only; omega)⟩ rfl rfl (Nat.le_of_ble_eq_true rfl) dL_law_283 ?_
  intro r283 u283 hu283; obtain ⟨hr283, hz283, hv283⟩ := hu283
  generalize hK283 : (opIssue κ (nI 0) (nI 10) (nI 1)).2.2 = K283 at *
  have E283 := e_issue_0 h1n
  have hr283 : r283 = -900002 := hr283.trans (by rw [E283]; rfl)
  have hq283 : κ = K283 := by rw [← hK283, E283]
  subst hq283
  subst hr283
  refine J_Le (L' := [(3, .int (nI (κ.2.2.1 0))), (2, .ref (u283.1 0 0)), (0, .ref (g 10)), (1, .ref an)]) (by rw [hz283]) ?_
  refine J_ldc cx (v := (-900002)) dL_law_286 cL_33 ?_
  refine J_icmp_ne cx (tgt := 386) dL_law_288 (by decide) (fun h => absurd rfl h) (fun _ => ?_)
  refine J_aload_n cx dL_law_291 rfl 1 rfl ?_
  refine J_iconst cx (v := nI 0) dL_law_292 (by decide) ?_
  refine J_iconst cx (v := nI 1) dL_law_293 (by decide) ?_
  refine J_iconst cx (v := nI 1) dL_law_294 (by decide) ?_
  refine J_bipush cx (v := nI 6) dL_law_295 (by decide) ?_
  refine J_callHi cx kL_148 (As := [.ref (u283.1 0 0), .int (nI 0), .int (nI 1), .int (nI 1), .int (nI 6)]) (frI (w := iW u283.1 g κ u283.2.1 u283.2.2.1 u283.2.2.2.1 u283.2.2.2.2) (wr := [iA g an 700 N]) (W' := fun (u : UT) => wT g ((opIssueA κ (nI 0) (nI 1) (nI 1) (nI 6)).2.2) u) (W2 := fun (u : UT) => iA g an 700 N :: wT g ((opIssueA κ (nI 0) (nI 1) (nI 1) (nI 6)).2.2) u) (pm_1 _ _) (fun u => (pm_1 _ _).symm) (tL_issueAuthority l D g _ u283.1 κ u283.2.1 u283.2.2.1 u283.2.2.2.1 u283.2.2.2.2 (nI 0) (nI 1) (nI 1) (nI 6) htr hv283.1 hv283.2.1 hv283.2.2 hd)) ⟨rfl, rfl, by decide, by decide⟩ ⟨by first | decide | (show _ ≤ _; dsimp only; omega), by first | decide | (show _ ≤ _; dsimp only; omega)⟩ rfl rfl (Nat.le_of_ble_eq_true rfl) dL_law_297 ?_
  intro r297 u297 hu297; obtain ⟨hr297, hz297, hv297⟩ := hu297
  generalize hK297 : (opIssueA κ (nI 0) (nI 1) (nI 1) (nI 6)).2.2 = K297 at *
  have E297 := e_issueA h1n
  have hr297 : r297 = -900002 := hr297.trans (by rw [E297]; rfl)
  have hq297 : κ = K297 := by rw [← hK297, E297]
  subst hq297
  subst hr297
  refine J_Le (L' := [(3, .int (nI (κ.2.2.1 0))), (2, .ref (u297.1 0 0)), (0, .ref (g 10)), (1, .ref an)]) (by rw [hz297]) ?_
  refine J_ldc cx (v := (-900002)) dL_law_300 cL_33 ?_
  refine J_icmp_ne cx (tgt := 386) dL_law_302 (by decide) (fun h => absurd rfl h) (fun _ => ?_)
  refine J_aload_n cx dL_law_305 rfl 1 rfl ?_
  refine J_iconst cx (v := nI 0) dL_law_306 (by decide) ?_
  refine J_iload_n cx dL_law_307 rfl 0 rfl ?_
  refine J_iconst cx (v := nI 1) dL_law_308 (by decide) ?_
  refine J_iconst cx (v := nI 1) dL_law_309 (by decide) ?_
  refine J_callHi cx kL_157 (As := [.ref (u297.1 0 0), .int (nI 0), .int (nI (κ.2.2.1 0)), .int (nI 1), .int (nI 1)]) (frI (w := iW u297.1 g κ u297.2.1 u297.2.2.1 u297.2.2.2.1 u297.2.2.2.2) (wr := [iA g an 700 N]) (W' := fun (u : UT) => wT g ((opCross κ (nI 0) (nI (κ.2.2.1 0)) (nI 1) (nI 1)).2.2) u) (W2 := fun (u : UT) => iA g an 700 N :: wT g ((opCross κ (nI 0) (nI (κ.2.2.1 0)) (nI 1) (nI 1)).2.2) u) (pm_1 _ _) (fun u => (pm_1 _ _).symm) (tL_cross l D g _ u297.1 κ u297.2.1 u297.2.2.1 u297.2.2.2.1 u297.2.2.2.2 (nI 0) (nI (κ.2.2.1 0)) (nI 1) (nI 1) htr hv297.1 hv297.2.1 hv297.2.2 hd)) ⟨rfl, rfl, by decide, by decide⟩ ⟨by first | decide | (show _ ≤ _; dsimp only; omega), by first | decide | (show _ ≤ _; dsimp only; omega)⟩ rfl rfl (Nat.le_of_ble_eq_true rfl) dL_law_310 ?_
  intro r310 u310 hu310; obtain ⟨hr310, hz310, hv310⟩ := hu310
  generalize hK310 : (opCross κ (nI 0) (nI (κ.2.2.1 0)) (nI 1) (nI 1)).2.2 = K310 at *
  have E310 := e_cross hn
  have hr310 : r310 = -900001 := hr310.trans (by rw [E310]; rfl)
  have hq310 : κ = K310 := by rw [← hK310, E310]
  subst hq310
  subst hr310
  refine J_Le (L' := [(3, .int (nI (κ.2.2.1 0))), (2, .ref (u310.1 0 0)), (0, .ref (g 10)), (1, .ref an)]) (by rw [hz310]) ?_
  refine J_ldc cx (v := (-900001)) dL_law_313 cL_30 ?_
  refine J_icmp_ne cx (tgt := 386) dL_law_315 (by decide) (fun h => absurd rfl h) (fun _ => ?_)
  refine J_aload_n cx dL_law_318 rfl 1 rfl ?_
  refine J_iconst cx (v := nI 0) dL_law_319 (by decide) ?_
  refine J_bipush cx (v := nI 101) dL_law_320 (by decide) ?_
  refine J_iconst cx (v := nI 0) dL_law_322 (by decide) ?_
  refine J_callHi cx kL_163 (As := [.ref (u310.1 0 0), .int (nI 0), .int (nI 101), .int (nI 0)]) (frI (w := iW u310.1 g κ u310.2.1 u310.2.2.1 u310.2.2.2.1 u310.2.2.2.2) (wr := [iA g an 700 N]) (W' := fun (u : UT) => wT g ((opSetNames κ (nI 0) (nI 101) (nI 0)).2.2) u) (W2 := fun (u : UT) => iA g an 700 N :: wT g ((opSetNames κ (nI 0) (nI 101) (nI 0)).2.2) u) (pm_1 _ _) (fun u => (pm_1 _ _).symm) (tL_setNames l D g _ u310.1 κ u310.2.1 u310.2.2.1 u310.2.2.2.1 u310.2.2.2.2 (nI 0) (nI 101) (nI 0) htr hv310.1 hv310.2.1 hv310.2.2 hd)) ⟨rfl, rfl, by decide, by decide⟩ ⟨by first | decide | (show _ ≤ _; dsimp only; omega), by first | decide | (show _ ≤ _; dsimp only; omega)⟩ rfl rfl (Nat.le_of_ble_eq_true rfl) dL_law_323 ?_
  intro r323 u323 hu323; obtain ⟨hr323, hz323, hv323⟩ := hu323
  generalize hK323 : (opSetNames κ (nI 0) (nI 101) (nI 0)).2.2 = K323 at *
  have E323 := e_set h1n
  have hr323 : r323 = -900002 := hr323.trans (by rw [E323]; rfl)
  have hq323 : κ = K323 := by rw [← hK323, E323]
  subst hq323
  subst hr323
  refine J_Le (L' := [(3, .int (nI (κ.2.2.1 0))), (2, .ref (u323.1 0 0)), (0, .ref (g 10)), (1, .ref an)]) (by rw [hz323]) ?_
  refine J_ldc cx (v := (-900002)) dL_law_326 cL_33 ?_
  refine J_icmp_ne cx (tgt := 386) dL_law_328 (by decide) (fun h => absurd rfl h) (fun _ => ?_)
  refine J_aload_n cx dL_law_331 rfl 1 rfl ?_
  refine J_iconst cx (v := nI 0) dL_law_332 (by decide) ?_
  refine J_callHi cx kL_176 (As := [.ref (u323.1 0 0), .int (nI 0)]) (frI (w := iW u323.1 g κ u323.2.1 u323.2.2.1 u323.2.2.2.1 u323.2.2.2.2) (wr := [iA g an 700 N]) (W' := fun (u : UT) => wT g ((opPass κ (nI 0)).2.2) u) (W2 := fun (u : UT) => iA g an 700 N :: wT g ((opPass κ (nI 0)).2.2) u) (pm_1 _ _) (fun u => (pm_1 _ _).symm) (tL_pass l D g _ u323.1 κ u323.2.1 u323.2.2.1 u323.2.2.2.1 u323.2.2.2.2 (nI 0) htr hv323.1 hv323.2.1 hv323.2.2 hd)) ⟨rfl, rfl, by decide, by decide⟩ ⟨by first | decide | (show _ ≤ _; dsimp only; omega), by first | decide | (show _ ≤ _; dsimp only; omega)⟩ rfl rfl (Nat.le_of_ble_eq_true rfl) dL_law_333 ?_
  intro r333 u333 hu333; obtain ⟨hr333, hz333, hv333⟩ := hu333
  generalize hK333 : (opPass κ (nI 0)).2.2 = K333 at *
  have E333 := e_pass (κ := κ)
  have hr333 : r333 = -900001 := hr333.trans (by rw [E333]; rfl)
  have hq333 : κ = K333 := by rw [← hK333, E333]
  subst hq333
  subst hr333
  refine J_Le (L' := [(3, .int (nI (κ.2.2.1 0))), (2, .ref (u333.1 0 0)), (0, .ref (g 10)), (1, .ref an)]) (by rw [hz333]) ?_
  refine J_ldc cx (v := (-900001)) dL_law_336 cL_30 ?_
  refine J_icmp_ne cx (tgt := 386) dL_law_338 (by decide) (fun h => absurd rfl h) (fun _ => ?_)
  refine J_aload_n cx dL_law_341 rfl 1 rfl ?_
  refine J_iload_n cx dL_law_342 rfl 0 rfl ?_
  refine J_callHi cx kL_174 (As := [.ref (u333.1 0 0), .int (nI (κ.2.2.1 0))]) (frI (w := iW u333.1 g κ u333.2.1 u333.2.2.1 u333.2.2.2.1 u333.2.2.2.2) (wr := [iA g an 700 N]) (W' := fun (u : UT) => wT g ((opPublish κ (nI (κ.2.2.1 0))).2.2) u) (W2 := fun (u : UT) => iA g an 700 N :: wT g ((opPublish κ (nI (κ.2.2.1 0))).2.2) u) (pm_1 _ _) (fun u => (pm_1 _ _).symm) (tL_publish l D g _ u333.1 κ u333.2.1 u333.2.2.1 u333.2.2.2.1 u333.2.2.2.2 (nI (κ.2.2.1 0)) htr hv333.1 hv333.2.1 hv333.2.2 hd)) ⟨rfl, rfl, by decide, by decide⟩ ⟨by first | decide | (show _ ≤ _; dsimp only; omega), by first | decide | (show _ ≤ _; dsimp only; omega)⟩ rfl rfl (Nat.le_of_ble_eq_true rfl) dL_law_343 ?_
  intro r343 u343 hu343; obtain ⟨hr343, hz343, hv343⟩ := hu343
  generalize hK343 : (opPublish κ (nI (κ.2.2.1 0))).2.2 = K343 at *
  have E343 := e_publish hn
  have hr343 : r343 = -900001 := hr343.trans (by rw [E343]; rfl)
  have hq343 : κ = K343 := by rw [← hK343, E343]
  subst hq343
  subst hr343
  refine J_Le (L' := [(3, .int (nI (κ.2.2.1 0))), (2, .ref (u343.1 0 0)), (0, .ref (g 10)), (1, .ref an)]) (by rw [hz343]) ?_
  refine J_ldc cx (v := (-900001)) dL_law_346 cL_30 ?_
  refine J_icmp_ne cx (tgt := 386) dL_law_348 (by decide) (fun h => absurd rfl h) (fun _ => ?_)
  refine J_aload_n cx dL_law_351 rfl 1 rfl ?_
  refine J_iload_n cx dL_law_352 rfl 0 rfl ?_
  refine J_callHi cx kL_272 (As := [.ref (u343.1 0 0), .int (nI (κ.2.2.1 0))]) (frI (w := iW u343.1 g κ u343.2.1 u343.2.2.1 u343.2.2.2.1 u343.2.2.2.2) (wr := [iA g an 700 N]) (W' := fun (u : UT) => wT g κ u) (W2 := fun (u : UT) => iA g an 700 N :: wT g κ u) (pm_1 _ _) (fun u => (pm_1 _ _).symm) (tL_kindOf l D g _ u343.1 κ u343.2.1 u343.2.2.1 u343.2.2.2.1 u343.2.2.2.2 (nI (κ.2.2.1 0)) htr hv343.1 hv343.2.1 hv343.2.2 hd)) ⟨rfl, rfl, by decide, by decide⟩ ⟨by first | decide | (show _ ≤ _; dsimp only; omega), by first | decide | (show _ ≤ _; dsimp only; omega)⟩ rfl rfl (Nat.le_of_ble_eq_true rfl) dL_law_353 ?_
  intro r353 u353 hu353; obtain ⟨hr353, hz353, hv353⟩ := hu353
  have hr353 : r353 = -900001 := hr353.trans ((by rw [e_kind hn]; rfl))
  subst hr353
  refine J_Le (L' := [(3, .int (nI (κ.2.2.1 0))), (2, .ref (u353.1 0 0)), (0, .ref (g 10)), (1, .ref an)]) (by rw [hz353]) ?_
  refine J_ldc cx (v := (-900001)) dL_law_356 cL_30 ?_
  refine J_icmp_ne cx (tgt := 386) dL_law_358 (by decide) (fun h => absurd rfl h) (fun _ => ?_)
  refine J_aload_n cx dL_law_361 rfl 1 rfl ?_
  refine J_iload_n cx dL_law_362 rfl 0 rfl ?_
  refine J_iconst cx (v := nI 1) dL_law_363 (by decide) ?_
  refine J_callHi cx kL_165 (As := [.ref (u353.1 0 0), .int (nI (κ.2.2.1 0)), .int (nI 1)]) (frI (w := iW u353.1 g κ u353.2.1 u353.2.2.1 u353.2.2.2.1 u353.2.2.2.2) (wr := [iA g an 700 N]) (W' := fun (u : UT) => wT g ((opTrust κ (nI (κ.2.2.1 0)) true).2.2) u) (W2 := fun (u : UT) => iA g an 700 N :: wT g ((opTrust κ (nI (κ.2.2.1 0)) true).2.2) u) (pm_1 _ _) (fun u => (pm_1 _ _).symm) (tL_trust l D g _ u353.1 κ u353.2.1 u353.2.2.1 u353.2.2.2.1 u353.2.2.2.2 (nI (κ.2.2.1 0)) true htr hv353.1 hv353.2.1 hv353.2.2 hd)) ⟨rfl, rfl, by decide, by decide⟩ ⟨by first | decide | (show _ ≤ _; dsimp only; omega), by first | decide | (show _ ≤ _; dsimp only; omega)⟩ rfl rfl (Nat.le_of_ble_eq_true rfl) dL_law_364 ?_
  intro r364 u364 hu364; obtain ⟨hr364, hz364, hv364⟩ := hu364
  generalize hK364 : (opTrust κ (nI (κ.2.2.1 0)) true).2.2 = K364 at *
  have E364 := e_trust hn
  have hr364 : r364 = -900001 := hr364.trans (by rw [E364]; rfl)
  have hq364 : κ = K364 := by rw [← hK364, E364]
  subst hq364
  subst hr364
  refine J_Le (L' := [(3, .int (nI (κ.2.2.1 0))), (2, .ref (u364.1 0 0)), (0, .ref (g 10)), (1, .ref an)]) (by rw [hz364]) ?_
  refine J_ldc cx (v := (-900001)) dL_law_367 cL_30 ?_
  refine J_icmp_ne cx (tgt := 386) dL_law_369 (by decide) (fun h => absurd rfl h) (fun _ => ?_)
  refine J_aload_n cx dL_law_372 rfl 1 rfl ?_
  refine J_iconst cx (v := nI 0) dL_law_373 (by decide) ?_
  refine J_callHi cx kL_168 (As := [.ref (u364.1 0 0), .int (nI 0)]) (frI (w := iW u364.1 g κ u364.2.1 u364.2.2.1 u364.2.2.2.1 u364.2.2.2.2) (wr := [iA g an 700 N]) (W' := fun (u : UT) => wT g ((opRevoke κ (nI 0)).2.2) u) (W2 := fun (u : UT) => iA g an 700 N :: wT g ((opRevoke κ (nI 0)).2.2) u) (pm_1 _ _) (fun u => (pm_1 _ _).symm) (tL_revoke l D g _ u364.1 κ u364.2.1 u364.2.2.1 u364.2.2.2.1 u364.2.2.2.2 (nI 0) htr hv364.1 hv364.2.1 hv364.2.2 hd)) ⟨rfl, rfl, by decide, by decide⟩ ⟨by first | decide | (show _ ≤ _; dsimp only; omega), by first | decide | (show _ ≤ _; dsimp only; omega)⟩ rfl rfl (Nat.le_of_ble_eq_true rfl) dL_law_374 ?_
  intro r374 u374 hu374; obtain ⟨hr374, hz374, hv374⟩ := hu374
  generalize hK374 : (opRevoke κ (nI 0)).2.2 = K374 at *
  have E374 := e_revoke h1n hL.2.2.1
  have hr374 : r374 = -900002 := hr374.trans (by rw [E374]; rfl)
  have hq374 : κ = K374 := by rw [← hK374, E374]
  subst hq374
  subst hr374
  refine J_Le (L' := [(3, .int (nI (κ.2.2.1 0))), (2, .ref (u374.1 0 0)), (0, .ref (g 10)), (1, .ref an)]) (by rw [hz374]) ?_
  refine J_ldc cx (v := (-900002)) dL_law_377 cL_33 ?_
  refine J_icmp_ne cx (tgt := 386) dL_law_379 (by decide) (fun h => absurd rfl h) (fun _ => ?_)
  refine J_iconst cx (v := nI 1) dL_law_382 (by decide) ?_
  refine J_goto cx (tgt := 387) dL_law_383 (by decide) ?_
  refine J_widen (k := 600312) (n := 7292577) (by decide) (by decide) ?_
  exact hE _ _
set_option maxHeartbeats 4000000 in
set_option maxRecDepth 100000 in
theorem lw_d {p : Program} {l : Launch} {e : Env} {s : State} {m : MethodId} {args : Array Value} {below : List Frame} {meth : Method} {c : Code} {D : va_G} {g : Nat → ClassId} {A : Nat → Prop} {an : Nat} {Q : State → Prop} {rt9 : Option FieldType} {N : Nat → Int32} {ad : Nat → Nat → Nat} {κ : CS} {X : XT} {cs : Nat → CT} {lf : Nat → Int64} {pr : PT} (htr : l.stackTraces = false) (hV : IV κ X) (hw : WV κ cs) (hk : κ.2.2.1 1 ≤ κ.2.2.1 0) (hL : LAW N κ) (hd : κ.2.2.1 2 + 999 < 2147483648) (hE : ∀ (ws : va_W) (L : List (Nat × Value)), J p l e ({ frames := 2048, cells := 600312, slots := 7292577, locals := 94400 } : Room) s m args below meth c D A 7 Q 600312 7292577 ws L 387 [.int (nI 1)]) (cx : CX p l s m args meth c RL cL_law rt9 7 D g A) : J p l e ({ frames := 2048, cells := 600312, slots := 7292577, locals := 94400 } : Room) s m args below meth c D A 7 Q 4300 38600 (iA g an 700 N :: iW ad g κ X cs lf pr) [(2, .ref (ad 0 0)), (0, .ref (g 10)), (1, .ref an)] 189 [] := by
  have h1n := hL.2.1
  have hn := hV.1.1
  have hN := hL.1
  refine J_iconst cx (v := nI 0) dL_law_189 (by decide) ?_
  refine J_istore_n cx (L' := [(3, .int (nI 0)), (2, .ref (ad 0 0)), (0, .ref (g 10)), (1, .ref an)]) dL_law_190 rfl (by decide) rfl ?_
  have LC : ∀ (fu : Nat) (k : Nat) (a9 : Nat → Nat → Nat) (X9 : XT) (c9 : Nat → CT) (l9 : Nat → Int64) (p9 : PT), (k ≤ κ.2.2.1 0) → (IV κ X9) → (WV κ c9) → κ.2.2.1 0 - k < fu → J p l e ({ frames := 2048, cells := 600312, slots := 7292577, locals := 94400 } : Room) s m args below meth c D A 7 Q (4300 + 70 * k) (38600 + 420 * k) (iA g an 700 N :: iW a9 g κ X9 c9 l9 p9) [(3, .int (nI k)), (2, .ref (a9 0 0)), (0, .ref (g 10)), (1, .ref an)] 191 [] := by
    intro fu; induction fu with
    | zero => intro k a9 X9 c9 l9 p9 hkk hV9 hw9 hfu; exact absurd hfu (Nat.not_lt_zero _)
    | succ fu ih =>
      intro k a9 X9 c9 l9 p9 hkk hV9 hw9 hfu
      refine J_iload_n cx dL_law_191 rfl 0 rfl ?_
      refine J_aload_n cx dL_law_192 rfl 3 rfl ?_
      refine J_iconst cx (v := nI 0) dL_law_193 (by decide) ?_
      refine J_iald cx (j := 0) (f := N) 0 rfl rfl (by omega) (by decide) dL_law_194 ?_
      refine J_top (v' := .int (nI (κ.2.2.1 0))) (congrArg Value.int hN.n0) ?_
      refine J_icmp_ge cx (tgt := 218) dL_law_195 (by decide) (fun c_1 => ?_) (fun c_1 => ?_)
      · have c_1 := (nat_ic_ge (by omega) (by omega)).mp c_1
        have c_1d := decide_eq_true c_1
        refine J_L [1, 2, 3] rfl ?_
        refine J_widen (k := 7200) (n := 56000) (by omega) (by omega) ?_
        exact lw_e htr hV9 hw9 hk hL hd hE cx
      · have c_1 := (nat_ic_ge_f (by omega) (by omega)).mp c_1
        have c_1d := decide_eq_false (Nat.not_le.mpr c_1)
        refine J_aload_n cx dL_law_198 rfl 1 rfl ?_
        refine J_aload_n cx dL_law_199 rfl 3 rfl ?_
        refine J_iload_n cx dL_law_200 rfl 0 rfl ?_
        refine J_aload_n cx dL_law_201 rfl 3 rfl ?_
        refine J_iconst cx (v := nI 2) dL_law_202 (by decide) ?_
        refine J_iald cx (j := 2) (f := N) 0 rfl rfl (by omega) (by decide) dL_law_203 ?_
        refine J_top (v' := .int (nI (κ.2.2.1 2))) (congrArg Value.int hN.n2) ?_
        refine J_callSi cx kL_260 (As := [.ref (a9 0 0), .ref an, .int (nI k), .int (nI (κ.2.2.1 2))]) (tL_isWell l D g A an N κ (a9, X9, c9, l9, p9) (a9 0 0) k (κ.2.2.1 2) htr ⟨hV9, hw9, hk⟩ rfl (by omega) hL.1 (by omega) (by omega)) ⟨rfl, rfl, by decide, by decide⟩ ⟨by first | decide | (show _ ≤ _; dsimp only; omega), by first | decide | (show _ ≤ _; dsimp only; omega)⟩ rfl rfl (Nat.le_of_ble_eq_true rfl) dL_law_204 ?_
        intro r204 ut204 hu204
        obtain ⟨a204, X204, c204, l204, p204⟩ := ut204
        obtain ⟨hr204, hz204, ⟨hV204, hw204, hk204⟩⟩ := hu204
        subst hr204
        have hz204 : a204 0 0 = a9 0 0 := hz204
        refine J_ws (ws' := (iA g an 700 N :: iW a204 g κ X204 c204 l204 p204)) rfl ?_
        refine J_Le (L' := [(3, .int (nI k)), (2, .ref (a204 0 0)), (0, .ref (g 10)), (1, .ref an)]) (by rw [hz204]) ?_
        refine J_if_ne cx (tgt := 212) dL_law_207 (by decide) (fun _ => ?_) (fun h => absurd h (by decide))
        refine J_iinc cx (v := (nI (k + 1))) (L' := [(3, .int (nI (k + 1))), (2, .ref (a204 0 0)), (0, .ref (g 10)), (1, .ref an)]) dL_law_212 0 rfl (by exact nI_add k 1) (by decide) rfl ?_
        refine J_goto cx (tgt := 191) dL_law_215 (by decide) ?_
        refine J_L [0, 1, 2, 3] rfl ?_
        refine J_widen (k := 4300 + 70 * (k + 1)) (n := 38600 + 420 * (k + 1)) (by omega) (by omega) ?_
        exact ih (k + 1) _ _ _ _ _ (by omega) hV204 hw204 (by omega)
  refine J_L [0, 1, 2, 3] rfl ?_
  refine J_widen (k := 4300 + 70 * 0) (n := 38600 + 420 * 0) (by omega) (by omega) ?_
  exact LC _ 0 _ _ _ _ _ (Nat.zero_le _) hV hw (Nat.lt_succ_self _)
set_option maxHeartbeats 4000000 in
set_option maxRecDepth 100000 in
theorem lw_c {p : Program} {l : Launch} {e : Env} {s : State} {m : MethodId} {args : Array Value} {below : List Frame} {meth : Method} {c : Code} {D : va_G} {g : Nat → ClassId} {A : Nat → Prop} {an : Nat} {Q : State → Prop} {rt9 : Option FieldType} {N : Nat → Int32} {ad : Nat → Nat → Nat} {κ : CS} {X : XT} {cs : Nat → CT} {lf : Nat → Int64} {pr : PT} (htr : l.stackTraces = false) (hV : IV κ X) (hw : WV κ cs) (hk : κ.2.2.1 1 ≤ κ.2.2.1 0) (hL : LAW N κ) (hd : κ.2.2.1 2 ≤ 20000) (hE : ∀ (ws : va_W) (L : List (Nat × Value)), J p l e ({ frames := 2048, cells := 600312, slots := 7292577, locals := 94400 } : Room) s m args below meth c D A 7 Q 600312 7292577 ws L 387 [.int (nI 1)]) (cx : CX p l s m args meth c RL cL_law rt9 7 D g A) : J p l e ({ frames := 2048, cells := 600312, slots := 7292577, locals := 94400 } : Room) s m args below meth c D A 7 Q 200 2500 (iA g an 700 N :: iW ad g κ X cs lf pr) [(2, .ref (ad 0 0)), (0, .ref (g 10)), (1, .ref an)] 54 [] := by
  refine J_iconst cx (v := nI 0) dL_law_54 (by decide) ?_
  refine J_istore_n cx (L' := [(3, .int (nI 0)), (2, .ref (ad 0 0)), (0, .ref (g 10)), (1, .ref an)]) dL_law_55 rfl (by decide) rfl ?_
  have LL : ∀ (fu : Nat) (k : Nat) (M : Nat → Int32) (a9 : Nat → Nat → Nat) (K9 : CS) (X9 : XT) (c9 : Nat → CT) (l9 : Nat → Int64) (p9 : PT), (k ≤ 24) → (IV K9 X9) → (WV K9 c9) → (K9.2.2.1 1 ≤ K9.2.2.1 0) → (LAW M K9) → (K9.2.2.1 2 ≤ 20000 + 1000 * k) → 24 - k < fu → J p l e ({ frames := 2048, cells := 600312, slots := 7292577, locals := 94400 } : Room) s m args below meth c D A 7 Q (200 + 170 * k) (2500 + 1500 * k) (iA g an 700 M :: iW a9 g K9 X9 c9 l9 p9) [(3, .int (nI k)), (2, .ref (a9 0 0)), (0, .ref (g 10)), (1, .ref an)] 56 [] := by
    intro fu; induction fu with
    | zero => intro k M a9 K9 X9 c9 l9 p9 hkk hV9 hw9 hk9 hL9 hd9 hfu; exact absurd hfu (Nat.not_lt_zero _)
    | succ fu ih =>
      intro k M a9 K9 X9 c9 l9 p9 hkk hV9 hw9 hk9 hL9 hd9 hfu
      refine J_iload_n cx dL_law_56 rfl 0 rfl ?_
      refine J_bipush cx (v := nI 24) dL_law_57 (by decide) ?_
      refine J_icmp_ge cx (tgt := 189) dL_law_59 (by decide) (fun c_1 => ?_) (fun c_1 => ?_)
      · have c_1 := (nat_ic_ge (by omega) (by omega)).mp c_1
        have c_1d := decide_eq_true c_1
        refine J_L [1, 2, 3] rfl ?_
        refine J_widen (k := 4300) (n := 38600) (by omega) (by omega) ?_
        exact lw_d htr hV9 hw9 hk9 hL9 (by omega) hE cx
      · have c_1 := (nat_ic_ge_f (by omega) (by omega)).mp c_1
        have c_1d := decide_eq_false (Nat.not_le.mpr c_1)
        refine J_bipush cx (v := nI 120) dL_law_62 (by decide) ?_
        refine J_bipush cx (v := nI 12) dL_law_64 (by decide) ?_
        refine J_iload_n cx dL_law_66 rfl 0 rfl ?_
        refine J_imul cx dL_law_67 ?_
        refine J_top (v' := .int (nI (12 * k))) (congrArg Value.int (pk_mul 12 k)) ?_
        refine J_iadd cx dL_law_68 ?_
        refine J_top (v' := .int (nI (120 + (12 * k)))) (congrArg Value.int (nI_add 120 (12 * k))) ?_
        refine J_istore cx (L' := [(4, .int (nI (120 + (12 * k)))), (3, .int (nI k)), (2, .ref (a9 0 0)), (0, .ref (g 10)), (1, .ref an)]) dL_law_69 (by decide) rfl ?_
        refine J_aload_n cx dL_law_71 rfl 3 rfl ?_
        refine J_iload cx dL_law_72 0 rfl ?_
        refine J_bipush cx (v := nI 11) dL_law_74 (by decide) ?_
        refine J_iadd cx dL_law_76 ?_
        refine J_top (v' := .int (nI ((120 + (12 * k)) + 11))) (congrArg Value.int (nI_add (120 + (12 * k)) 11)) ?_
        refine J_bipush cx (v := nI 6) dL_law_77 (by decide) ?_
        refine J_callSi cx kL_101 (As := [.ref (g 10), .int (nI ((120 + (12 * k)) + 11)), .int (nI 6)]) (tL_in l D g A (iA g an 700 M :: iW a9 g K9 X9 c9 l9 p9) ((120 + (12 * k)) + 11) 6 (by omega) (by omega) (by omega)) ⟨rfl, rfl, by decide, by decide⟩ ⟨by first | decide | (show _ ≤ _; dsimp only; omega), by first | decide | (show _ ≤ _; dsimp only; omega)⟩ rfl rfl (Nat.le_of_ble_eq_true rfl) dL_law_79 ?_
        intro _ _ hr; cases hr
        have hin_2 := inN_lt (g := g) (i := ((120 + (12 * k)) + 11)) (n := 6) (by omega)
        generalize hg_ac : inN g ((120 + (12 * k)) + 11) 6 = ac at *
        have hac : ac < 6 := by assumption
        refine J_istore cx (L' := [(5, .int (nI ac)), (4, .int (nI (120 + (12 * k)))), (3, .int (nI k)), (2, .ref (a9 0 0)), (0, .ref (g 10)), (1, .ref an)]) dL_law_82 (by decide) rfl ?_
        refine J_iload cx dL_law_84 0 rfl ?_
        refine J_iconst cx (v := nI 2) dL_law_86 (by decide) ?_
        refine J_icmp_ge cx (tgt := 101) dL_law_87 (by decide) (fun c_3 => ?_) (fun c_3 => ?_)
        · have c_3 := (nat_ic_ge (by omega) (by omega)).mp c_3
          have c_3d := decide_eq_true c_3
          refine J_iload cx dL_law_101 0 rfl ?_
          refine J_iconst cx (v := nI 2) dL_law_103 (by decide) ?_
          refine J_icmp_ne cx (tgt := 118) dL_law_104 (by decide) (fun c_4 => ?_) (fun c_4 => ?_)
          · have c_4 := (nat_ic_ne (by omega) (by omega)).mp c_4
            have c_4d := decide_eq_false c_4
            refine J_aload_n cx dL_law_118 rfl 3 rfl ?_
            refine J_aload_n cx dL_law_119 rfl 5 rfl ?_
            refine J_aload_n cx dL_law_120 rfl 4 rfl ?_
            refine J_iload cx dL_law_121 1 rfl ?_
            refine J_callSi cx kL_252 (As := [.ref (a9 0 0), .ref an, .ref (g 10), .int (nI (120 + (12 * k)))]) (tL_isWalked l D g A an M a9 K9 X9 c9 l9 p9 (120 + (12 * k)) htr hV9 hw9 hk9 (by omega) hL9 (by omega)) ⟨rfl, rfl, by decide, by decide⟩ ⟨by first | decide | (show _ ≤ _; dsimp only; omega), by first | decide | (show _ ≤ _; dsimp only; omega)⟩ rfl rfl (Nat.le_of_ble_eq_true rfl) dL_law_123 ?_
            intro r123 ut123 hu123
            obtain ⟨M123, K123, a123, X123, c123, l123, p123⟩ := ut123
            obtain ⟨hr123, hz123, ⟨⟨hV123, hw123, hk123⟩, hL123⟩, hdy123⟩ := hu123
            subst hr123
            have hz123 : a123 0 = a9 0 := hz123
            have hdy123 : K123.2.2.1 2 ≤ K9.2.2.1 2 + 999 := hdy123
            refine J_ws (ws' := (iA g an 700 M123 :: iW a123 g K123 X123 c123 l123 p123)) rfl ?_
            refine J_Le (L' := [(5, .int (nI ac)), (4, .int (nI (120 + (12 * k)))), (3, .int (nI k)), (2, .ref (a123 0 0)), (0, .ref (g 10)), (1, .ref an)]) (by rw [hz123]) ?_
            have h1n : 1 ≤ K123.2.2.1 0 := hL123.2.1
            have hnn : K123.2.2.1 0 ≤ 40 := hV123.1.1
            have hL123 : LAW M123 K123 := hL123
            refine J_istore cx (L' := [(6, .int (nI 1)), (5, .int (nI ac)), (4, .int (nI (120 + (12 * k)))), (3, .int (nI k)), (2, .ref (a123 0 0)), (0, .ref (g 10)), (1, .ref an)]) dL_law_126 (by decide) rfl ?_
            refine J_iload cx dL_law_128 0 rfl ?_
            refine J_if_eq cx (tgt := 181) dL_law_130 (by decide) (fun h => absurd h (by decide)) (fun _ => ?_)
            refine J_aload_n cx dL_law_133 rfl 4 rfl ?_
            refine J_aload_n cx dL_law_134 rfl 6 rfl ?_
            refine J_aload_n cx dL_law_135 rfl 5 rfl ?_
            refine J_iload cx dL_law_136 2 rfl ?_
            refine J_bipush cx (v := nI 8) dL_law_138 (by decide) ?_
            refine J_iadd cx dL_law_140 ?_
            refine J_top (v' := .int (nI ((120 + (12 * k)) + 8))) (congrArg Value.int (nI_add (120 + (12 * k)) 8)) ?_
            refine J_aload_n cx dL_law_141 rfl 6 rfl ?_
            refine J_iconst cx (v := nI 0) dL_law_142 (by decide) ?_
            refine J_iald cx (j := 0) (f := M123) 0 rfl rfl (by omega) (by decide) dL_law_143 ?_
            refine J_top (v' := .int (nI (K123.2.2.1 0))) (congrArg Value.int hL123.1.n0) ?_
            refine J_callSi cx kL_101 (As := [.ref (g 10), .int (nI ((120 + (12 * k)) + 8)), .int (nI (K123.2.2.1 0))]) (tL_in l D g A (iA g an 700 M123 :: iW a123 g K123 X123 c123 l123 p123) ((120 + (12 * k)) + 8) (K123.2.2.1 0) (by omega) (by omega) (by omega)) ⟨rfl, rfl, by decide, by decide⟩ ⟨by first | decide | (show _ ≤ _; dsimp only; omega), by first | decide | (show _ ≤ _; dsimp only; omega)⟩ rfl rfl (Nat.le_of_ble_eq_true rfl) dL_law_144 ?_
            intro _ _ hr; cases hr
            have hin_6 := inN_lt (g := g) (i := ((120 + (12 * k)) + 8)) (n := (K123.2.2.1 0)) (by omega)
            generalize hg_ci : inN g ((120 + (12 * k)) + 8) (K123.2.2.1 0) = ci at *
            have hci : ci < K123.2.2.1 0 := by assumption
            refine J_iconst cx (v := nI 0) dL_law_147 (by decide) ?_
            refine J_aload_n cx dL_law_148 rfl 6 rfl ?_
            refine J_iconst cx (v := nI 2) dL_law_149 (by decide) ?_
            refine J_iald cx (j := 2) (f := M123) 0 rfl rfl (by omega) (by decide) dL_law_150 ?_
            refine J_top (v' := .int (nI (K123.2.2.1 2))) (congrArg Value.int hL123.1.n2) ?_
            refine J_aload_n cx dL_law_151 rfl 5 rfl ?_
            refine J_iload cx dL_law_152 2 rfl ?_
            refine J_bipush cx (v := nI 9) dL_law_154 (by decide) ?_
            refine J_iadd cx dL_law_156 ?_
            refine J_top (v' := .int (nI ((120 + (12 * k)) + 9))) (congrArg Value.int (nI_add (120 + (12 * k)) 9)) ?_
            refine J_iconst cx (v := nI 5) dL_law_157 (by decide) ?_
            refine J_callSi cx kL_101 (As := [.ref (g 10), .int (nI ((120 + (12 * k)) + 9)), .int (nI 5)]) (tL_in l D g A (iA g an 700 M123 :: iW a123 g K123 X123 c123 l123 p123) ((120 + (12 * k)) + 9) 5 (by omega) (by omega) (by omega)) ⟨rfl, rfl, by decide, by decide⟩ ⟨by first | decide | (show _ ≤ _; dsimp only; omega), by first | decide | (show _ ≤ _; dsimp only; omega)⟩ rfl rfl (Nat.le_of_ble_eq_true rfl) dL_law_158 ?_
            intro _ _ hr; cases hr
            have hin_7 := inN_lt (g := g) (i := ((120 + (12 * k)) + 9)) (n := 5) (by omega)
            generalize hg_oq : inN g ((120 + (12 * k)) + 9) 5 = oq at *
            have hoq : oq < 5 := by assumption
            refine J_iadd cx dL_law_161 ?_
            refine J_top (v' := .int (nI ((K123.2.2.1 2) + oq))) (congrArg Value.int (nI_add (K123.2.2.1 2) oq)) ?_
            obtain ⟨s9, hs9⟩ : ∃ s9, K123.2.2.1 2 + oq = s9 := ⟨_, rfl⟩
            rw [hs9]
            refine J_iconst cx (v := nI 2) dL_law_162 (by decide) ?_
            refine J_isub cx dL_law_163 ?_
            refine J_mmax cx mxW ⟨by decide, Nat.le_of_ble_eq_true rfl⟩ ⟨by first | decide | (show _ ≤ _; dsimp only; omega), by first | decide | (show _ ≤ _; dsimp only; omega)⟩ dL_law_164 ?_
            refine J_top (v' := .int (nI (s9 - 2))) (congrArg Value.int (mx_e (by omega))) ?_
            refine J_callSi cx kL_260 (As := [.ref (a123 0 0), .ref an, .int (nI ci), .int (nI (s9 - 2))]) (tL_isWell l D g A an M123 K123 (a123, X123, c123, l123, p123) (a123 0 0) ci (s9 - 2) htr ⟨hV123, hw123, hk123⟩ rfl (by omega) hL123.1 (by omega) (by omega)) ⟨rfl, rfl, by decide, by decide⟩ ⟨by first | decide | (show _ ≤ _; dsimp only; omega), by first | decide | (show _ ≤ _; dsimp only; omega)⟩ rfl rfl (Nat.le_of_ble_eq_true rfl) dL_law_167 ?_
            intro r167 ut167 hu167
            obtain ⟨a167, X167, c167, l167, p167⟩ := ut167
            obtain ⟨hr167, hz167, ⟨hV167, hw167, hk167⟩⟩ := hu167
            subst hr167
            have hz167 : a167 0 0 = a123 0 0 := hz167
            refine J_ws (ws' := (iA g an 700 M123 :: iW a167 g K123 X167 c167 l167 p167)) rfl ?_
            refine J_Le (L' := [(6, .int (nI 1)), (5, .int (nI ac)), (4, .int (nI (120 + (12 * k)))), (3, .int (nI k)), (2, .ref (a167 0 0)), (0, .ref (g 10)), (1, .ref an)]) (by rw [hz167]) ?_
            refine J_if_eq cx (tgt := 181) dL_law_170 (by decide) (fun h => absurd h (by decide)) (fun _ => ?_)
            refine J_aload_n cx dL_law_173 rfl 4 rfl ?_
            refine J_aload_n cx dL_law_174 rfl 6 rfl ?_
            refine J_callSi cx kL_264 (As := [.ref (a167 0 0), .ref an]) (tL_isTold l D g A an M123 K123 (a167, X167, c167, l167, p167) (a167 0 0)  htr ⟨hV167, hw167, hk167⟩ rfl (by omega) hL123.1 hL123.2.1) ⟨rfl, rfl, by decide, by decide⟩ ⟨by first | decide | (show _ ≤ _; dsimp only; omega), by first | decide | (show _ ≤ _; dsimp only; omega)⟩ rfl rfl (Nat.le_of_ble_eq_true rfl) dL_law_175 ?_
            intro r175 ut175 hu175
            obtain ⟨a175, X175, c175, l175, p175⟩ := ut175
            obtain ⟨hr175, hz175, ⟨hV175, hw175, hk175⟩⟩ := hu175
            subst hr175
            have hz175 : a175 0 0 = a167 0 0 := hz175
            refine J_ws (ws' := (iA g an 700 M123 :: iW a175 g K123 X175 c175 l175 p175)) rfl ?_
            refine J_Le (L' := [(6, .int (nI 1)), (5, .int (nI ac)), (4, .int (nI (120 + (12 * k)))), (3, .int (nI k)), (2, .ref (a175 0 0)), (0, .ref (g 10)), (1, .ref an)]) (by rw [hz175]) ?_
            refine J_if_ne cx (tgt := 183) dL_law_178 (by decide) (fun _ => ?_) (fun h => absurd h (by decide))
            refine J_iinc cx (v := (nI (k + 1))) (L' := [(3, .int (nI (k + 1))), (6, .int (nI 1)), (5, .int (nI ac)), (4, .int (nI (120 + (12 * k)))), (2, .ref (a175 0 0)), (0, .ref (g 10)), (1, .ref an)]) dL_law_183 3 rfl (by exact nI_add k 1) (by decide) rfl ?_
            refine J_goto cx (tgt := 56) dL_law_186 (by decide) ?_
            refine J_L [0, 4, 5, 6] rfl ?_
            refine J_widen (k := 200 + 170 * (k + 1)) (n := 2500 + 1500 * (k + 1)) (by omega) (by omega) ?_
            exact ih (k + 1) M123 a175 K123 X175 c175 l175 p175 (by omega) hV175 hw175 hk175 hL123 (by omega) (by omega)
          · have c_4 := (nat_ic_ne_f (by omega) (by omega)).mp c_4
            have c_4d := decide_eq_true c_4
            refine J_aload_n cx dL_law_107 rfl 3 rfl ?_
            refine J_aload_n cx dL_law_108 rfl 5 rfl ?_
            refine J_aload_n cx dL_law_109 rfl 4 rfl ?_
            refine J_iload cx dL_law_110 1 rfl ?_
            refine J_callSi cx kL_183 (As := [.ref (a9 0 0), .ref an, .ref (g 10), .int (nI (120 + (12 * k)))]) (tL_isKept l D g A an M a9 K9 X9 c9 l9 p9 (120 + (12 * k)) htr hV9 hw9 hk9 (by omega) hL9 (by omega)) ⟨rfl, rfl, by decide, by decide⟩ ⟨by first | decide | (show _ ≤ _; dsimp only; omega), by first | decide | (show _ ≤ _; dsimp only; omega)⟩ rfl rfl (Nat.le_of_ble_eq_true rfl) dL_law_112 ?_
            intro r112 ut112 hu112
            obtain ⟨M112, K112, a112, X112, c112, l112, p112⟩ := ut112
            obtain ⟨hr112, hz112, ⟨⟨hV112, hw112, hk112⟩, hL112⟩, hdy112⟩ := hu112
            subst hr112
            have hz112 : a112 0 = a9 0 := hz112
            have hdy112 : K112.2.2.1 2 ≤ K9.2.2.1 2 + 999 := hdy112
            refine J_ws (ws' := (iA g an 700 M112 :: iW a112 g K112 X112 c112 l112 p112)) rfl ?_
            refine J_goto cx (tgt := 126) dL_law_115 (by decide) ?_
            refine J_Le (L' := [(5, .int (nI ac)), (4, .int (nI (120 + (12 * k)))), (3, .int (nI k)), (2, .ref (a112 0 0)), (0, .ref (g 10)), (1, .ref an)]) (by rw [hz112]) ?_
            have h1n : 1 ≤ K112.2.2.1 0 := hL112.2.1
            have hnn : K112.2.2.1 0 ≤ 40 := hV112.1.1
            have hL112 : LAW M112 K112 := hL112
            refine J_istore cx (L' := [(6, .int (nI 1)), (5, .int (nI ac)), (4, .int (nI (120 + (12 * k)))), (3, .int (nI k)), (2, .ref (a112 0 0)), (0, .ref (g 10)), (1, .ref an)]) dL_law_126 (by decide) rfl ?_
            refine J_iload cx dL_law_128 0 rfl ?_
            refine J_if_eq cx (tgt := 181) dL_law_130 (by decide) (fun h => absurd h (by decide)) (fun _ => ?_)
            refine J_aload_n cx dL_law_133 rfl 4 rfl ?_
            refine J_aload_n cx dL_law_134 rfl 6 rfl ?_
            refine J_aload_n cx dL_law_135 rfl 5 rfl ?_
            refine J_iload cx dL_law_136 2 rfl ?_
            refine J_bipush cx (v := nI 8) dL_law_138 (by decide) ?_
            refine J_iadd cx dL_law_140 ?_
            refine J_top (v' := .int (nI ((120 + (12 * k)) + 8))) (congrArg Value.int (nI_add (120 + (12 * k)) 8)) ?_
            refine J_aload_n cx dL_law_141 rfl 6 rfl ?_
            refine J_iconst cx (v := nI 0) dL_law_142 (by decide) ?_
            refine J_iald cx (j := 0) (f := M112) 0 rfl rfl (by omega) (by decide) dL_law_143 ?_
            refine J_top (v' := .int (nI (K112.2.2.1 0))) (congrArg Value.int hL112.1.n0) ?_
            refine J_callSi cx kL_101 (As := [.ref (g 10), .int (nI ((120 + (12 * k)) + 8)), .int (nI (K112.2.2.1 0))]) (tL_in l D g A (iA g an 700 M112 :: iW a112 g K112 X112 c112 l112 p112) ((120 + (12 * k)) + 8) (K112.2.2.1 0) (by omega) (by omega) (by omega)) ⟨rfl, rfl, by decide, by decide⟩ ⟨by first | decide | (show _ ≤ _; dsimp only; omega), by first | decide | (show _ ≤ _; dsimp only; omega)⟩ rfl rfl (Nat.le_of_ble_eq_true rfl) dL_law_144 ?_
            intro _ _ hr; cases hr
            have hin_11 := inN_lt (g := g) (i := ((120 + (12 * k)) + 8)) (n := (K112.2.2.1 0)) (by omega)
            generalize hg_ci : inN g ((120 + (12 * k)) + 8) (K112.2.2.1 0) = ci at *
            have hci : ci < K112.2.2.1 0 := by assumption
            refine J_iconst cx (v := nI 0) dL_law_147 (by decide) ?_
            refine J_aload_n cx dL_law_148 rfl 6 rfl ?_
            refine J_iconst cx (v := nI 2) dL_law_149 (by decide) ?_
            refine J_iald cx (j := 2) (f := M112) 0 rfl rfl (by omega) (by decide) dL_law_150 ?_
            refine J_top (v' := .int (nI (K112.2.2.1 2))) (congrArg Value.int hL112.1.n2) ?_
            refine J_aload_n cx dL_law_151 rfl 5 rfl ?_
            refine J_iload cx dL_law_152 2 rfl ?_
            refine J_bipush cx (v := nI 9) dL_law_154 (by decide) ?_
            refine J_iadd cx dL_law_156 ?_
            refine J_top (v' := .int (nI ((120 + (12 * k)) + 9))) (congrArg Value.int (nI_add (120 + (12 * k)) 9)) ?_
            refine J_iconst cx (v := nI 5) dL_law_157 (by decide) ?_
            refine J_callSi cx kL_101 (As := [.ref (g 10), .int (nI ((120 + (12 * k)) + 9)), .int (nI 5)]) (tL_in l D g A (iA g an 700 M112 :: iW a112 g K112 X112 c112 l112 p112) ((120 + (12 * k)) + 9) 5 (by omega) (by omega) (by omega)) ⟨rfl, rfl, by decide, by decide⟩ ⟨by first | decide | (show _ ≤ _; dsimp only; omega), by first | decide | (show _ ≤ _; dsimp only; omega)⟩ rfl rfl (Nat.le_of_ble_eq_true rfl) dL_law_158 ?_
            intro _ _ hr; cases hr
            have hin_12 := inN_lt (g := g) (i := ((120 + (12 * k)) + 9)) (n := 5) (by omega)
            generalize hg_oq : inN g ((120 + (12 * k)) + 9) 5 = oq at *
            have hoq : oq < 5 := by assumption
            refine J_iadd cx dL_law_161 ?_
            refine J_top (v' := .int (nI ((K112.2.2.1 2) + oq))) (congrArg Value.int (nI_add (K112.2.2.1 2) oq)) ?_
            obtain ⟨s9, hs9⟩ : ∃ s9, K112.2.2.1 2 + oq = s9 := ⟨_, rfl⟩
            rw [hs9]
            refine J_iconst cx (v := nI 2) dL_law_162 (by decide) ?_
            refine J_isub cx dL_law_163 ?_
            refine J_mmax cx mxW ⟨by decide, Nat.le_of_ble_eq_true rfl⟩ ⟨by first | decide | (show _ ≤ _; dsimp only; omega), by first | decide | (show _ ≤ _; dsimp only; omega)⟩ dL_law_164 ?_
            refine J_top (v' := .int (nI (s9 - 2))) (congrArg Value.int (mx_e (by omega))) ?_
            refine J_callSi cx kL_260 (As := [.ref (a112 0 0), .ref an, .int (nI ci), .int (nI (s9 - 2))]) (tL_isWell l D g A an M112 K112 (a112, X112, c112, l112, p112) (a112 0 0) ci (s9 - 2) htr ⟨hV112, hw112, hk112⟩ rfl (by omega) hL112.1 (by omega) (by omega)) ⟨rfl, rfl, by decide, by decide⟩ ⟨by first | decide | (show _ ≤ _; dsimp only; omega), by first | decide | (show _ ≤ _; dsimp only; omega)⟩ rfl rfl (Nat.le_of_ble_eq_true rfl) dL_law_167 ?_
            intro r167 ut167 hu167
            obtain ⟨a167, X167, c167, l167, p167⟩ := ut167
            obtain ⟨hr167, hz167, ⟨hV167, hw167, hk167⟩⟩ := hu167
            subst hr167
            have hz167 : a167 0 0 = a112 0 0 := hz167
            refine J_ws (ws' := (iA g an 700 M112 :: iW a167 g K112 X167 c167 l167 p167)) rfl ?_
            refine J_Le (L' := [(6, .int (nI 1)), (5, .int (nI ac)), (4, .int (nI (120 + (12 * k)))), (3, .int (nI k)), (2, .ref (a167 0 0)), (0, .ref (g 10)), (1, .ref an)]) (by rw [hz167]) ?_
            refine J_if_eq cx (tgt := 181) dL_law_170 (by decide) (fun h => absurd h (by decide)) (fun _ => ?_)
            refine J_aload_n cx dL_law_173 rfl 4 rfl ?_
            refine J_aload_n cx dL_law_174 rfl 6 rfl ?_
            refine J_callSi cx kL_264 (As := [.ref (a167 0 0), .ref an]) (tL_isTold l D g A an M112 K112 (a167, X167, c167, l167, p167) (a167 0 0)  htr ⟨hV167, hw167, hk167⟩ rfl (by omega) hL112.1 hL112.2.1) ⟨rfl, rfl, by decide, by decide⟩ ⟨by first | decide | (show _ ≤ _; dsimp only; omega), by first | decide | (show _ ≤ _; dsimp only; omega)⟩ rfl rfl (Nat.le_of_ble_eq_true rfl) dL_law_175 ?_
            intro r175 ut175 hu175
            obtain ⟨a175, X175, c175, l175, p175⟩ := ut175
            obtain ⟨hr175, hz175, ⟨hV175, hw175, hk175⟩⟩ := hu175
            subst hr175
            have hz175 : a175 0 0 = a167 0 0 := hz175
            refine J_ws (ws' := (iA g an 700 M112 :: iW a175 g K112 X175 c175 l175 p175)) rfl ?_
            refine J_Le (L' := [(6, .int (nI 1)), (5, .int (nI ac)), (4, .int (nI (120 + (12 * k)))), (3, .int (nI k)), (2, .ref (a175 0 0)), (0, .ref (g 10)), (1, .ref an)]) (by rw [hz175]) ?_
            refine J_if_ne cx (tgt := 183) dL_law_178 (by decide) (fun _ => ?_) (fun h => absurd h (by decide))
            refine J_iinc cx (v := (nI (k + 1))) (L' := [(3, .int (nI (k + 1))), (6, .int (nI 1)), (5, .int (nI ac)), (4, .int (nI (120 + (12 * k)))), (2, .ref (a175 0 0)), (0, .ref (g 10)), (1, .ref an)]) dL_law_183 3 rfl (by exact nI_add k 1) (by decide) rfl ?_
            refine J_goto cx (tgt := 56) dL_law_186 (by decide) ?_
            refine J_L [0, 4, 5, 6] rfl ?_
            refine J_widen (k := 200 + 170 * (k + 1)) (n := 2500 + 1500 * (k + 1)) (by omega) (by omega) ?_
            exact ih (k + 1) M112 a175 K112 X175 c175 l175 p175 (by omega) hV175 hw175 hk175 hL112 (by omega) (by omega)
        · have c_3 := (nat_ic_ge_f (by omega) (by omega)).mp c_3
          have c_3d := decide_eq_false (Nat.not_le.mpr c_3)
          refine J_aload_n cx dL_law_90 rfl 3 rfl ?_
          refine J_aload_n cx dL_law_91 rfl 5 rfl ?_
          refine J_aload_n cx dL_law_92 rfl 4 rfl ?_
          refine J_iload cx dL_law_93 1 rfl ?_
          refine J_callSi cx kL_179 (As := [.ref (a9 0 0), .ref an, .ref (g 10), .int (nI (120 + (12 * k)))]) (tL_isMade l D g A an M a9 K9 X9 c9 l9 p9 (120 + (12 * k)) htr hV9 hw9 hk9 (by omega) hL9 (by omega)) ⟨rfl, rfl, by decide, by decide⟩ ⟨by first | decide | (show _ ≤ _; dsimp only; omega), by first | decide | (show _ ≤ _; dsimp only; omega)⟩ rfl rfl (Nat.le_of_ble_eq_true rfl) dL_law_95 ?_
          intro r95 ut95 hu95
          obtain ⟨M95, K95, a95, X95, c95, l95, p95⟩ := ut95
          obtain ⟨hr95, hz95, ⟨⟨hV95, hw95, hk95⟩, hL95⟩, hdy95⟩ := hu95
          subst hr95
          have hz95 : a95 0 = a9 0 := hz95
          have hdy95 : K95.2.2.1 2 ≤ K9.2.2.1 2 + 999 := hdy95
          refine J_ws (ws' := (iA g an 700 M95 :: iW a95 g K95 X95 c95 l95 p95)) rfl ?_
          refine J_goto cx (tgt := 126) dL_law_98 (by decide) ?_
          refine J_Le (L' := [(5, .int (nI ac)), (4, .int (nI (120 + (12 * k)))), (3, .int (nI k)), (2, .ref (a95 0 0)), (0, .ref (g 10)), (1, .ref an)]) (by rw [hz95]) ?_
          have h1n : 1 ≤ K95.2.2.1 0 := hL95.2.1
          have hnn : K95.2.2.1 0 ≤ 40 := hV95.1.1
          have hL95 : LAW M95 K95 := hL95
          refine J_istore cx (L' := [(6, .int (nI 1)), (5, .int (nI ac)), (4, .int (nI (120 + (12 * k)))), (3, .int (nI k)), (2, .ref (a95 0 0)), (0, .ref (g 10)), (1, .ref an)]) dL_law_126 (by decide) rfl ?_
          refine J_iload cx dL_law_128 0 rfl ?_
          refine J_if_eq cx (tgt := 181) dL_law_130 (by decide) (fun h => absurd h (by decide)) (fun _ => ?_)
          refine J_aload_n cx dL_law_133 rfl 4 rfl ?_
          refine J_aload_n cx dL_law_134 rfl 6 rfl ?_
          refine J_aload_n cx dL_law_135 rfl 5 rfl ?_
          refine J_iload cx dL_law_136 2 rfl ?_
          refine J_bipush cx (v := nI 8) dL_law_138 (by decide) ?_
          refine J_iadd cx dL_law_140 ?_
          refine J_top (v' := .int (nI ((120 + (12 * k)) + 8))) (congrArg Value.int (nI_add (120 + (12 * k)) 8)) ?_
          refine J_aload_n cx dL_law_141 rfl 6 rfl ?_
          refine J_iconst cx (v := nI 0) dL_law_142 (by decide) ?_
          refine J_iald cx (j := 0) (f := M95) 0 rfl rfl (by omega) (by decide) dL_law_143 ?_
          refine J_top (v' := .int (nI (K95.2.2.1 0))) (congrArg Value.int hL95.1.n0) ?_
          refine J_callSi cx kL_101 (As := [.ref (g 10), .int (nI ((120 + (12 * k)) + 8)), .int (nI (K95.2.2.1 0))]) (tL_in l D g A (iA g an 700 M95 :: iW a95 g K95 X95 c95 l95 p95) ((120 + (12 * k)) + 8) (K95.2.2.1 0) (by omega) (by omega) (by omega)) ⟨rfl, rfl, by decide, by decide⟩ ⟨by first | decide | (show _ ≤ _; dsimp only; omega), by first | decide | (show _ ≤ _; dsimp only; omega)⟩ rfl rfl (Nat.le_of_ble_eq_true rfl) dL_law_144 ?_
          intro _ _ hr; cases hr
          have hin_16 := inN_lt (g := g) (i := ((120 + (12 * k)) + 8)) (n := (K95.2.2.1 0)) (by omega)
          generalize hg_ci : inN g ((120 + (12 * k)) + 8) (K95.2.2.1 0) = ci at *
          have hci : ci < K95.2.2.1 0 := by assumption
          refine J_iconst cx (v := nI 0) dL_law_147 (by decide) ?_
          refine J_aload_n cx dL_law_148 rfl 6 rfl ?_
          refine J_iconst cx (v := nI 2) dL_law_149 (by decide) ?_
          refine J_iald cx (j := 2) (f := M95) 0 rfl rfl (by omega) (by decide) dL_law_150 ?_
          refine J_top (v' := .int (nI (K95.2.2.1 2))) (congrArg Value.int hL95.1.n2) ?_
          refine J_aload_n cx dL_law_151 rfl 5 rfl ?_
          refine J_iload cx dL_law_152 2 rfl ?_
          refine J_bipush cx (v := nI 9) dL_law_154 (by decide) ?_
          refine J_iadd cx dL_law_156 ?_
          refine J_top (v' := .int (nI ((120 + (12 * k)) + 9))) (congrArg Value.int (nI_add (120 + (12 * k)) 9)) ?_
          refine J_iconst cx (v := nI 5) dL_law_157 (by decide) ?_
          refine J_callSi cx kL_101 (As := [.ref (g 10), .int (nI ((120 + (12 * k)) + 9)), .int (nI 5)]) (tL_in l D g A (iA g an 700 M95 :: iW a95 g K95 X95 c95 l95 p95) ((120 + (12 * k)) + 9) 5 (by omega) (by omega) (by omega)) ⟨rfl, rfl, by decide, by decide⟩ ⟨by first | decide | (show _ ≤ _; dsimp only; omega), by first | decide | (show _ ≤ _; dsimp only; omega)⟩ rfl rfl (Nat.le_of_ble_eq_true rfl) dL_law_158 ?_
          intro _ _ hr; cases hr
          have hin_17 := inN_lt (g := g) (i := ((120 + (12 * k)) + 9)) (n := 5) (by omega)
          generalize hg_oq : inN g ((120 + (12 * k)) + 9) 5 = oq at *
          have hoq : oq < 5 := by assumption
          refine J_iadd cx dL_law_161 ?_
          refine J_top (v' := .int (nI ((K95.2.2.1 2) + oq))) (congrArg Value.int (nI_add (K95.2.2.1 2) oq)) ?_
          obtain ⟨s9, hs9⟩ : ∃ s9, K95.2.2.1 2 + oq = s9 := ⟨_, rfl⟩
          rw [hs9]
          refine J_iconst cx (v := nI 2) dL_law_162 (by decide) ?_
          refine J_isub cx dL_law_163 ?_
          refine J_mmax cx mxW ⟨by decide, Nat.le_of_ble_eq_true rfl⟩ ⟨by first | decide | (show _ ≤ _; dsimp only; omega), by first | decide | (show _ ≤ _; dsimp only; omega)⟩ dL_law_164 ?_
          refine J_top (v' := .int (nI (s9 - 2))) (congrArg Value.int (mx_e (by omega))) ?_
          refine J_callSi cx kL_260 (As := [.ref (a95 0 0), .ref an, .int (nI ci), .int (nI (s9 - 2))]) (tL_isWell l D g A an M95 K95 (a95, X95, c95, l95, p95) (a95 0 0) ci (s9 - 2) htr ⟨hV95, hw95, hk95⟩ rfl (by omega) hL95.1 (by omega) (by omega)) ⟨rfl, rfl, by decide, by decide⟩ ⟨by first | decide | (show _ ≤ _; dsimp only; omega), by first | decide | (show _ ≤ _; dsimp only; omega)⟩ rfl rfl (Nat.le_of_ble_eq_true rfl) dL_law_167 ?_
          intro r167 ut167 hu167
          obtain ⟨a167, X167, c167, l167, p167⟩ := ut167
          obtain ⟨hr167, hz167, ⟨hV167, hw167, hk167⟩⟩ := hu167
          subst hr167
          have hz167 : a167 0 0 = a95 0 0 := hz167
          refine J_ws (ws' := (iA g an 700 M95 :: iW a167 g K95 X167 c167 l167 p167)) rfl ?_
          refine J_Le (L' := [(6, .int (nI 1)), (5, .int (nI ac)), (4, .int (nI (120 + (12 * k)))), (3, .int (nI k)), (2, .ref (a167 0 0)), (0, .ref (g 10)), (1, .ref an)]) (by rw [hz167]) ?_
          refine J_if_eq cx (tgt := 181) dL_law_170 (by decide) (fun h => absurd h (by decide)) (fun _ => ?_)
          refine J_aload_n cx dL_law_173 rfl 4 rfl ?_
          refine J_aload_n cx dL_law_174 rfl 6 rfl ?_
          refine J_callSi cx kL_264 (As := [.ref (a167 0 0), .ref an]) (tL_isTold l D g A an M95 K95 (a167, X167, c167, l167, p167) (a167 0 0)  htr ⟨hV167, hw167, hk167⟩ rfl (by omega) hL95.1 hL95.2.1) ⟨rfl, rfl, by decide, by decide⟩ ⟨by first | decide | (show _ ≤ _; dsimp only; omega), by first | decide | (show _ ≤ _; dsimp only; omega)⟩ rfl rfl (Nat.le_of_ble_eq_true rfl) dL_law_175 ?_
          intro r175 ut175 hu175
          obtain ⟨a175, X175, c175, l175, p175⟩ := ut175
          obtain ⟨hr175, hz175, ⟨hV175, hw175, hk175⟩⟩ := hu175
          subst hr175
          have hz175 : a175 0 0 = a167 0 0 := hz175
          refine J_ws (ws' := (iA g an 700 M95 :: iW a175 g K95 X175 c175 l175 p175)) rfl ?_
          refine J_Le (L' := [(6, .int (nI 1)), (5, .int (nI ac)), (4, .int (nI (120 + (12 * k)))), (3, .int (nI k)), (2, .ref (a175 0 0)), (0, .ref (g 10)), (1, .ref an)]) (by rw [hz175]) ?_
          refine J_if_ne cx (tgt := 183) dL_law_178 (by decide) (fun _ => ?_) (fun h => absurd h (by decide))
          refine J_iinc cx (v := (nI (k + 1))) (L' := [(3, .int (nI (k + 1))), (6, .int (nI 1)), (5, .int (nI ac)), (4, .int (nI (120 + (12 * k)))), (2, .ref (a175 0 0)), (0, .ref (g 10)), (1, .ref an)]) dL_law_183 3 rfl (by exact nI_add k 1) (by decide) rfl ?_
          refine J_goto cx (tgt := 56) dL_law_186 (by decide) ?_
          refine J_L [0, 4, 5, 6] rfl ?_
          refine J_widen (k := 200 + 170 * (k + 1)) (n := 2500 + 1500 * (k + 1)) (by omega) (by omega) ?_
          exact ih (k + 1) M95 a175 K95 X175 c175 l175 p175 (by omega) hV175 hw175 hk175 hL95 (by omega) (by omega)
  refine J_L [0, 1, 2, 3] rfl ?_
  refine J_widen (k := 200 + 170 * 0) (n := 2500 + 1500 * 0) (by omega) (by omega) ?_
  exact LL _ 0 _ _ _ _ _ _ _ (Nat.zero_le _) hV hw hk hL (by omega) (Nat.lt_succ_self _)
set_option maxHeartbeats 4000000 in
set_option maxRecDepth 100000 in
theorem lw_0 {p : Program} {l : Launch} {e : Env} {s : State} {m : MethodId} {args : Array Value} {below : List Frame} {meth : Method} {c : Code} {D : va_G} {g : Nat → ClassId} {A : Nat → Prop} {Q : State → Prop} {rt9 : Option FieldType} (htr : l.stackTraces = false) (hE : ∀ (ws : va_W) (L : List (Nat × Value)), J p l e ({ frames := 2048, cells := 600312, slots := 7292577, locals := 94400 } : Room) s m args below meth c D A 7 Q 600312 7292577 ws L 387 [.int (nI 1)]) (cx : CX p l s m args meth c RL cL_law rt9 7 D g A) : J p l e ({ frames := 2048, cells := 600312, slots := 7292577, locals := 94400 } : Room) s m args below meth c D A 7 Q 0 0 ([]) [(0, .ref (g 10))] 0 [] := by
  refine J_sipush cx (v := nI 700) dL_law_0 (by decide) ?_
  refine J_newa cx (atype := .int) ac45 rfl 0 rfl (fun C h => by cases h) (N' := 700) (a0 := (700, .inl (fun _ => nI 0))) (fun cA => rfl) (by decide) (by decide) (by decide) ⟨by decide, by decide⟩ dL_law_3 (fun q3 => ?_)
  refine J_ws (ws' := (iA g q3 700 N00 :: [])) rfl ?_
  refine J_astore_n cx (L' := [(1, .ref q3), (0, .ref (g 10))]) dL_law_5 rfl (by decide) rfl ?_
  refine J_new cx (ci := 8) (fs := [.null, .null, .null, .null, .null, .null, .int (nI 0), .int (nI 0), .int (nI 0)]) iwX6 tyX6_ok lL_10 nX6 zX6 rfl dfX6 ⟨by decide, by decide⟩ dL_law_6 (fun q6 => ?_)
  refine J_dup cx dL_law_9 rfl ?_
  refine J_callCv cx kL_178 (As := []) (frV (w := [(q6, .inr (8, [.null, .null, .null, .null, .null, .null, .int (nI 0), .int (nI 0), .int (nI 0)]))]) (wr := [iA g q3 700 N00]) (W2 := fun (u : Nat → Nat) => iA g q3 700 N00 :: iW (fun _ => u) g kap0 X00 cs00 lf00 pr00) List.perm_append_comm (fun _ => List.perm_append_comm) (tX6_init l D g _ q6)) ⟨rfl, rfl, by decide, by decide⟩ ⟨by decide, by decide⟩ rfl rfl (Nat.le_of_ble_eq_true rfl) dL_law_10 ?_
  intro u6 hu6; subst hu6
  refine J_iconst cx (v := nI 0) dL_law_13 (by decide) ?_
  refine J_callHi cx kL_192 (As := [.ref (u6 0), .int (nI 0)]) (frI (w := iW (fun _ => u6) g kap0 X00 cs00 lf00 pr00) (wr := [iA g q3 700 N00]) (W' := fun (u : UT) => wT g ((opStep kap0 (nI 0)).2.2) u) (W2 := fun (u : UT) => iA g q3 700 N00 :: wT g ((opStep kap0 (nI 0)).2.2) u) (pm_1 _ _) (fun u => (pm_1 _ _).symm) (tL_step l D g _ (fun _ => u6) kap0 X00 cs00 lf00 pr00 (nI 0) htr IV_0 WV_0 (Nat.le_refl 0) (by decide))) ⟨rfl, rfl, by decide, by decide⟩ ⟨by first | decide | (show _ ≤ _; dsimp only; omega), by first | decide | (show _ ≤ _; dsimp only; omega)⟩ rfl rfl (Nat.le_of_ble_eq_true rfl) dL_law_14 ?_
  intro r14 u14 hu14; obtain ⟨hr14, hz14, hv14⟩ := hu14
  generalize hK14 : (opStep kap0 (nI 0)).2.2 = K14 at *
  have hr14 : r14 = -900001 := hr14.trans (by rw [step_00]; rfl)
  subst hr14
  refine J_ldc cx (v := (-900001)) dL_law_17 cL_30 ?_
  refine J_icmp_ne cx (tgt := 38) dL_law_19 (by decide) (fun h => absurd rfl h) (fun _ => ?_)
  refine J_keep1 ?_ _
  refine J_new cx (ci := 8) (fs := [.null, .null, .null, .null, .null, .null, .int (nI 0), .int (nI 0), .int (nI 0)]) iwX6 tyX6_ok lL_10 nX6 zX6 rfl dfX6 ⟨by decide, by decide⟩ dL_law_22 (fun q22 => ?_)
  refine J_dup cx dL_law_25 rfl ?_
  refine J_callCv cx kL_178 (As := []) (frV (w := [(q22, .inr (8, [.null, .null, .null, .null, .null, .null, .int (nI 0), .int (nI 0), .int (nI 0)]))]) (wr := [iA g q3 700 N00]) (W2 := fun (u : Nat → Nat) => iA g q3 700 N00 :: iW (fun _ => u) g kap0 X00 cs00 lf00 pr00) List.perm_append_comm (fun _ => List.perm_append_comm) (tX6_init l D g _ q22)) ⟨rfl, rfl, by decide, by decide⟩ ⟨by decide, by decide⟩ rfl rfl (Nat.le_of_ble_eq_true rfl) dL_law_26 ?_
  intro u22 hu22; subst hu22
  refine J_callHf cx kL_242 (As := [.ref (u22 0)]) (frF (w := iW (fun _ => u22) g kap0 X00 cs00 lf00 pr00) (wr := [iA g q3 700 N00]) (W' := fun (u : UT) => wT g kap0 u) (W2 := fun (u : UT) => iA g q3 700 N00 :: wT g kap0 u) (pm_1 _ _) (fun u => (pm_1 _ _).symm) (tL_soundShare l D g _ (fun _ => u22) kap0 X00 cs00 lf00 pr00 htr IV_0 WV_0 (Nat.le_refl 0) (by decide))) ⟨rfl, rfl, by decide, by decide⟩ ⟨by decide, by decide⟩ rfl rfl (Nat.le_of_ble_eq_true rfl) dL_law_29 ?_
  intro r29 u29 hu29
  have hr29 : r29 = 3378231824 := by rw [hu29.1, snd_00]; rfl
  subst hr29
  refine J_keep1 ?_ _
  refine J_ldcf cx (v := 3378231824) dL_law_32 cL_23 ?_
  refine J_fcmp cx dL_law_34 ?_
  refine J_top (v' := .int (nI 0)) (congrArg Value.int (fc_00)) ?_
  refine J_if_eq cx (tgt := 40) dL_law_35 (by decide) (fun _ => ?_) (fun h => absurd h (by decide))
  refine J_aload_n cx dL_law_40 rfl 1 rfl ?_
  refine J_aload_n cx dL_law_41 rfl 0 rfl ?_
  refine J_bipush cx (v := nI 8) dL_law_42 (by decide) ?_
  refine J_callSr cx kL_248 (As := [.ref (g 10), .ref q3, .int (nI 8)]) (tL_begun l D g A q3 htr) ⟨rfl, rfl, by decide, by decide⟩ ⟨by decide, by decide⟩ rfl rfl (Nat.le_of_ble_eq_true rfl) dL_law_44 ?_
  intro ut44 o44 hu44
  obtain ⟨N, κ, ad, X, cs, lf, pr⟩ := ut44
  obtain ⟨⟨⟨hV, hw, hk⟩, hL⟩, hd⟩ := hu44
  obtain ⟨a9, ha9⟩ : ∃ a9 : Nat → Nat → Nat, a9 = (fun i j => if i = 0 ∧ j = 0 then o44 else ad i j) := ⟨_, rfl⟩
  have ho9 : a9 0 0 = o44 := by rw [ha9]; rfl
  refine J_ws (ws' := (iA g q3 700 N :: iW a9 g κ X cs lf pr)) (by rw [ha9]; rfl) ?_
  refine J_top (v' := .ref (a9 0 0)) (congrArg Value.ref ho9.symm) ?_
  refine J_astore_n cx (L' := [(2, .ref (a9 0 0)), (1, .ref q3), (0, .ref (g 10))]) dL_law_47 rfl (by decide) rfl ?_
  refine J_aload_n cx dL_law_48 rfl 0 rfl ?_
  refine J_top (v' := va_rf (some (a9 0 0))) rfl ?_
  refine J_ifnonnull cx (r := some (a9 0 0)) (tgt := 54) dL_law_49 (by decide) (fun _ _ => ?_) (fun h => by cases h)
  refine J_L [0, 2, 1] rfl ?_
  refine J_widen (k := 200) (n := 2500) (by omega) (by omega) ?_
  exact lw_c htr hV hw hk hL hd hE cx
