/-! the cases 0 to 19 of the law -/
section LC
variable {p : Program} {l : Launch} {e : Env} {s : State} {m : MethodId} {args : Array Value} {below : List Frame} {meth : Method} {c : Code} {D : va_G} {g : Nat → ClassId} {A : Nat → Prop} {Q : State → Prop} {cells slots : Nat}
variable {ad : Nat → Nat → Nat} {κ : CS} {X : XT} {cs : Nat → CT} {lf : Nat → Int64} {pr : PT} {o1 : Nat} {f1 : Nat → Int64} {am : Nat → Nat} {th : Int32} {ch : Nat → Nat} {cm rm : Nat} {row : Nat → Int64} {o2 : Nat} {f2 : Nat → UInt64} {b i Ln : Nat} {xs : Nat → Int32}
set_option maxHeartbeats 1000000 in
theorem lw_c0 (cx : CX p l s m args meth c RL cL_law ret 9 D g A) (htr : l.stackTraces = false) (hX : va_X b Ln xs s s.heap) (hbl : b < s.heap.size) (hbA : ¬ A b) (hLn : Ln ≤ 2560) (hi : i + 5 ≤ Ln) (hV : IV κ X) (hw : WV κ cs) (hk : κ.2.2.1 1 ≤ κ.2.2.1 0) (hd : κ.2.2.1 2 + 999 < 2147483648) (hc : cells + 20 ≤ room_1.cells) (hs : slots + 120 ≤ room_1.slots) (nx : NX p l e s m args below meth c D g A Q (cells + 20) (slots + 120) (κ.2.2.1 2 + 999) (ad 0 0) am b o1 o2 i) : J p l e room_1 s m args below meth c D A 9 Q cells slots (wW g ad κ X cs lf pr o1 f1 am κ th ch cm rm row o2 f2) (LL b (ad 0 0) (am 0) o1 o2 i) 216 [] := by
  refine J_aload_n cx dL_law_216 rfl 4 rfl ?_
  refine J_sget cx hX hbl hbA hLn (i := i) (k := 1) (by omega) 5 0 rfl rfl (by decide) dL_law_217 dL_law_218 dL_law_220 dL_law_221 dL_law_222 ?_
  refine J_sget cx hX hbl hbA hLn (i := i) (k := 2) (by omega) 5 0 rfl rfl (by decide) dL_law_223 dL_law_224 dL_law_226 dL_law_227 dL_law_228 ?_
  refine J_sget cx hX hbl hbA hLn (i := i) (k := 3) (by omega) 5 0 rfl rfl (by decide) dL_law_229 dL_law_230 dL_law_232 dL_law_233 dL_law_234 ?_
  refine J_aload_n cx dL_law_235 rfl 2 rfl ?_
  refine J_callHi cx kL_142 (As := [.ref (ad 0 0), .int (xs (i + 1)), .int (xs (i + 2)), .int (xs (i + 3)), .ref o1]) (frI (w := iW ad g κ X cs lf pr ++ oL o1 g f1) (wr := mW am g κ th ch cm rm row ++ oD o2 g f2) (W2 := fun (u : US) => wW g u.1 ((opMakeRoot κ (xs (i + 1)) (xs (i + 2)) (xs (i + 3))).2.2) u.2.1 u.2.2.1 u.2.2.2.1 u.2.2.2.2.1 o1 u.2.2.2.2.2 am κ th ch cm rm row o2 f2) (List.Perm.refl _) (fun _ => List.Perm.refl _) (tL_makeRoot l D g _ ad κ X cs lf pr o1 f1 (xs (i + 1)) (xs (i + 2)) (xs (i + 3)) htr hV hw hk hd)) ⟨rfl, rfl, by decide, by decide⟩ ⟨by omega, by omega⟩ rfl rfl (Nat.le_of_ble_eq_true rfl) dL_law_236 ?_
  intro r u hu
  obtain ⟨hr, hc4, hval, hu0, hinv⟩ := hu
  refine J_istore cx (L' := (6, .int r) :: LL b (ad 0 0) (am 0) o1 o2 i) dL_law_239 (by decide) rfl ?_
  refine J_aload_n cx dL_law_241 rfl 4 rfl ?_
  refine J_sget cx hX hbl hbA hLn (i := i) (k := 1) (by omega) 6 1 rfl rfl (by decide) dL_law_242 dL_law_243 dL_law_245 dL_law_246 dL_law_247 ?_
  refine J_sget cx hX hbl hbA hLn (i := i) (k := 2) (by omega) 6 1 rfl rfl (by decide) dL_law_248 dL_law_249 dL_law_251 dL_law_252 dL_law_253 ?_
  refine J_sget cx hX hbl hbA hLn (i := i) (k := 3) (by omega) 6 1 rfl rfl (by decide) dL_law_254 dL_law_255 dL_law_257 dL_law_258 dL_law_259 ?_
  refine J_callVi cx kL_147 (As := [.int (xs (i + 1)), .int (xs (i + 2)), .int (xs (i + 3))]) (frI (w := mW am g κ th ch cm rm row) (wr := (iW u.1 g ((opMakeRoot κ (xs (i + 1)) (xs (i + 2)) (xs (i + 3))).2.2) u.2.1 u.2.2.1 u.2.2.2.1 u.2.2.2.2.1 ++ oL o1 g u.2.2.2.2.2) ++ oD o2 g f2) (W2 := fun _ => wW g u.1 ((opMakeRoot κ (xs (i + 1)) (xs (i + 2)) (xs (i + 3))).2.2) u.2.1 u.2.2.1 u.2.2.2.1 u.2.2.2.2.1 o1 u.2.2.2.2.2 am ((opMakeRoot κ (xs (i + 1)) (xs (i + 2)) (xs (i + 3))).2.2) (nI (opMakeRoot κ (xs (i + 1)) (xs (i + 2)) (xs (i + 3))).1) ch cm rm row o2 f2) (pm_m _ _ _) (fun _ => (pm_m _ _ _).symm) (tX7_makeRoot l D g _ am κ th ch cm rm row (xs (i + 1)) (xs (i + 2)) (xs (i + 3)) hV.1.1)) ⟨rfl, rfl, by decide, by decide⟩ ⟨by omega, by omega⟩ rfl (iW u.1 g ((opMakeRoot κ (xs (i + 1)) (xs (i + 2)) (xs (i + 3))).2.2) u.2.1 u.2.2.1 u.2.2.2.1 u.2.2.2.2.1 ++ oL o1 g u.2.2.2.2.2).length (at_md rfl) rfl rfl (Nat.le_of_ble_eq_true rfl) dL_law_260 ?_
  intro r9 _ hr9
  subst hr9
  refine J_istore cx (L' := (7, .int ((opMakeRoot κ (xs (i + 1)) (xs (i + 2)) (xs (i + 3))).2.1)) :: (6, .int r) :: LL b (ad 0 0) (am 0) o1 o2 i) dL_law_263 (by decide) rfl ?_
  refine tl_I cx (cd := _) dL_law_265 dL_law_266 dL_law_269 dL_law_271 dL_law_276 dL_law_278 dL_law_281 dL_law_282 dL_law_283 dL_law_284 dL_law_286 dL_law_287 dL_law_288 dL_law_293 (by decide) hr.symm hr hc4 hval (by omega) (by omega) ?_
  have hx0 : u.1 0 0 = ad 0 0 := congrFun hu0 0
  exact J_widen (by omega) (by omega) (nx u.1 _ _ _ _ _ _ _ _ _ _ _ _ hx0 hinv (dy_root hV hw hk hd))
set_option maxHeartbeats 1000000 in
theorem lw_c1 (cx : CX p l s m args meth c RL cL_law ret 9 D g A) (htr : l.stackTraces = false) (hX : va_X b Ln xs s s.heap) (hbl : b < s.heap.size) (hbA : ¬ A b) (hLn : Ln ≤ 2560) (hi : i + 5 ≤ Ln) (hV : IV κ X) (hw : WV κ cs) (hk : κ.2.2.1 1 ≤ κ.2.2.1 0) (hd : κ.2.2.1 2 + 999 < 2147483648) (hc : cells + 20 ≤ room_1.cells) (hs : slots + 120 ≤ room_1.slots) (nx : NX p l e s m args below meth c D g A Q (cells + 20) (slots + 120) (κ.2.2.1 2 + 999) (ad 0 0) am b o1 o2 i) : J p l e room_1 s m args below meth c D A 9 Q cells slots (wW g ad κ X cs lf pr o1 f1 am κ th ch cm rm row o2 f2) (LL b (ad 0 0) (am 0) o1 o2 i) 296 [] := by
  refine J_aload_n cx dL_law_296 rfl 4 rfl ?_
  refine J_sget cx hX hbl hbA hLn (i := i) (k := 1) (by omega) 5 0 rfl rfl (by decide) dL_law_297 dL_law_298 dL_law_300 dL_law_301 dL_law_302 ?_
  refine J_sget cx hX hbl hbA hLn (i := i) (k := 2) (by omega) 5 0 rfl rfl (by decide) dL_law_303 dL_law_304 dL_law_306 dL_law_307 dL_law_308 ?_
  refine J_sget cx hX hbl hbA hLn (i := i) (k := 3) (by omega) 5 0 rfl rfl (by decide) dL_law_309 dL_law_310 dL_law_312 dL_law_313 dL_law_314 ?_
  refine J_aload_n cx dL_law_315 rfl 2 rfl ?_
  refine J_callHi cx kL_151 (As := [.ref (ad 0 0), .int (xs (i + 1)), .int (xs (i + 2)), .int (xs (i + 3)), .ref o1]) (frI (w := iW ad g κ X cs lf pr ++ oL o1 g f1) (wr := mW am g κ th ch cm rm row ++ oD o2 g f2) (W2 := fun (u : US) => wW g u.1 ((opIssue κ (xs (i + 1)) (xs (i + 2)) (xs (i + 3))).2.2) u.2.1 u.2.2.1 u.2.2.2.1 u.2.2.2.2.1 o1 u.2.2.2.2.2 am κ th ch cm rm row o2 f2) (List.Perm.refl _) (fun _ => List.Perm.refl _) (tL_issue l D g _ ad κ X cs lf pr o1 f1 (xs (i + 1)) (xs (i + 2)) (xs (i + 3)) htr hV hw hk hd)) ⟨rfl, rfl, by decide, by decide⟩ ⟨by omega, by omega⟩ rfl rfl (Nat.le_of_ble_eq_true rfl) dL_law_316 ?_
  intro r u hu
  obtain ⟨hr, hc4, hval, hu0, hinv⟩ := hu
  refine J_istore cx (L' := (6, .int r) :: LL b (ad 0 0) (am 0) o1 o2 i) dL_law_319 (by decide) rfl ?_
  refine J_aload_n cx dL_law_321 rfl 4 rfl ?_
  refine J_sget cx hX hbl hbA hLn (i := i) (k := 1) (by omega) 6 1 rfl rfl (by decide) dL_law_322 dL_law_323 dL_law_325 dL_law_326 dL_law_327 ?_
  refine J_sget cx hX hbl hbA hLn (i := i) (k := 2) (by omega) 6 1 rfl rfl (by decide) dL_law_328 dL_law_329 dL_law_331 dL_law_332 dL_law_333 ?_
  refine J_sget cx hX hbl hbA hLn (i := i) (k := 3) (by omega) 6 1 rfl rfl (by decide) dL_law_334 dL_law_335 dL_law_337 dL_law_338 dL_law_339 ?_
  refine J_callVi cx kL_153 (As := [.int (xs (i + 1)), .int (xs (i + 2)), .int (xs (i + 3))]) (frI (w := mW am g κ th ch cm rm row) (wr := (iW u.1 g ((opIssue κ (xs (i + 1)) (xs (i + 2)) (xs (i + 3))).2.2) u.2.1 u.2.2.1 u.2.2.2.1 u.2.2.2.2.1 ++ oL o1 g u.2.2.2.2.2) ++ oD o2 g f2) (W2 := fun _ => wW g u.1 ((opIssue κ (xs (i + 1)) (xs (i + 2)) (xs (i + 3))).2.2) u.2.1 u.2.2.1 u.2.2.2.1 u.2.2.2.2.1 o1 u.2.2.2.2.2 am ((opIssue κ (xs (i + 1)) (xs (i + 2)) (xs (i + 3))).2.2) (nI (opIssue κ (xs (i + 1)) (xs (i + 2)) (xs (i + 3))).1) ch cm rm row o2 f2) (pm_m _ _ _) (fun _ => (pm_m _ _ _).symm) (tX7_issue l D g _ am κ th ch cm rm row (xs (i + 1)) (xs (i + 2)) (xs (i + 3)) hV.1.1)) ⟨rfl, rfl, by decide, by decide⟩ ⟨by omega, by omega⟩ rfl (iW u.1 g ((opIssue κ (xs (i + 1)) (xs (i + 2)) (xs (i + 3))).2.2) u.2.1 u.2.2.1 u.2.2.2.1 u.2.2.2.2.1 ++ oL o1 g u.2.2.2.2.2).length (at_md rfl) rfl rfl (Nat.le_of_ble_eq_true rfl) dL_law_340 ?_
  intro r9 _ hr9
  subst hr9
  refine J_istore cx (L' := (7, .int ((opIssue κ (xs (i + 1)) (xs (i + 2)) (xs (i + 3))).2.1)) :: (6, .int r) :: LL b (ad 0 0) (am 0) o1 o2 i) dL_law_343 (by decide) rfl ?_
  refine tl_I cx (cd := _) dL_law_345 dL_law_346 dL_law_349 dL_law_351 dL_law_356 dL_law_358 dL_law_361 dL_law_362 dL_law_363 dL_law_364 dL_law_366 dL_law_367 dL_law_368 dL_law_373 (by decide) hr.symm hr hc4 hval (by omega) (by omega) ?_
  have hx0 : u.1 0 0 = ad 0 0 := congrFun hu0 0
  exact J_widen (by omega) (by omega) (nx u.1 _ _ _ _ _ _ _ _ _ _ _ _ hx0 hinv (dy_issue hV hw hk hd))
set_option maxHeartbeats 1000000 in
theorem lw_c2 (cx : CX p l s m args meth c RL cL_law ret 9 D g A) (htr : l.stackTraces = false) (hX : va_X b Ln xs s s.heap) (hbl : b < s.heap.size) (hbA : ¬ A b) (hLn : Ln ≤ 2560) (hi : i + 5 ≤ Ln) (hV : IV κ X) (hw : WV κ cs) (hk : κ.2.2.1 1 ≤ κ.2.2.1 0) (hd : κ.2.2.1 2 + 999 < 2147483648) (hc : cells + 20 ≤ room_1.cells) (hs : slots + 120 ≤ room_1.slots) (nx : NX p l e s m args below meth c D g A Q (cells + 20) (slots + 120) (κ.2.2.1 2 + 999) (ad 0 0) am b o1 o2 i) : J p l e room_1 s m args below meth c D A 9 Q cells slots (wW g ad κ X cs lf pr o1 f1 am κ th ch cm rm row o2 f2) (LL b (ad 0 0) (am 0) o1 o2 i) 376 [] := by
  refine J_aload_n cx dL_law_376 rfl 4 rfl ?_
  refine J_sget cx hX hbl hbA hLn (i := i) (k := 1) (by omega) 5 0 rfl rfl (by decide) dL_law_377 dL_law_378 dL_law_380 dL_law_381 dL_law_382 ?_
  refine J_sget cx hX hbl hbA hLn (i := i) (k := 2) (by omega) 5 0 rfl rfl (by decide) dL_law_383 dL_law_384 dL_law_386 dL_law_387 dL_law_388 ?_
  refine J_sget cx hX hbl hbA hLn (i := i) (k := 3) (by omega) 5 0 rfl rfl (by decide) dL_law_389 dL_law_390 dL_law_392 dL_law_393 dL_law_394 ?_
  refine J_sget cx hX hbl hbA hLn (i := i) (k := 4) (by omega) 5 0 rfl rfl (by decide) dL_law_395 dL_law_396 dL_law_398 dL_law_399 dL_law_400 ?_
  refine J_aload_n cx dL_law_401 rfl 2 rfl ?_
  refine J_callHi cx kL_154 (As := [.ref (ad 0 0), .int (xs (i + 1)), .int (xs (i + 2)), .int (xs (i + 3)), .int (xs (i + 4)), .ref o1]) (frI (w := iW ad g κ X cs lf pr ++ oL o1 g f1) (wr := mW am g κ th ch cm rm row ++ oD o2 g f2) (W2 := fun (u : US) => wW g u.1 ((opIssueA κ (xs (i + 1)) (xs (i + 2)) (xs (i + 3)) (xs (i + 4))).2.2) u.2.1 u.2.2.1 u.2.2.2.1 u.2.2.2.2.1 o1 u.2.2.2.2.2 am κ th ch cm rm row o2 f2) (List.Perm.refl _) (fun _ => List.Perm.refl _) (tL_issueAuthority l D g _ ad κ X cs lf pr o1 f1 (xs (i + 1)) (xs (i + 2)) (xs (i + 3)) (xs (i + 4)) htr hV hw hk hd)) ⟨rfl, rfl, by decide, by decide⟩ ⟨by omega, by omega⟩ rfl rfl (Nat.le_of_ble_eq_true rfl) dL_law_402 ?_
  intro r u hu
  obtain ⟨hr, hc4, hval, hu0, hinv⟩ := hu
  refine J_istore cx (L' := (6, .int r) :: LL b (ad 0 0) (am 0) o1 o2 i) dL_law_405 (by decide) rfl ?_
  refine J_aload_n cx dL_law_407 rfl 4 rfl ?_
  refine J_sget cx hX hbl hbA hLn (i := i) (k := 1) (by omega) 6 1 rfl rfl (by decide) dL_law_408 dL_law_409 dL_law_411 dL_law_412 dL_law_413 ?_
  refine J_sget cx hX hbl hbA hLn (i := i) (k := 2) (by omega) 6 1 rfl rfl (by decide) dL_law_414 dL_law_415 dL_law_417 dL_law_418 dL_law_419 ?_
  refine J_sget cx hX hbl hbA hLn (i := i) (k := 3) (by omega) 6 1 rfl rfl (by decide) dL_law_420 dL_law_421 dL_law_423 dL_law_424 dL_law_425 ?_
  refine J_sget cx hX hbl hbA hLn (i := i) (k := 4) (by omega) 6 1 rfl rfl (by decide) dL_law_426 dL_law_427 dL_law_429 dL_law_430 dL_law_431 ?_
  refine J_callVi cx kL_157 (As := [.int (xs (i + 1)), .int (xs (i + 2)), .int (xs (i + 3)), .int (xs (i + 4))]) (frI (w := mW am g κ th ch cm rm row) (wr := (iW u.1 g ((opIssueA κ (xs (i + 1)) (xs (i + 2)) (xs (i + 3)) (xs (i + 4))).2.2) u.2.1 u.2.2.1 u.2.2.2.1 u.2.2.2.2.1 ++ oL o1 g u.2.2.2.2.2) ++ oD o2 g f2) (W2 := fun _ => wW g u.1 ((opIssueA κ (xs (i + 1)) (xs (i + 2)) (xs (i + 3)) (xs (i + 4))).2.2) u.2.1 u.2.2.1 u.2.2.2.1 u.2.2.2.2.1 o1 u.2.2.2.2.2 am ((opIssueA κ (xs (i + 1)) (xs (i + 2)) (xs (i + 3)) (xs (i + 4))).2.2) (nI (opIssueA κ (xs (i + 1)) (xs (i + 2)) (xs (i + 3)) (xs (i + 4))).1) ch cm rm row o2 f2) (pm_m _ _ _) (fun _ => (pm_m _ _ _).symm) (tX7_issueAuthority l D g _ am κ th ch cm rm row (xs (i + 1)) (xs (i + 2)) (xs (i + 3)) (xs (i + 4)) hV.1.1)) ⟨rfl, rfl, by decide, by decide⟩ ⟨by omega, by omega⟩ rfl (iW u.1 g ((opIssueA κ (xs (i + 1)) (xs (i + 2)) (xs (i + 3)) (xs (i + 4))).2.2) u.2.1 u.2.2.1 u.2.2.2.1 u.2.2.2.2.1 ++ oL o1 g u.2.2.2.2.2).length (at_md rfl) rfl rfl (Nat.le_of_ble_eq_true rfl) dL_law_432 ?_
  intro r9 _ hr9
  subst hr9
  refine J_istore cx (L' := (7, .int ((opIssueA κ (xs (i + 1)) (xs (i + 2)) (xs (i + 3)) (xs (i + 4))).2.1)) :: (6, .int r) :: LL b (ad 0 0) (am 0) o1 o2 i) dL_law_435 (by decide) rfl ?_
  refine tl_I cx (cd := _) dL_law_437 dL_law_438 dL_law_441 dL_law_443 dL_law_448 dL_law_450 dL_law_453 dL_law_454 dL_law_455 dL_law_456 dL_law_458 dL_law_459 dL_law_460 dL_law_465 (by decide) hr.symm hr hc4 hval (by omega) (by omega) ?_
  have hx0 : u.1 0 0 = ad 0 0 := congrFun hu0 0
  exact J_widen (by omega) (by omega) (nx u.1 _ _ _ _ _ _ _ _ _ _ _ _ hx0 hinv (dy_issueA hV hw hk hd))
set_option maxHeartbeats 1000000 in
theorem lw_c3 (cx : CX p l s m args meth c RL cL_law ret 9 D g A) (htr : l.stackTraces = false) (hX : va_X b Ln xs s s.heap) (hbl : b < s.heap.size) (hbA : ¬ A b) (hLn : Ln ≤ 2560) (hi : i + 5 ≤ Ln) (hV : IV κ X) (hw : WV κ cs) (hk : κ.2.2.1 1 ≤ κ.2.2.1 0) (hd : κ.2.2.1 2 + 999 < 2147483648) (hc : cells + 20 ≤ room_1.cells) (hs : slots + 120 ≤ room_1.slots) (nx : NX p l e s m args below meth c D g A Q (cells + 20) (slots + 120) (κ.2.2.1 2 + 999) (ad 0 0) am b o1 o2 i) : J p l e room_1 s m args below meth c D A 9 Q cells slots (wW g ad κ X cs lf pr o1 f1 am κ th ch cm rm row o2 f2) (LL b (ad 0 0) (am 0) o1 o2 i) 468 [] := by
  refine J_aload_n cx dL_law_468 rfl 4 rfl ?_
  refine J_sget cx hX hbl hbA hLn (i := i) (k := 1) (by omega) 5 0 rfl rfl (by decide) dL_law_469 dL_law_470 dL_law_472 dL_law_473 dL_law_474 ?_
  refine J_sget cx hX hbl hbA hLn (i := i) (k := 2) (by omega) 5 0 rfl rfl (by decide) dL_law_475 dL_law_476 dL_law_478 dL_law_479 dL_law_480 ?_
  refine J_sget cx hX hbl hbA hLn (i := i) (k := 3) (by omega) 5 0 rfl rfl (by decide) dL_law_481 dL_law_482 dL_law_484 dL_law_485 dL_law_486 ?_
  refine J_sget cx hX hbl hbA hLn (i := i) (k := 4) (by omega) 5 0 rfl rfl (by decide) dL_law_487 dL_law_488 dL_law_490 dL_law_491 dL_law_492 ?_
  refine J_aload_n cx dL_law_493 rfl 2 rfl ?_
  refine J_callHi cx kL_158 (As := [.ref (ad 0 0), .int (xs (i + 1)), .int (xs (i + 2)), .int (xs (i + 3)), .int (xs (i + 4)), .ref o1]) (frI (w := iW ad g κ X cs lf pr ++ oL o1 g f1) (wr := mW am g κ th ch cm rm row ++ oD o2 g f2) (W2 := fun (u : US) => wW g u.1 ((opCross κ (xs (i + 1)) (xs (i + 2)) (xs (i + 3)) (xs (i + 4))).2.2) u.2.1 u.2.2.1 u.2.2.2.1 u.2.2.2.2.1 o1 u.2.2.2.2.2 am κ th ch cm rm row o2 f2) (List.Perm.refl _) (fun _ => List.Perm.refl _) (tL_cross l D g _ ad κ X cs lf pr o1 f1 (xs (i + 1)) (xs (i + 2)) (xs (i + 3)) (xs (i + 4)) htr hV hw hk hd)) ⟨rfl, rfl, by decide, by decide⟩ ⟨by omega, by omega⟩ rfl rfl (Nat.le_of_ble_eq_true rfl) dL_law_494 ?_
  intro r u hu
  obtain ⟨hr, hc4, hval, hu0, hinv⟩ := hu
  refine J_istore cx (L' := (6, .int r) :: LL b (ad 0 0) (am 0) o1 o2 i) dL_law_497 (by decide) rfl ?_
  refine J_aload_n cx dL_law_499 rfl 4 rfl ?_
  refine J_sget cx hX hbl hbA hLn (i := i) (k := 1) (by omega) 6 1 rfl rfl (by decide) dL_law_500 dL_law_501 dL_law_503 dL_law_504 dL_law_505 ?_
  refine J_sget cx hX hbl hbA hLn (i := i) (k := 2) (by omega) 6 1 rfl rfl (by decide) dL_law_506 dL_law_507 dL_law_509 dL_law_510 dL_law_511 ?_
  refine J_sget cx hX hbl hbA hLn (i := i) (k := 3) (by omega) 6 1 rfl rfl (by decide) dL_law_512 dL_law_513 dL_law_515 dL_law_516 dL_law_517 ?_
  refine J_sget cx hX hbl hbA hLn (i := i) (k := 4) (by omega) 6 1 rfl rfl (by decide) dL_law_518 dL_law_519 dL_law_521 dL_law_522 dL_law_523 ?_
  refine J_callVi cx kL_160 (As := [.int (xs (i + 1)), .int (xs (i + 2)), .int (xs (i + 3)), .int (xs (i + 4))]) (frI (w := mW am g κ th ch cm rm row) (wr := (iW u.1 g ((opCross κ (xs (i + 1)) (xs (i + 2)) (xs (i + 3)) (xs (i + 4))).2.2) u.2.1 u.2.2.1 u.2.2.2.1 u.2.2.2.2.1 ++ oL o1 g u.2.2.2.2.2) ++ oD o2 g f2) (W2 := fun _ => wW g u.1 ((opCross κ (xs (i + 1)) (xs (i + 2)) (xs (i + 3)) (xs (i + 4))).2.2) u.2.1 u.2.2.1 u.2.2.2.1 u.2.2.2.2.1 o1 u.2.2.2.2.2 am ((opCross κ (xs (i + 1)) (xs (i + 2)) (xs (i + 3)) (xs (i + 4))).2.2) (nI (opCross κ (xs (i + 1)) (xs (i + 2)) (xs (i + 3)) (xs (i + 4))).1) ch cm rm row o2 f2) (pm_m _ _ _) (fun _ => (pm_m _ _ _).symm) (tX7_cross l D g _ am κ th ch cm rm row (xs (i + 1)) (xs (i + 2)) (xs (i + 3)) (xs (i + 4)) hV.1.1)) ⟨rfl, rfl, by decide, by decide⟩ ⟨by omega, by omega⟩ rfl (iW u.1 g ((opCross κ (xs (i + 1)) (xs (i + 2)) (xs (i + 3)) (xs (i + 4))).2.2) u.2.1 u.2.2.1 u.2.2.2.1 u.2.2.2.2.1 ++ oL o1 g u.2.2.2.2.2).length (at_md rfl) rfl rfl (Nat.le_of_ble_eq_true rfl) dL_law_524 ?_
  intro r9 _ hr9
  subst hr9
  refine J_istore cx (L' := (7, .int ((opCross κ (xs (i + 1)) (xs (i + 2)) (xs (i + 3)) (xs (i + 4))).2.1)) :: (6, .int r) :: LL b (ad 0 0) (am 0) o1 o2 i) dL_law_527 (by decide) rfl ?_
  refine tl_I cx (cd := _) dL_law_529 dL_law_530 dL_law_533 dL_law_535 dL_law_540 dL_law_542 dL_law_545 dL_law_546 dL_law_547 dL_law_548 dL_law_550 dL_law_551 dL_law_552 dL_law_557 (by decide) hr.symm hr hc4 hval (by omega) (by omega) ?_
  have hx0 : u.1 0 0 = ad 0 0 := congrFun hu0 0
  exact J_widen (by omega) (by omega) (nx u.1 _ _ _ _ _ _ _ _ _ _ _ _ hx0 hinv (dy_cross hV hw hk hd))
set_option maxHeartbeats 1000000 in
theorem lw_c4 (cx : CX p l s m args meth c RL cL_law ret 9 D g A) (htr : l.stackTraces = false) (hX : va_X b Ln xs s s.heap) (hbl : b < s.heap.size) (hbA : ¬ A b) (hLn : Ln ≤ 2560) (hi : i + 5 ≤ Ln) (hV : IV κ X) (hw : WV κ cs) (hk : κ.2.2.1 1 ≤ κ.2.2.1 0) (hd : κ.2.2.1 2 + 999 < 2147483648) (hc : cells + 20 ≤ room_1.cells) (hs : slots + 120 ≤ room_1.slots) (nx : NX p l e s m args below meth c D g A Q (cells + 20) (slots + 120) (κ.2.2.1 2 + 999) (ad 0 0) am b o1 o2 i) : J p l e room_1 s m args below meth c D A 9 Q cells slots (wW g ad κ X cs lf pr o1 f1 am κ th ch cm rm row o2 f2) (LL b (ad 0 0) (am 0) o1 o2 i) 560 [] := by
  refine J_aload_n cx dL_law_560 rfl 4 rfl ?_
  refine J_sget cx hX hbl hbA hLn (i := i) (k := 1) (by omega) 5 0 rfl rfl (by decide) dL_law_561 dL_law_562 dL_law_564 dL_law_565 dL_law_566 ?_
  refine J_sget cx hX hbl hbA hLn (i := i) (k := 2) (by omega) 5 0 rfl rfl (by decide) dL_law_567 dL_law_568 dL_law_570 dL_law_571 dL_law_572 ?_
  refine J_sget cx hX hbl hbA hLn (i := i) (k := 3) (by omega) 5 0 rfl rfl (by decide) dL_law_573 dL_law_574 dL_law_576 dL_law_577 dL_law_578 ?_
  refine J_aload_n cx dL_law_579 rfl 2 rfl ?_
  refine J_callHi cx kL_161 (As := [.ref (ad 0 0), .int (xs (i + 1)), .int (xs (i + 2)), .int (xs (i + 3)), .ref o1]) (frI (w := iW ad g κ X cs lf pr ++ oL o1 g f1) (wr := mW am g κ th ch cm rm row ++ oD o2 g f2) (W2 := fun (u : US) => wW g u.1 ((opSetNames κ (xs (i + 1)) (xs (i + 2)) (xs (i + 3))).2.2) u.2.1 u.2.2.1 u.2.2.2.1 u.2.2.2.2.1 o1 u.2.2.2.2.2 am κ th ch cm rm row o2 f2) (List.Perm.refl _) (fun _ => List.Perm.refl _) (tL_setNames l D g _ ad κ X cs lf pr o1 f1 (xs (i + 1)) (xs (i + 2)) (xs (i + 3)) htr hV hw hk hd)) ⟨rfl, rfl, by decide, by decide⟩ ⟨by omega, by omega⟩ rfl rfl (Nat.le_of_ble_eq_true rfl) dL_law_580 ?_
  intro r u hu
  obtain ⟨hr, hc4, hval, hu0, hinv⟩ := hu
  refine J_istore cx (L' := (6, .int r) :: LL b (ad 0 0) (am 0) o1 o2 i) dL_law_583 (by decide) rfl ?_
  refine J_aload_n cx dL_law_585 rfl 4 rfl ?_
  refine J_sget cx hX hbl hbA hLn (i := i) (k := 1) (by omega) 6 1 rfl rfl (by decide) dL_law_586 dL_law_587 dL_law_589 dL_law_590 dL_law_591 ?_
  refine J_sget cx hX hbl hbA hLn (i := i) (k := 2) (by omega) 6 1 rfl rfl (by decide) dL_law_592 dL_law_593 dL_law_595 dL_law_596 dL_law_597 ?_
  refine J_sget cx hX hbl hbA hLn (i := i) (k := 3) (by omega) 6 1 rfl rfl (by decide) dL_law_598 dL_law_599 dL_law_601 dL_law_602 dL_law_603 ?_
  refine J_callVi cx kL_163 (As := [.int (xs (i + 1)), .int (xs (i + 2)), .int (xs (i + 3))]) (frI (w := mW am g κ th ch cm rm row) (wr := (iW u.1 g ((opSetNames κ (xs (i + 1)) (xs (i + 2)) (xs (i + 3))).2.2) u.2.1 u.2.2.1 u.2.2.2.1 u.2.2.2.2.1 ++ oL o1 g u.2.2.2.2.2) ++ oD o2 g f2) (W2 := fun _ => wW g u.1 ((opSetNames κ (xs (i + 1)) (xs (i + 2)) (xs (i + 3))).2.2) u.2.1 u.2.2.1 u.2.2.2.1 u.2.2.2.2.1 o1 u.2.2.2.2.2 am ((opSetNames κ (xs (i + 1)) (xs (i + 2)) (xs (i + 3))).2.2) (nI (opSetNames κ (xs (i + 1)) (xs (i + 2)) (xs (i + 3))).1) ch cm rm row o2 f2) (pm_m _ _ _) (fun _ => (pm_m _ _ _).symm) (tX7_setNames l D g _ am κ th ch cm rm row (xs (i + 1)) (xs (i + 2)) (xs (i + 3)) hV.1.1)) ⟨rfl, rfl, by decide, by decide⟩ ⟨by omega, by omega⟩ rfl (iW u.1 g ((opSetNames κ (xs (i + 1)) (xs (i + 2)) (xs (i + 3))).2.2) u.2.1 u.2.2.1 u.2.2.2.1 u.2.2.2.2.1 ++ oL o1 g u.2.2.2.2.2).length (at_md rfl) rfl rfl (Nat.le_of_ble_eq_true rfl) dL_law_604 ?_
  intro r9 _ hr9
  subst hr9
  refine J_istore cx (L' := (7, .int ((opSetNames κ (xs (i + 1)) (xs (i + 2)) (xs (i + 3))).2.1)) :: (6, .int r) :: LL b (ad 0 0) (am 0) o1 o2 i) dL_law_607 (by decide) rfl ?_
  refine tl_I cx (cd := _) dL_law_609 dL_law_610 dL_law_613 dL_law_615 dL_law_620 dL_law_622 dL_law_625 dL_law_626 dL_law_627 dL_law_628 dL_law_630 dL_law_631 dL_law_632 dL_law_637 (by decide) hr.symm hr hc4 hval (by omega) (by omega) ?_
  have hx0 : u.1 0 0 = ad 0 0 := congrFun hu0 0
  exact J_widen (by omega) (by omega) (nx u.1 _ _ _ _ _ _ _ _ _ _ _ _ hx0 hinv (dy_setNames))
set_option maxHeartbeats 1000000 in
theorem lw_c5 (cx : CX p l s m args meth c RL cL_law ret 9 D g A) (htr : l.stackTraces = false) (hX : va_X b Ln xs s s.heap) (hbl : b < s.heap.size) (hbA : ¬ A b) (hLn : Ln ≤ 2560) (hi : i + 5 ≤ Ln) (hV : IV κ X) (hw : WV κ cs) (hk : κ.2.2.1 1 ≤ κ.2.2.1 0) (hd : κ.2.2.1 2 + 999 < 2147483648) (hc : cells + 20 ≤ room_1.cells) (hs : slots + 120 ≤ room_1.slots) (nx : NX p l e s m args below meth c D g A Q (cells + 20) (slots + 120) (κ.2.2.1 2 + 999) (ad 0 0) am b o1 o2 i) : J p l e room_1 s m args below meth c D A 9 Q cells slots (wW g ad κ X cs lf pr o1 f1 am κ th ch cm rm row o2 f2) (LL b (ad 0 0) (am 0) o1 o2 i) 640 [] := by
  refine J_aload_n cx dL_law_640 rfl 4 rfl ?_
  refine J_sget cx hX hbl hbA hLn (i := i) (k := 1) (by omega) 5 0 rfl rfl (by decide) dL_law_641 dL_law_642 dL_law_644 dL_law_645 dL_law_646 ?_
  refine J_sget cx hX hbl hbA hLn (i := i) (k := 2) (by omega) 5 0 rfl rfl (by decide) dL_law_647 dL_law_648 dL_law_650 dL_law_651 dL_law_652 ?_
  refine J_bool cx dL_law_653 dL_law_656 dL_law_657 dL_law_660 ?_
  refine J_aload_n cx dL_law_661 rfl 2 rfl ?_
  refine J_callHi cx kL_164 (As := [.ref (ad 0 0), .int (xs (i + 1)), .int (zb (!decide (xs (i + 2) = 0))), .ref o1]) (frI (w := iW ad g κ X cs lf pr ++ oL o1 g f1) (wr := mW am g κ th ch cm rm row ++ oD o2 g f2) (W2 := fun (u : US) => wW g u.1 ((opTrust κ (xs (i + 1)) (!decide (xs (i + 2) = 0))).2.2) u.2.1 u.2.2.1 u.2.2.2.1 u.2.2.2.2.1 o1 u.2.2.2.2.2 am κ th ch cm rm row o2 f2) (List.Perm.refl _) (fun _ => List.Perm.refl _) (tL_trust l D g _ ad κ X cs lf pr o1 f1 (xs (i + 1)) (!decide (xs (i + 2) = 0)) htr hV hw hk hd)) ⟨rfl, rfl, by decide, by decide⟩ ⟨by omega, by omega⟩ rfl rfl (Nat.le_of_ble_eq_true rfl) dL_law_662 ?_
  intro r u hu
  obtain ⟨hr, hc4, hval, hu0, hinv⟩ := hu
  refine J_istore cx (L' := (6, .int r) :: LL b (ad 0 0) (am 0) o1 o2 i) dL_law_665 (by decide) rfl ?_
  refine J_aload_n cx dL_law_667 rfl 4 rfl ?_
  refine J_sget cx hX hbl hbA hLn (i := i) (k := 1) (by omega) 6 1 rfl rfl (by decide) dL_law_668 dL_law_669 dL_law_671 dL_law_672 dL_law_673 ?_
  refine J_sget cx hX hbl hbA hLn (i := i) (k := 2) (by omega) 6 1 rfl rfl (by decide) dL_law_674 dL_law_675 dL_law_677 dL_law_678 dL_law_679 ?_
  refine J_bool cx dL_law_680 dL_law_683 dL_law_684 dL_law_687 ?_
  refine J_callVi cx kL_167 (As := [.int (xs (i + 1)), .int (zb (!decide (xs (i + 2) = 0)))]) (frI (w := mW am g κ th ch cm rm row) (wr := (iW u.1 g ((opTrust κ (xs (i + 1)) (!decide (xs (i + 2) = 0))).2.2) u.2.1 u.2.2.1 u.2.2.2.1 u.2.2.2.2.1 ++ oL o1 g u.2.2.2.2.2) ++ oD o2 g f2) (W2 := fun _ => wW g u.1 ((opTrust κ (xs (i + 1)) (!decide (xs (i + 2) = 0))).2.2) u.2.1 u.2.2.1 u.2.2.2.1 u.2.2.2.2.1 o1 u.2.2.2.2.2 am ((opTrust κ (xs (i + 1)) (!decide (xs (i + 2) = 0))).2.2) (nI (opTrust κ (xs (i + 1)) (!decide (xs (i + 2) = 0))).1) ch cm rm row o2 f2) (pm_m _ _ _) (fun _ => (pm_m _ _ _).symm) (tX7_trust l D g _ am κ th ch cm rm row (xs (i + 1)) (!decide (xs (i + 2) = 0)) hV.1.1)) ⟨rfl, rfl, by decide, by decide⟩ ⟨by omega, by omega⟩ rfl (iW u.1 g ((opTrust κ (xs (i + 1)) (!decide (xs (i + 2) = 0))).2.2) u.2.1 u.2.2.1 u.2.2.2.1 u.2.2.2.2.1 ++ oL o1 g u.2.2.2.2.2).length (at_md rfl) rfl rfl (Nat.le_of_ble_eq_true rfl) dL_law_688 ?_
  intro r9 _ hr9
  subst hr9
  refine J_istore cx (L' := (7, .int ((opTrust κ (xs (i + 1)) (!decide (xs (i + 2) = 0))).2.1)) :: (6, .int r) :: LL b (ad 0 0) (am 0) o1 o2 i) dL_law_691 (by decide) rfl ?_
  refine tl_I cx (cd := _) dL_law_693 dL_law_694 dL_law_697 dL_law_699 dL_law_704 dL_law_706 dL_law_709 dL_law_710 dL_law_711 dL_law_712 dL_law_714 dL_law_715 dL_law_716 dL_law_721 (by decide) hr.symm hr hc4 hval (by omega) (by omega) ?_
  have hx0 : u.1 0 0 = ad 0 0 := congrFun hu0 0
  exact J_widen (by omega) (by omega) (nx u.1 _ _ _ _ _ _ _ _ _ _ _ _ hx0 hinv (dy_trust))
set_option maxHeartbeats 1000000 in
theorem lw_c6 (cx : CX p l s m args meth c RL cL_law ret 9 D g A) (htr : l.stackTraces = false) (hX : va_X b Ln xs s s.heap) (hbl : b < s.heap.size) (hbA : ¬ A b) (hLn : Ln ≤ 2560) (hi : i + 5 ≤ Ln) (hV : IV κ X) (hw : WV κ cs) (hk : κ.2.2.1 1 ≤ κ.2.2.1 0) (hd : κ.2.2.1 2 + 999 < 2147483648) (hc : cells + 20 ≤ room_1.cells) (hs : slots + 120 ≤ room_1.slots) (nx : NX p l e s m args below meth c D g A Q (cells + 20) (slots + 120) (κ.2.2.1 2 + 999) (ad 0 0) am b o1 o2 i) : J p l e room_1 s m args below meth c D A 9 Q cells slots (wW g ad κ X cs lf pr o1 f1 am κ th ch cm rm row o2 f2) (LL b (ad 0 0) (am 0) o1 o2 i) 724 [] := by
  refine J_aload_n cx dL_law_724 rfl 4 rfl ?_
  refine J_sget cx hX hbl hbA hLn (i := i) (k := 1) (by omega) 5 0 rfl rfl (by decide) dL_law_725 dL_law_726 dL_law_728 dL_law_729 dL_law_730 ?_
  refine J_aload_n cx dL_law_731 rfl 2 rfl ?_
  refine J_callHi cx kL_168 (As := [.ref (ad 0 0), .int (xs (i + 1)), .ref o1]) (frI (w := iW ad g κ X cs lf pr ++ oL o1 g f1) (wr := mW am g κ th ch cm rm row ++ oD o2 g f2) (W2 := fun (u : US) => wW g u.1 ((opRevoke κ (xs (i + 1))).2.2) u.2.1 u.2.2.1 u.2.2.2.1 u.2.2.2.2.1 o1 u.2.2.2.2.2 am κ th ch cm rm row o2 f2) (List.Perm.refl _) (fun _ => List.Perm.refl _) (tL_revoke l D g _ ad κ X cs lf pr o1 f1 (xs (i + 1)) htr hV hw hk hd)) ⟨rfl, rfl, by decide, by decide⟩ ⟨by omega, by omega⟩ rfl rfl (Nat.le_of_ble_eq_true rfl) dL_law_732 ?_
  intro r u hu
  obtain ⟨hr, hc4, hval, hu0, hinv⟩ := hu
  refine J_istore cx (L' := (6, .int r) :: LL b (ad 0 0) (am 0) o1 o2 i) dL_law_735 (by decide) rfl ?_
  refine J_aload_n cx dL_law_737 rfl 4 rfl ?_
  refine J_sget cx hX hbl hbA hLn (i := i) (k := 1) (by omega) 6 1 rfl rfl (by decide) dL_law_738 dL_law_739 dL_law_741 dL_law_742 dL_law_743 ?_
  refine J_callVi cx kL_171 (As := [.int (xs (i + 1))]) (frI (w := mW am g κ th ch cm rm row) (wr := (iW u.1 g ((opRevoke κ (xs (i + 1))).2.2) u.2.1 u.2.2.1 u.2.2.2.1 u.2.2.2.2.1 ++ oL o1 g u.2.2.2.2.2) ++ oD o2 g f2) (W2 := fun _ => wW g u.1 ((opRevoke κ (xs (i + 1))).2.2) u.2.1 u.2.2.1 u.2.2.2.1 u.2.2.2.2.1 o1 u.2.2.2.2.2 am ((opRevoke κ (xs (i + 1))).2.2) (nI (opRevoke κ (xs (i + 1))).1) ch cm rm row o2 f2) (pm_m _ _ _) (fun _ => (pm_m _ _ _).symm) (tX7_revoke l D g _ am κ th ch cm rm row (xs (i + 1)) hV.1.1)) ⟨rfl, rfl, by decide, by decide⟩ ⟨by omega, by omega⟩ rfl (iW u.1 g ((opRevoke κ (xs (i + 1))).2.2) u.2.1 u.2.2.1 u.2.2.2.1 u.2.2.2.2.1 ++ oL o1 g u.2.2.2.2.2).length (at_md rfl) rfl rfl (Nat.le_of_ble_eq_true rfl) dL_law_744 ?_
  intro r9 _ hr9
  subst hr9
  refine J_istore cx (L' := (7, .int ((opRevoke κ (xs (i + 1))).2.1)) :: (6, .int r) :: LL b (ad 0 0) (am 0) o1 o2 i) dL_law_747 (by decide) rfl ?_
  refine tl_I cx (cd := _) dL_law_749 dL_law_750 dL_law_753 dL_law_755 dL_law_760 dL_law_762 dL_law_765 dL_law_766 dL_law_767 dL_law_768 dL_law_770 dL_law_771 dL_law_772 dL_law_777 (by decide) hr.symm hr hc4 hval (by omega) (by omega) ?_
  have hx0 : u.1 0 0 = ad 0 0 := congrFun hu0 0
  exact J_widen (by omega) (by omega) (nx u.1 _ _ _ _ _ _ _ _ _ _ _ _ hx0 hinv (dy_revoke))
set_option maxHeartbeats 1000000 in
theorem lw_c7 (cx : CX p l s m args meth c RL cL_law ret 9 D g A) (htr : l.stackTraces = false) (hX : va_X b Ln xs s s.heap) (hbl : b < s.heap.size) (hbA : ¬ A b) (hLn : Ln ≤ 2560) (hi : i + 5 ≤ Ln) (hV : IV κ X) (hw : WV κ cs) (hk : κ.2.2.1 1 ≤ κ.2.2.1 0) (hd : κ.2.2.1 2 + 999 < 2147483648) (hc : cells + 20 ≤ room_1.cells) (hs : slots + 120 ≤ room_1.slots) (nx : NX p l e s m args below meth c D g A Q (cells + 20) (slots + 120) (κ.2.2.1 2 + 999) (ad 0 0) am b o1 o2 i) : J p l e room_1 s m args below meth c D A 9 Q cells slots (wW g ad κ X cs lf pr o1 f1 am κ th ch cm rm row o2 f2) (LL b (ad 0 0) (am 0) o1 o2 i) 780 [] := by
  refine J_aload_n cx dL_law_780 rfl 4 rfl ?_
  refine J_sget cx hX hbl hbA hLn (i := i) (k := 1) (by omega) 5 0 rfl rfl (by decide) dL_law_781 dL_law_782 dL_law_784 dL_law_785 dL_law_786 ?_
  refine J_aload_n cx dL_law_787 rfl 2 rfl ?_
  refine J_callHi cx kL_172 (As := [.ref (ad 0 0), .int (xs (i + 1)), .ref o1]) (frI (w := iW ad g κ X cs lf pr ++ oL o1 g f1) (wr := mW am g κ th ch cm rm row ++ oD o2 g f2) (W2 := fun (u : US) => wW g u.1 ((opPublish κ (xs (i + 1))).2.2) u.2.1 u.2.2.1 u.2.2.2.1 u.2.2.2.2.1 o1 u.2.2.2.2.2 am κ th ch cm rm row o2 f2) (List.Perm.refl _) (fun _ => List.Perm.refl _) (tL_publish l D g _ ad κ X cs lf pr o1 f1 (xs (i + 1)) htr hV hw hk hd)) ⟨rfl, rfl, by decide, by decide⟩ ⟨by omega, by omega⟩ rfl rfl (Nat.le_of_ble_eq_true rfl) dL_law_788 ?_
  intro r u hu
  obtain ⟨hr, hc4, hval, hu0, hinv⟩ := hu
  refine J_istore cx (L' := (6, .int r) :: LL b (ad 0 0) (am 0) o1 o2 i) dL_law_791 (by decide) rfl ?_
  refine J_aload_n cx dL_law_793 rfl 4 rfl ?_
  refine J_sget cx hX hbl hbA hLn (i := i) (k := 1) (by omega) 6 1 rfl rfl (by decide) dL_law_794 dL_law_795 dL_law_797 dL_law_798 dL_law_799 ?_
  refine J_callVi cx kL_174 (As := [.int (xs (i + 1))]) (frI (w := mW am g κ th ch cm rm row) (wr := (iW u.1 g ((opPublish κ (xs (i + 1))).2.2) u.2.1 u.2.2.1 u.2.2.2.1 u.2.2.2.2.1 ++ oL o1 g u.2.2.2.2.2) ++ oD o2 g f2) (W2 := fun _ => wW g u.1 ((opPublish κ (xs (i + 1))).2.2) u.2.1 u.2.2.1 u.2.2.2.1 u.2.2.2.2.1 o1 u.2.2.2.2.2 am ((opPublish κ (xs (i + 1))).2.2) (nI (opPublish κ (xs (i + 1))).1) ch cm rm row o2 f2) (pm_m _ _ _) (fun _ => (pm_m _ _ _).symm) (tX7_publish l D g _ am κ th ch cm rm row (xs (i + 1)) hV.1.1)) ⟨rfl, rfl, by decide, by decide⟩ ⟨by omega, by omega⟩ rfl (iW u.1 g ((opPublish κ (xs (i + 1))).2.2) u.2.1 u.2.2.1 u.2.2.2.1 u.2.2.2.2.1 ++ oL o1 g u.2.2.2.2.2).length (at_md rfl) rfl rfl (Nat.le_of_ble_eq_true rfl) dL_law_800 ?_
  intro r9 _ hr9
  subst hr9
  refine J_istore cx (L' := (7, .int ((opPublish κ (xs (i + 1))).2.1)) :: (6, .int r) :: LL b (ad 0 0) (am 0) o1 o2 i) dL_law_803 (by decide) rfl ?_
  refine tl_I cx (cd := _) dL_law_805 dL_law_806 dL_law_809 dL_law_811 dL_law_816 dL_law_818 dL_law_821 dL_law_822 dL_law_823 dL_law_824 dL_law_826 dL_law_827 dL_law_828 dL_law_833 (by decide) hr.symm hr hc4 hval (by omega) (by omega) ?_
  have hx0 : u.1 0 0 = ad 0 0 := congrFun hu0 0
  exact J_widen (by omega) (by omega) (nx u.1 _ _ _ _ _ _ _ _ _ _ _ _ hx0 hinv (dy_publish))
set_option maxHeartbeats 1000000 in
theorem lw_c8 (cx : CX p l s m args meth c RL cL_law ret 9 D g A) (htr : l.stackTraces = false) (hX : va_X b Ln xs s s.heap) (hbl : b < s.heap.size) (hbA : ¬ A b) (hLn : Ln ≤ 2560) (hi : i + 5 ≤ Ln) (hV : IV κ X) (hw : WV κ cs) (hk : κ.2.2.1 1 ≤ κ.2.2.1 0) (hd : κ.2.2.1 2 + 999 < 2147483648) (hc : cells + 20 ≤ room_1.cells) (hs : slots + 120 ≤ room_1.slots) (nx : NX p l e s m args below meth c D g A Q (cells + 20) (slots + 120) (κ.2.2.1 2 + 999) (ad 0 0) am b o1 o2 i) : J p l e room_1 s m args below meth c D A 9 Q cells slots (wW g ad κ X cs lf pr o1 f1 am κ th ch cm rm row o2 f2) (LL b (ad 0 0) (am 0) o1 o2 i) 836 [] := by
  refine J_aload_n cx dL_law_836 rfl 4 rfl ?_
  refine J_sget cx hX hbl hbA hLn (i := i) (k := 1) (by omega) 5 0 rfl rfl (by decide) dL_law_837 dL_law_838 dL_law_840 dL_law_841 dL_law_842 ?_
  refine J_aload_n cx dL_law_843 rfl 2 rfl ?_
  refine J_callHi cx kL_175 (As := [.ref (ad 0 0), .int (xs (i + 1)), .ref o1]) (frI (w := iW ad g κ X cs lf pr ++ oL o1 g f1) (wr := mW am g κ th ch cm rm row ++ oD o2 g f2) (W2 := fun (u : US) => wW g u.1 ((opPass κ (xs (i + 1))).2.2) u.2.1 u.2.2.1 u.2.2.2.1 u.2.2.2.2.1 o1 u.2.2.2.2.2 am κ th ch cm rm row o2 f2) (List.Perm.refl _) (fun _ => List.Perm.refl _) (tL_pass l D g _ ad κ X cs lf pr o1 f1 (xs (i + 1)) htr hV hw hk hd)) ⟨rfl, rfl, by decide, by decide⟩ ⟨by omega, by omega⟩ rfl rfl (Nat.le_of_ble_eq_true rfl) dL_law_844 ?_
  intro r u hu
  obtain ⟨hr, hc4, hval, hu0, hinv⟩ := hu
  refine J_istore cx (L' := (6, .int r) :: LL b (ad 0 0) (am 0) o1 o2 i) dL_law_847 (by decide) rfl ?_
  refine J_aload_n cx dL_law_849 rfl 4 rfl ?_
  refine J_sget cx hX hbl hbA hLn (i := i) (k := 1) (by omega) 6 1 rfl rfl (by decide) dL_law_850 dL_law_851 dL_law_853 dL_law_854 dL_law_855 ?_
  refine J_callVi cx kL_177 (As := [.int (xs (i + 1))]) (frI (w := mW am g κ th ch cm rm row) (wr := (iW u.1 g ((opPass κ (xs (i + 1))).2.2) u.2.1 u.2.2.1 u.2.2.2.1 u.2.2.2.2.1 ++ oL o1 g u.2.2.2.2.2) ++ oD o2 g f2) (W2 := fun _ => wW g u.1 ((opPass κ (xs (i + 1))).2.2) u.2.1 u.2.2.1 u.2.2.2.1 u.2.2.2.2.1 o1 u.2.2.2.2.2 am ((opPass κ (xs (i + 1))).2.2) (nI (opPass κ (xs (i + 1))).1) ch cm rm row o2 f2) (pm_m _ _ _) (fun _ => (pm_m _ _ _).symm) (tX7_pass l D g _ am κ th ch cm rm row (xs (i + 1)) )) ⟨rfl, rfl, by decide, by decide⟩ ⟨by omega, by omega⟩ rfl (iW u.1 g ((opPass κ (xs (i + 1))).2.2) u.2.1 u.2.2.1 u.2.2.2.1 u.2.2.2.2.1 ++ oL o1 g u.2.2.2.2.2).length (at_md rfl) rfl rfl (Nat.le_of_ble_eq_true rfl) dL_law_856 ?_
  intro r9 _ hr9
  subst hr9
  refine J_istore cx (L' := (7, .int ((opPass κ (xs (i + 1))).2.1)) :: (6, .int r) :: LL b (ad 0 0) (am 0) o1 o2 i) dL_law_859 (by decide) rfl ?_
  refine tl_I cx (cd := _) dL_law_861 dL_law_862 dL_law_865 dL_law_867 dL_law_872 dL_law_874 dL_law_877 dL_law_878 dL_law_879 dL_law_880 dL_law_882 dL_law_883 dL_law_884 dL_law_889 (by decide) hr.symm hr hc4 hval (by omega) (by omega) ?_
  have hx0 : u.1 0 0 = ad 0 0 := congrFun hu0 0
  exact J_widen (by omega) (by omega) (nx u.1 _ _ _ _ _ _ _ _ _ _ _ _ hx0 hinv (day_pass _))
set_option maxHeartbeats 1000000 in
theorem lw_c9 (cx : CX p l s m args meth c RL cL_law ret 9 D g A) (htr : l.stackTraces = false) (hX : va_X b Ln xs s s.heap) (hbl : b < s.heap.size) (hbA : ¬ A b) (hLn : Ln ≤ 2560) (hi : i + 5 ≤ Ln) (hV : IV κ X) (hw : WV κ cs) (hk : κ.2.2.1 1 ≤ κ.2.2.1 0) (hd : κ.2.2.1 2 + 999 < 2147483648) (hc : cells + 20 ≤ room_1.cells) (hs : slots + 120 ≤ room_1.slots) (nx : NX p l e s m args below meth c D g A Q (cells + 20) (slots + 120) (κ.2.2.1 2 + 999) (ad 0 0) am b o1 o2 i) : J p l e room_1 s m args below meth c D A 9 Q cells slots (wW g ad κ X cs lf pr o1 f1 am κ th ch cm rm row o2 f2) (LL b (ad 0 0) (am 0) o1 o2 i) 892 [] := by
  refine J_aload_n cx dL_law_892 rfl 4 rfl ?_
  refine J_callVi cx kL_178 (As := []) (frI (w := iW ad g κ X cs lf pr) (wr := oL o1 g f1 ++ (mW am g κ th ch cm rm row ++ oD o2 g f2)) (W2 := fun _ => wW g ad κ X cs lf pr o1 f1 am κ th ch cm rm row o2 f2) (pm_x _ _ _) (fun _ => (pm_x _ _ _).symm) (tX6_day l D g _ ad κ X cs lf pr )) ⟨rfl, rfl, by decide, by decide⟩ ⟨by omega, by omega⟩ rfl 0 rfl rfl rfl (Nat.le_of_ble_eq_true rfl) dL_law_893 ?_
  intro r9 _ hr9
  subst hr9
  refine J_aload_n cx dL_law_896 rfl 3 rfl ?_
  refine J_callVi cx kL_181 (As := []) (frI (w := mW am g κ th ch cm rm row) (wr := (iW ad g κ X cs lf pr ++ oL o1 g f1) ++ oD o2 g f2) (W2 := fun _ => wW g ad κ X cs lf pr o1 f1 am κ (nI 0) ch cm rm row o2 f2) (pm_m _ _ _) (fun _ => (pm_m _ _ _).symm) (tX7_day l D g _ am κ th ch cm rm row )) ⟨rfl, rfl, by decide, by decide⟩ ⟨by omega, by omega⟩ rfl (iW ad g κ X cs lf pr ++ oL o1 g f1).length (at_md rfl) rfl rfl (Nat.le_of_ble_eq_true rfl) dL_law_897 ?_
  intro r8 _ hr8
  subst hr8
  refine J_icmp_eq cx (tgt := 2627) dL_law_900 (by decide) (fun _ => ?_) (fun h => absurd rfl h)
  exact J_widen (by omega) (by omega) (nx ad _ _ _ _ _ _ _ _ _ _ _ _ rfl ⟨hV, hw, hk⟩ (Nat.le_add_right _ _))
set_option maxHeartbeats 1000000 in
theorem lw_c10 (cx : CX p l s m args meth c RL cL_law ret 9 D g A) (htr : l.stackTraces = false) (hX : va_X b Ln xs s s.heap) (hbl : b < s.heap.size) (hbA : ¬ A b) (hLn : Ln ≤ 2560) (hi : i + 5 ≤ Ln) (hV : IV κ X) (hw : WV κ cs) (hk : κ.2.2.1 1 ≤ κ.2.2.1 0) (hd : κ.2.2.1 2 + 999 < 2147483648) (hc : cells + 20 ≤ room_1.cells) (hs : slots + 120 ≤ room_1.slots) (nx : NX p l e s m args below meth c D g A Q (cells + 20) (slots + 120) (κ.2.2.1 2 + 999) (ad 0 0) am b o1 o2 i) : J p l e room_1 s m args below meth c D A 9 Q cells slots (wW g ad κ X cs lf pr o1 f1 am κ th ch cm rm row o2 f2) (LL b (ad 0 0) (am 0) o1 o2 i) 905 [] := by
  refine J_aload_n cx dL_law_905 rfl 4 rfl ?_
  refine J_callVi cx kL_182 (As := []) (frI (w := iW ad g κ X cs lf pr) (wr := oL o1 g f1 ++ (mW am g κ th ch cm rm row ++ oD o2 g f2)) (W2 := fun _ => wW g ad κ X cs lf pr o1 f1 am κ th ch cm rm row o2 f2) (pm_x _ _ _) (fun _ => (pm_x _ _ _).symm) (tX6_certificates l D g _ ad κ X cs lf pr )) ⟨rfl, rfl, by decide, by decide⟩ ⟨by omega, by omega⟩ rfl 0 rfl rfl rfl (Nat.le_of_ble_eq_true rfl) dL_law_906 ?_
  intro r9 _ hr9
  subst hr9
  refine J_aload_n cx dL_law_909 rfl 3 rfl ?_
  refine J_callVi cx kL_185 (As := []) (frI (w := mW am g κ th ch cm rm row) (wr := (iW ad g κ X cs lf pr ++ oL o1 g f1) ++ oD o2 g f2) (W2 := fun _ => wW g ad κ X cs lf pr o1 f1 am κ (nI 0) ch cm rm row o2 f2) (pm_m _ _ _) (fun _ => (pm_m _ _ _).symm) (tX7_certificates l D g _ am κ th ch cm rm row )) ⟨rfl, rfl, by decide, by decide⟩ ⟨by omega, by omega⟩ rfl (iW ad g κ X cs lf pr ++ oL o1 g f1).length (at_md rfl) rfl rfl (Nat.le_of_ble_eq_true rfl) dL_law_910 ?_
  intro r8 _ hr8
  subst hr8
  refine J_icmp_eq cx (tgt := 2627) dL_law_913 (by decide) (fun _ => ?_) (fun h => absurd rfl h)
  exact J_widen (by omega) (by omega) (nx ad _ _ _ _ _ _ _ _ _ _ _ _ rfl ⟨hV, hw, hk⟩ (Nat.le_add_right _ _))
set_option maxHeartbeats 1000000 in
theorem lw_c11 (cx : CX p l s m args meth c RL cL_law ret 9 D g A) (htr : l.stackTraces = false) (hX : va_X b Ln xs s s.heap) (hbl : b < s.heap.size) (hbA : ¬ A b) (hLn : Ln ≤ 2560) (hi : i + 5 ≤ Ln) (hV : IV κ X) (hw : WV κ cs) (hk : κ.2.2.1 1 ≤ κ.2.2.1 0) (hd : κ.2.2.1 2 + 999 < 2147483648) (hc : cells + 20 ≤ room_1.cells) (hs : slots + 120 ≤ room_1.slots) (nx : NX p l e s m args below meth c D g A Q (cells + 20) (slots + 120) (κ.2.2.1 2 + 999) (ad 0 0) am b o1 o2 i) : J p l e room_1 s m args below meth c D A 9 Q cells slots (wW g ad κ X cs lf pr o1 f1 am κ th ch cm rm row o2 f2) (LL b (ad 0 0) (am 0) o1 o2 i) 918 [] := by
  refine J_aload_n cx dL_law_918 rfl 4 rfl ?_
  refine J_sget cx hX hbl hbA hLn (i := i) (k := 1) (by omega) 5 0 rfl rfl (by decide) dL_law_919 dL_law_920 dL_law_922 dL_law_923 dL_law_924 ?_
  refine J_aload_n cx dL_law_925 rfl 2 rfl ?_
  refine J_callHi cx kL_186 (As := [.ref (ad 0 0), .int (xs (i + 1)), .ref o1]) (frI (w := iW ad g κ X cs lf pr ++ oL o1 g f1) (wr := mW am g κ th ch cm rm row ++ oD o2 g f2) (W2 := fun (u : US) => wW g u.1 κ u.2.1 u.2.2.1 u.2.2.2.1 u.2.2.2.2.1 o1 u.2.2.2.2.2 am κ th ch cm rm row o2 f2) (List.Perm.refl _) (fun _ => List.Perm.refl _) (tL_nameOf l D g _ ad κ X cs lf pr o1 f1 (xs (i + 1)) htr hV hw hk hd)) ⟨rfl, rfl, by decide, by decide⟩ ⟨by omega, by omega⟩ rfl rfl (Nat.le_of_ble_eq_true rfl) dL_law_926 ?_
  intro r u hu
  obtain ⟨hr, hc4, hval, hu0, hinv⟩ := hu
  refine J_istore cx (L' := (6, .int r) :: LL b (ad 0 0) (am 0) o1 o2 i) dL_law_929 (by decide) rfl ?_
  refine J_aload_n cx dL_law_931 rfl 4 rfl ?_
  refine J_sget cx hX hbl hbA hLn (i := i) (k := 1) (by omega) 6 1 rfl rfl (by decide) dL_law_932 dL_law_933 dL_law_935 dL_law_936 dL_law_937 ?_
  refine J_callVi cx kL_188 (As := [.int (xs (i + 1))]) (frI (w := mW am g κ th ch cm rm row) (wr := (iW u.1 g κ u.2.1 u.2.2.1 u.2.2.2.1 u.2.2.2.2.1 ++ oL o1 g u.2.2.2.2.2) ++ oD o2 g f2) (W2 := fun _ => wW g u.1 κ u.2.1 u.2.2.1 u.2.2.2.1 u.2.2.2.2.1 o1 u.2.2.2.2.2 am κ (nI (opGet κ 0 (xs (i + 1))).1) ch cm rm row o2 f2) (pm_m _ _ _) (fun _ => (pm_m _ _ _).symm) (tX7_nameOf l D g _ am κ th ch cm rm row (xs (i + 1)) hV.1.1)) ⟨rfl, rfl, by decide, by decide⟩ ⟨by omega, by omega⟩ rfl (iW u.1 g κ u.2.1 u.2.2.1 u.2.2.2.1 u.2.2.2.2.1 ++ oL o1 g u.2.2.2.2.2).length (at_md rfl) rfl rfl (Nat.le_of_ble_eq_true rfl) dL_law_938 ?_
  intro r9 _ hr9
  subst hr9
  refine J_istore cx (L' := (7, .int ((opGet κ 0 (xs (i + 1))).2)) :: (6, .int r) :: LL b (ad 0 0) (am 0) o1 o2 i) dL_law_941 (by decide) rfl ?_
  refine tl_I cx (cd := _) dL_law_943 dL_law_944 dL_law_947 dL_law_949 dL_law_954 dL_law_956 dL_law_959 dL_law_960 dL_law_961 dL_law_962 dL_law_964 dL_law_965 dL_law_966 dL_law_971 (by decide) hr.symm hr hc4 hval (by omega) (by omega) ?_
  have hx0 : u.1 0 0 = ad 0 0 := congrFun hu0 0
  exact J_widen (by omega) (by omega) (nx u.1 _ _ _ _ _ _ _ _ _ _ _ _ hx0 hinv (Nat.le_add_right _ _))
set_option maxHeartbeats 1000000 in
theorem lw_c12 (cx : CX p l s m args meth c RL cL_law ret 9 D g A) (htr : l.stackTraces = false) (hX : va_X b Ln xs s s.heap) (hbl : b < s.heap.size) (hbA : ¬ A b) (hLn : Ln ≤ 2560) (hi : i + 5 ≤ Ln) (hV : IV κ X) (hw : WV κ cs) (hk : κ.2.2.1 1 ≤ κ.2.2.1 0) (hd : κ.2.2.1 2 + 999 < 2147483648) (hc : cells + 20 ≤ room_1.cells) (hs : slots + 120 ≤ room_1.slots) (nx : NX p l e s m args below meth c D g A Q (cells + 20) (slots + 120) (κ.2.2.1 2 + 999) (ad 0 0) am b o1 o2 i) : J p l e room_1 s m args below meth c D A 9 Q cells slots (wW g ad κ X cs lf pr o1 f1 am κ th ch cm rm row o2 f2) (LL b (ad 0 0) (am 0) o1 o2 i) 974 [] := by
  refine J_aload_n cx dL_law_974 rfl 4 rfl ?_
  refine J_sget cx hX hbl hbA hLn (i := i) (k := 1) (by omega) 5 0 rfl rfl (by decide) dL_law_975 dL_law_976 dL_law_978 dL_law_979 dL_law_980 ?_
  refine J_aload_n cx dL_law_981 rfl 2 rfl ?_
  refine J_callHi cx kL_189 (As := [.ref (ad 0 0), .int (xs (i + 1)), .ref o1]) (frI (w := iW ad g κ X cs lf pr ++ oL o1 g f1) (wr := mW am g κ th ch cm rm row ++ oD o2 g f2) (W2 := fun (u : US) => wW g u.1 κ u.2.1 u.2.2.1 u.2.2.2.1 u.2.2.2.2.1 o1 u.2.2.2.2.2 am κ th ch cm rm row o2 f2) (List.Perm.refl _) (fun _ => List.Perm.refl _) (tL_keyOf l D g _ ad κ X cs lf pr o1 f1 (xs (i + 1)) htr hV hw hk hd)) ⟨rfl, rfl, by decide, by decide⟩ ⟨by omega, by omega⟩ rfl rfl (Nat.le_of_ble_eq_true rfl) dL_law_982 ?_
  intro r u hu
  obtain ⟨hr, hc4, hval, hu0, hinv⟩ := hu
  refine J_istore cx (L' := (6, .int r) :: LL b (ad 0 0) (am 0) o1 o2 i) dL_law_985 (by decide) rfl ?_
  refine J_aload_n cx dL_law_987 rfl 4 rfl ?_
  refine J_sget cx hX hbl hbA hLn (i := i) (k := 1) (by omega) 6 1 rfl rfl (by decide) dL_law_988 dL_law_989 dL_law_991 dL_law_992 dL_law_993 ?_
  refine J_callVi cx kL_191 (As := [.int (xs (i + 1))]) (frI (w := mW am g κ th ch cm rm row) (wr := (iW u.1 g κ u.2.1 u.2.2.1 u.2.2.2.1 u.2.2.2.2.1 ++ oL o1 g u.2.2.2.2.2) ++ oD o2 g f2) (W2 := fun _ => wW g u.1 κ u.2.1 u.2.2.1 u.2.2.2.1 u.2.2.2.2.1 o1 u.2.2.2.2.2 am κ (nI (opGet κ 1 (xs (i + 1))).1) ch cm rm row o2 f2) (pm_m _ _ _) (fun _ => (pm_m _ _ _).symm) (tX7_keyOf l D g _ am κ th ch cm rm row (xs (i + 1)) hV.1.1)) ⟨rfl, rfl, by decide, by decide⟩ ⟨by omega, by omega⟩ rfl (iW u.1 g κ u.2.1 u.2.2.1 u.2.2.2.1 u.2.2.2.2.1 ++ oL o1 g u.2.2.2.2.2).length (at_md rfl) rfl rfl (Nat.le_of_ble_eq_true rfl) dL_law_994 ?_
  intro r9 _ hr9
  subst hr9
  refine J_istore cx (L' := (7, .int ((opGet κ 1 (xs (i + 1))).2)) :: (6, .int r) :: LL b (ad 0 0) (am 0) o1 o2 i) dL_law_997 (by decide) rfl ?_
  refine tl_I cx (cd := _) dL_law_999 dL_law_1000 dL_law_1003 dL_law_1005 dL_law_1010 dL_law_1012 dL_law_1015 dL_law_1016 dL_law_1017 dL_law_1018 dL_law_1020 dL_law_1021 dL_law_1022 dL_law_1027 (by decide) hr.symm hr hc4 hval (by omega) (by omega) ?_
  have hx0 : u.1 0 0 = ad 0 0 := congrFun hu0 0
  exact J_widen (by omega) (by omega) (nx u.1 _ _ _ _ _ _ _ _ _ _ _ _ hx0 hinv (Nat.le_add_right _ _))
set_option maxHeartbeats 1000000 in
theorem lw_c13 (cx : CX p l s m args meth c RL cL_law ret 9 D g A) (htr : l.stackTraces = false) (hX : va_X b Ln xs s s.heap) (hbl : b < s.heap.size) (hbA : ¬ A b) (hLn : Ln ≤ 2560) (hi : i + 5 ≤ Ln) (hV : IV κ X) (hw : WV κ cs) (hk : κ.2.2.1 1 ≤ κ.2.2.1 0) (hd : κ.2.2.1 2 + 999 < 2147483648) (hc : cells + 20 ≤ room_1.cells) (hs : slots + 120 ≤ room_1.slots) (nx : NX p l e s m args below meth c D g A Q (cells + 20) (slots + 120) (κ.2.2.1 2 + 999) (ad 0 0) am b o1 o2 i) : J p l e room_1 s m args below meth c D A 9 Q cells slots (wW g ad κ X cs lf pr o1 f1 am κ th ch cm rm row o2 f2) (LL b (ad 0 0) (am 0) o1 o2 i) 1030 [] := by
  refine J_aload_n cx dL_law_1030 rfl 4 rfl ?_
  refine J_sget cx hX hbl hbA hLn (i := i) (k := 1) (by omega) 5 0 rfl rfl (by decide) dL_law_1031 dL_law_1032 dL_law_1034 dL_law_1035 dL_law_1036 ?_
  refine J_aload_n cx dL_law_1037 rfl 2 rfl ?_
  refine J_callHi cx kL_192 (As := [.ref (ad 0 0), .int (xs (i + 1)), .ref o1]) (frI (w := iW ad g κ X cs lf pr ++ oL o1 g f1) (wr := mW am g κ th ch cm rm row ++ oD o2 g f2) (W2 := fun (u : US) => wW g u.1 κ u.2.1 u.2.2.1 u.2.2.2.1 u.2.2.2.2.1 o1 u.2.2.2.2.2 am κ th ch cm rm row o2 f2) (List.Perm.refl _) (fun _ => List.Perm.refl _) (tL_issuerKeyOf l D g _ ad κ X cs lf pr o1 f1 (xs (i + 1)) htr hV hw hk hd)) ⟨rfl, rfl, by decide, by decide⟩ ⟨by omega, by omega⟩ rfl rfl (Nat.le_of_ble_eq_true rfl) dL_law_1038 ?_
  intro r u hu
  obtain ⟨hr, hc4, hval, hu0, hinv⟩ := hu
  refine J_istore cx (L' := (6, .int r) :: LL b (ad 0 0) (am 0) o1 o2 i) dL_law_1041 (by decide) rfl ?_
  refine J_aload_n cx dL_law_1043 rfl 4 rfl ?_
  refine J_sget cx hX hbl hbA hLn (i := i) (k := 1) (by omega) 6 1 rfl rfl (by decide) dL_law_1044 dL_law_1045 dL_law_1047 dL_law_1048 dL_law_1049 ?_
  refine J_callVi cx kL_194 (As := [.int (xs (i + 1))]) (frI (w := mW am g κ th ch cm rm row) (wr := (iW u.1 g κ u.2.1 u.2.2.1 u.2.2.2.1 u.2.2.2.2.1 ++ oL o1 g u.2.2.2.2.2) ++ oD o2 g f2) (W2 := fun _ => wW g u.1 κ u.2.1 u.2.2.1 u.2.2.2.1 u.2.2.2.2.1 o1 u.2.2.2.2.2 am κ (nI (opGet κ 5 (xs (i + 1))).1) ch cm rm row o2 f2) (pm_m _ _ _) (fun _ => (pm_m _ _ _).symm) (tX7_issuerKeyOf l D g _ am κ th ch cm rm row (xs (i + 1)) hV.1.1)) ⟨rfl, rfl, by decide, by decide⟩ ⟨by omega, by omega⟩ rfl (iW u.1 g κ u.2.1 u.2.2.1 u.2.2.2.1 u.2.2.2.2.1 ++ oL o1 g u.2.2.2.2.2).length (at_md rfl) rfl rfl (Nat.le_of_ble_eq_true rfl) dL_law_1050 ?_
  intro r9 _ hr9
  subst hr9
  refine J_istore cx (L' := (7, .int ((opGet κ 5 (xs (i + 1))).2)) :: (6, .int r) :: LL b (ad 0 0) (am 0) o1 o2 i) dL_law_1053 (by decide) rfl ?_
  refine tl_I cx (cd := _) dL_law_1055 dL_law_1056 dL_law_1059 dL_law_1061 dL_law_1066 dL_law_1068 dL_law_1071 dL_law_1072 dL_law_1073 dL_law_1074 dL_law_1076 dL_law_1077 dL_law_1078 dL_law_1083 (by decide) hr.symm hr hc4 hval (by omega) (by omega) ?_
  have hx0 : u.1 0 0 = ad 0 0 := congrFun hu0 0
  exact J_widen (by omega) (by omega) (nx u.1 _ _ _ _ _ _ _ _ _ _ _ _ hx0 hinv (Nat.le_add_right _ _))
set_option maxHeartbeats 1000000 in
theorem lw_c14 (cx : CX p l s m args meth c RL cL_law ret 9 D g A) (htr : l.stackTraces = false) (hX : va_X b Ln xs s s.heap) (hbl : b < s.heap.size) (hbA : ¬ A b) (hLn : Ln ≤ 2560) (hi : i + 5 ≤ Ln) (hV : IV κ X) (hw : WV κ cs) (hk : κ.2.2.1 1 ≤ κ.2.2.1 0) (hd : κ.2.2.1 2 + 999 < 2147483648) (hc : cells + 20 ≤ room_1.cells) (hs : slots + 120 ≤ room_1.slots) (nx : NX p l e s m args below meth c D g A Q (cells + 20) (slots + 120) (κ.2.2.1 2 + 999) (ad 0 0) am b o1 o2 i) : J p l e room_1 s m args below meth c D A 9 Q cells slots (wW g ad κ X cs lf pr o1 f1 am κ th ch cm rm row o2 f2) (LL b (ad 0 0) (am 0) o1 o2 i) 1086 [] := by
  refine J_aload_n cx dL_law_1086 rfl 4 rfl ?_
  refine J_sget cx hX hbl hbA hLn (i := i) (k := 1) (by omega) 5 0 rfl rfl (by decide) dL_law_1087 dL_law_1088 dL_law_1090 dL_law_1091 dL_law_1092 ?_
  refine J_aload_n cx dL_law_1093 rfl 2 rfl ?_
  refine J_callHi cx kL_195 (As := [.ref (ad 0 0), .int (xs (i + 1)), .ref o1]) (frI (w := iW ad g κ X cs lf pr ++ oL o1 g f1) (wr := mW am g κ th ch cm rm row ++ oD o2 g f2) (W2 := fun (u : US) => wW g u.1 κ u.2.1 u.2.2.1 u.2.2.2.1 u.2.2.2.2.1 o1 u.2.2.2.2.2 am κ th ch cm rm row o2 f2) (List.Perm.refl _) (fun _ => List.Perm.refl _) (tL_lastDayOf l D g _ ad κ X cs lf pr o1 f1 (xs (i + 1)) htr hV hw hk hd)) ⟨rfl, rfl, by decide, by decide⟩ ⟨by omega, by omega⟩ rfl rfl (Nat.le_of_ble_eq_true rfl) dL_law_1094 ?_
  intro r u hu
  obtain ⟨hr, hc4, hval, hu0, hinv⟩ := hu
  refine J_istore cx (L' := (6, .int r) :: LL b (ad 0 0) (am 0) o1 o2 i) dL_law_1097 (by decide) rfl ?_
  refine J_aload_n cx dL_law_1099 rfl 4 rfl ?_
  refine J_sget cx hX hbl hbA hLn (i := i) (k := 1) (by omega) 6 1 rfl rfl (by decide) dL_law_1100 dL_law_1101 dL_law_1103 dL_law_1104 dL_law_1105 ?_
  refine J_callVi cx kL_197 (As := [.int (xs (i + 1))]) (frI (w := mW am g κ th ch cm rm row) (wr := (iW u.1 g κ u.2.1 u.2.2.1 u.2.2.2.1 u.2.2.2.2.1 ++ oL o1 g u.2.2.2.2.2) ++ oD o2 g f2) (W2 := fun _ => wW g u.1 κ u.2.1 u.2.2.1 u.2.2.2.1 u.2.2.2.2.1 o1 u.2.2.2.2.2 am κ (nI (opGet κ 3 (xs (i + 1))).1) ch cm rm row o2 f2) (pm_m _ _ _) (fun _ => (pm_m _ _ _).symm) (tX7_lastDayOf l D g _ am κ th ch cm rm row (xs (i + 1)) hV.1.1)) ⟨rfl, rfl, by decide, by decide⟩ ⟨by omega, by omega⟩ rfl (iW u.1 g κ u.2.1 u.2.2.1 u.2.2.2.1 u.2.2.2.2.1 ++ oL o1 g u.2.2.2.2.2).length (at_md rfl) rfl rfl (Nat.le_of_ble_eq_true rfl) dL_law_1106 ?_
  intro r9 _ hr9
  subst hr9
  refine J_istore cx (L' := (7, .int ((opGet κ 3 (xs (i + 1))).2)) :: (6, .int r) :: LL b (ad 0 0) (am 0) o1 o2 i) dL_law_1109 (by decide) rfl ?_
  refine tl_I cx (cd := _) dL_law_1111 dL_law_1112 dL_law_1115 dL_law_1117 dL_law_1122 dL_law_1124 dL_law_1127 dL_law_1128 dL_law_1129 dL_law_1130 dL_law_1132 dL_law_1133 dL_law_1134 dL_law_1139 (by decide) hr.symm hr hc4 hval (by omega) (by omega) ?_
  have hx0 : u.1 0 0 = ad 0 0 := congrFun hu0 0
  exact J_widen (by omega) (by omega) (nx u.1 _ _ _ _ _ _ _ _ _ _ _ _ hx0 hinv (Nat.le_add_right _ _))
set_option maxHeartbeats 1000000 in
theorem lw_c15 (cx : CX p l s m args meth c RL cL_law ret 9 D g A) (htr : l.stackTraces = false) (hX : va_X b Ln xs s s.heap) (hbl : b < s.heap.size) (hbA : ¬ A b) (hLn : Ln ≤ 2560) (hi : i + 5 ≤ Ln) (hV : IV κ X) (hw : WV κ cs) (hk : κ.2.2.1 1 ≤ κ.2.2.1 0) (hd : κ.2.2.1 2 + 999 < 2147483648) (hc : cells + 20 ≤ room_1.cells) (hs : slots + 120 ≤ room_1.slots) (nx : NX p l e s m args below meth c D g A Q (cells + 20) (slots + 120) (κ.2.2.1 2 + 999) (ad 0 0) am b o1 o2 i) : J p l e room_1 s m args below meth c D A 9 Q cells slots (wW g ad κ X cs lf pr o1 f1 am κ th ch cm rm row o2 f2) (LL b (ad 0 0) (am 0) o1 o2 i) 1142 [] := by
  refine J_aload_n cx dL_law_1142 rfl 4 rfl ?_
  refine J_sget cx hX hbl hbA hLn (i := i) (k := 1) (by omega) 5 0 rfl rfl (by decide) dL_law_1143 dL_law_1144 dL_law_1146 dL_law_1147 dL_law_1148 ?_
  refine J_aload_n cx dL_law_1149 rfl 2 rfl ?_
  refine J_callHi cx kL_198 (As := [.ref (ad 0 0), .int (xs (i + 1)), .ref o1]) (frI (w := iW ad g κ X cs lf pr ++ oL o1 g f1) (wr := mW am g κ th ch cm rm row ++ oD o2 g f2) (W2 := fun (u : US) => wW g u.1 κ u.2.1 u.2.2.1 u.2.2.2.1 u.2.2.2.2.1 o1 u.2.2.2.2.2 am κ th ch cm rm row o2 f2) (List.Perm.refl _) (fun _ => List.Perm.refl _) (tL_kindOf l D g _ ad κ X cs lf pr o1 f1 (xs (i + 1)) htr hV hw hk hd)) ⟨rfl, rfl, by decide, by decide⟩ ⟨by omega, by omega⟩ rfl rfl (Nat.le_of_ble_eq_true rfl) dL_law_1150 ?_
  intro r u hu
  obtain ⟨hr, hc4, hval, hu0, hinv⟩ := hu
  refine J_istore cx (L' := (6, .int r) :: LL b (ad 0 0) (am 0) o1 o2 i) dL_law_1153 (by decide) rfl ?_
  refine J_aload_n cx dL_law_1155 rfl 4 rfl ?_
  refine J_sget cx hX hbl hbA hLn (i := i) (k := 1) (by omega) 6 1 rfl rfl (by decide) dL_law_1156 dL_law_1157 dL_law_1159 dL_law_1160 dL_law_1161 ?_
  refine J_callVi cx kL_200 (As := [.int (xs (i + 1))]) (frI (w := mW am g κ th ch cm rm row) (wr := (iW u.1 g κ u.2.1 u.2.2.1 u.2.2.2.1 u.2.2.2.2.1 ++ oL o1 g u.2.2.2.2.2) ++ oD o2 g f2) (W2 := fun _ => wW g u.1 κ u.2.1 u.2.2.1 u.2.2.2.1 u.2.2.2.2.1 o1 u.2.2.2.2.2 am κ (nI (opKind κ (xs (i + 1))).1) ch cm rm row o2 f2) (pm_m _ _ _) (fun _ => (pm_m _ _ _).symm) (tX7_kindOf l D g _ am κ th ch cm rm row (xs (i + 1)) hV.1.1)) ⟨rfl, rfl, by decide, by decide⟩ ⟨by omega, by omega⟩ rfl (iW u.1 g κ u.2.1 u.2.2.1 u.2.2.2.1 u.2.2.2.2.1 ++ oL o1 g u.2.2.2.2.2).length (at_md rfl) rfl rfl (Nat.le_of_ble_eq_true rfl) dL_law_1162 ?_
  intro r9 _ hr9
  subst hr9
  refine J_istore cx (L' := (7, .int ((opKind κ (xs (i + 1))).2)) :: (6, .int r) :: LL b (ad 0 0) (am 0) o1 o2 i) dL_law_1165 (by decide) rfl ?_
  refine tl_I cx (cd := _) dL_law_1167 dL_law_1168 dL_law_1171 dL_law_1173 dL_law_1178 dL_law_1180 dL_law_1183 dL_law_1184 dL_law_1185 dL_law_1186 dL_law_1188 dL_law_1189 dL_law_1190 dL_law_1195 (by decide) hr.symm hr hc4 hval (by omega) (by omega) ?_
  have hx0 : u.1 0 0 = ad 0 0 := congrFun hu0 0
  exact J_widen (by omega) (by omega) (nx u.1 _ _ _ _ _ _ _ _ _ _ _ _ hx0 hinv (Nat.le_add_right _ _))
set_option maxHeartbeats 1000000 in
theorem lw_c16 (cx : CX p l s m args meth c RL cL_law ret 9 D g A) (htr : l.stackTraces = false) (hX : va_X b Ln xs s s.heap) (hbl : b < s.heap.size) (hbA : ¬ A b) (hLn : Ln ≤ 2560) (hi : i + 5 ≤ Ln) (hV : IV κ X) (hw : WV κ cs) (hk : κ.2.2.1 1 ≤ κ.2.2.1 0) (hd : κ.2.2.1 2 + 999 < 2147483648) (hc : cells + 20 ≤ room_1.cells) (hs : slots + 120 ≤ room_1.slots) (nx : NX p l e s m args below meth c D g A Q (cells + 20) (slots + 120) (κ.2.2.1 2 + 999) (ad 0 0) am b o1 o2 i) : J p l e room_1 s m args below meth c D A 9 Q cells slots (wW g ad κ X cs lf pr o1 f1 am κ th ch cm rm row o2 f2) (LL b (ad 0 0) (am 0) o1 o2 i) 1198 [] := by
  refine J_aload_n cx dL_law_1198 rfl 4 rfl ?_
  refine J_sget cx hX hbl hbA hLn (i := i) (k := 1) (by omega) 5 0 rfl rfl (by decide) dL_law_1199 dL_law_1200 dL_law_1202 dL_law_1203 dL_law_1204 ?_
  refine J_sget cx hX hbl hbA hLn (i := i) (k := 2) (by omega) 5 0 rfl rfl (by decide) dL_law_1205 dL_law_1206 dL_law_1208 dL_law_1209 dL_law_1210 ?_
  refine J_aload_n cx dL_law_1211 rfl 2 rfl ?_
  refine J_callHi cx kL_201 (As := [.ref (ad 0 0), .int (xs (i + 1)), .int (xs (i + 2)), .ref o1]) (frI (w := iW ad g κ X cs lf pr ++ oL o1 g f1) (wr := mW am g κ th ch cm rm row ++ oD o2 g f2) (W2 := fun (u : US) => wW g u.1 κ u.2.1 u.2.2.1 u.2.2.2.1 u.2.2.2.2.1 o1 u.2.2.2.2.2 am κ th ch cm rm row o2 f2) (List.Perm.refl _) (fun _ => List.Perm.refl _) (tL_isBelow l D g _ ad κ X cs lf pr o1 f1 (xs (i + 1)) (xs (i + 2)) htr hV hw hk hd)) ⟨rfl, rfl, by decide, by decide⟩ ⟨by omega, by omega⟩ rfl rfl (Nat.le_of_ble_eq_true rfl) dL_law_1212 ?_
  intro r u hu
  obtain ⟨hr, hc4, hval, hu0, hinv⟩ := hu
  refine J_istore cx (L' := (6, .int r) :: LL b (ad 0 0) (am 0) o1 o2 i) dL_law_1215 (by decide) rfl ?_
  refine J_aload_n cx dL_law_1217 rfl 4 rfl ?_
  refine J_sget cx hX hbl hbA hLn (i := i) (k := 1) (by omega) 6 1 rfl rfl (by decide) dL_law_1218 dL_law_1219 dL_law_1221 dL_law_1222 dL_law_1223 ?_
  refine J_sget cx hX hbl hbA hLn (i := i) (k := 2) (by omega) 6 1 rfl rfl (by decide) dL_law_1224 dL_law_1225 dL_law_1227 dL_law_1228 dL_law_1229 ?_
  refine J_callVi cx kL_204 (As := [.int (xs (i + 1)), .int (xs (i + 2))]) (frI (w := mW am g κ th ch cm rm row) (wr := (iW u.1 g κ u.2.1 u.2.2.1 u.2.2.2.1 u.2.2.2.2.1 ++ oL o1 g u.2.2.2.2.2) ++ oD o2 g f2) (W2 := fun _ => wW g u.1 κ u.2.1 u.2.2.1 u.2.2.2.1 u.2.2.2.2.1 o1 u.2.2.2.2.2 am κ (nI (opBelow (xs (i + 1)) (xs (i + 2))).1) ch cm rm row o2 f2) (pm_m _ _ _) (fun _ => (pm_m _ _ _).symm) (tX7_isBelow l D g _ am κ th ch cm rm row (xs (i + 1)) (xs (i + 2)) )) ⟨rfl, rfl, by decide, by decide⟩ ⟨by omega, by omega⟩ rfl (iW u.1 g κ u.2.1 u.2.2.1 u.2.2.2.1 u.2.2.2.2.1 ++ oL o1 g u.2.2.2.2.2).length (at_md rfl) rfl rfl (Nat.le_of_ble_eq_true rfl) dL_law_1230 ?_
  intro r9 _ hr9
  subst hr9
  refine J_istore cx (L' := (7, .int (zb (opBelow (xs (i + 1)) (xs (i + 2))).2)) :: (6, .int r) :: LL b (ad 0 0) (am 0) o1 o2 i) dL_law_1233 (by decide) rfl ?_
  refine tl_Z cx (cd := _) dL_law_1235 dL_law_1236 dL_law_1239 dL_law_1241 dL_law_1246 dL_law_1248 dL_law_1251 dL_law_1252 dL_law_1253 dL_law_1254 dL_law_1256 dL_law_1259 dL_law_1260 dL_law_1263 dL_law_1264 dL_law_1265 dL_law_1270 (by decide) hr.symm hr hc4 hval (by omega) (by omega) ?_
  have hx0 : u.1 0 0 = ad 0 0 := congrFun hu0 0
  exact J_widen (by omega) (by omega) (nx u.1 _ _ _ _ _ _ _ _ _ _ _ _ hx0 hinv (Nat.le_add_right _ _))
set_option maxHeartbeats 1000000 in
theorem lw_c17 (cx : CX p l s m args meth c RL cL_law ret 9 D g A) (htr : l.stackTraces = false) (hX : va_X b Ln xs s s.heap) (hbl : b < s.heap.size) (hbA : ¬ A b) (hLn : Ln ≤ 2560) (hi : i + 5 ≤ Ln) (hV : IV κ X) (hw : WV κ cs) (hk : κ.2.2.1 1 ≤ κ.2.2.1 0) (hd : κ.2.2.1 2 + 999 < 2147483648) (hc : cells + 20 ≤ room_1.cells) (hs : slots + 120 ≤ room_1.slots) (nx : NX p l e s m args below meth c D g A Q (cells + 20) (slots + 120) (κ.2.2.1 2 + 999) (ad 0 0) am b o1 o2 i) : J p l e room_1 s m args below meth c D A 9 Q cells slots (wW g ad κ X cs lf pr o1 f1 am κ th ch cm rm row o2 f2) (LL b (ad 0 0) (am 0) o1 o2 i) 1273 [] := by
  refine J_aload_n cx dL_law_1273 rfl 4 rfl ?_
  refine J_sget cx hX hbl hbA hLn (i := i) (k := 1) (by omega) 5 0 rfl rfl (by decide) dL_law_1274 dL_law_1275 dL_law_1277 dL_law_1278 dL_law_1279 ?_
  refine J_sget cx hX hbl hbA hLn (i := i) (k := 2) (by omega) 5 0 rfl rfl (by decide) dL_law_1280 dL_law_1281 dL_law_1283 dL_law_1284 dL_law_1285 ?_
  refine J_aload_n cx dL_law_1286 rfl 2 rfl ?_
  refine J_callHi cx kL_205 (As := [.ref (ad 0 0), .int (xs (i + 1)), .int (xs (i + 2)), .ref o1]) (frI (w := iW ad g κ X cs lf pr ++ oL o1 g f1) (wr := mW am g κ th ch cm rm row ++ oD o2 g f2) (W2 := fun (u : US) => wW g u.1 κ u.2.1 u.2.2.1 u.2.2.2.1 u.2.2.2.2.1 o1 u.2.2.2.2.2 am κ th ch cm rm row o2 f2) (List.Perm.refl _) (fun _ => List.Perm.refl _) (tL_isRevoked l D g _ ad κ X cs lf pr o1 f1 (xs (i + 1)) (xs (i + 2)) htr hV hw hk hd)) ⟨rfl, rfl, by decide, by decide⟩ ⟨by omega, by omega⟩ rfl rfl (Nat.le_of_ble_eq_true rfl) dL_law_1287 ?_
  intro r u hu
  obtain ⟨hr, hc4, hval, hu0, hinv⟩ := hu
  refine J_istore cx (L' := (6, .int r) :: LL b (ad 0 0) (am 0) o1 o2 i) dL_law_1290 (by decide) rfl ?_
  refine J_aload_n cx dL_law_1292 rfl 4 rfl ?_
  refine J_sget cx hX hbl hbA hLn (i := i) (k := 1) (by omega) 6 1 rfl rfl (by decide) dL_law_1293 dL_law_1294 dL_law_1296 dL_law_1297 dL_law_1298 ?_
  refine J_sget cx hX hbl hbA hLn (i := i) (k := 2) (by omega) 6 1 rfl rfl (by decide) dL_law_1299 dL_law_1300 dL_law_1302 dL_law_1303 dL_law_1304 ?_
  refine J_callVi cx kL_207 (As := [.int (xs (i + 1)), .int (xs (i + 2))]) (frI (w := mW am g κ th ch cm rm row) (wr := (iW u.1 g κ u.2.1 u.2.2.1 u.2.2.2.1 u.2.2.2.2.1 ++ oL o1 g u.2.2.2.2.2) ++ oD o2 g f2) (W2 := fun _ => wW g u.1 κ u.2.1 u.2.2.1 u.2.2.2.1 u.2.2.2.2.1 o1 u.2.2.2.2.2 am κ (nI (opRevoked κ (xs (i + 1)) (xs (i + 2))).1) ch cm rm row o2 f2) (pm_m _ _ _) (fun _ => (pm_m _ _ _).symm) (tX7_isRevoked l D g _ am κ th ch cm rm row (xs (i + 1)) (xs (i + 2)) hV.1.1)) ⟨rfl, rfl, by decide, by decide⟩ ⟨by omega, by omega⟩ rfl (iW u.1 g κ u.2.1 u.2.2.1 u.2.2.2.1 u.2.2.2.2.1 ++ oL o1 g u.2.2.2.2.2).length (at_md rfl) rfl rfl (Nat.le_of_ble_eq_true rfl) dL_law_1305 ?_
  intro r9 _ hr9
  subst hr9
  refine J_istore cx (L' := (7, .int (zb (opRevoked κ (xs (i + 1)) (xs (i + 2))).2)) :: (6, .int r) :: LL b (ad 0 0) (am 0) o1 o2 i) dL_law_1308 (by decide) rfl ?_
  refine tl_Z cx (cd := _) dL_law_1310 dL_law_1311 dL_law_1314 dL_law_1316 dL_law_1321 dL_law_1323 dL_law_1326 dL_law_1327 dL_law_1328 dL_law_1329 dL_law_1331 dL_law_1334 dL_law_1335 dL_law_1338 dL_law_1339 dL_law_1340 dL_law_1345 (by decide) hr.symm hr hc4 hval (by omega) (by omega) ?_
  have hx0 : u.1 0 0 = ad 0 0 := congrFun hu0 0
  exact J_widen (by omega) (by omega) (nx u.1 _ _ _ _ _ _ _ _ _ _ _ _ hx0 hinv (Nat.le_add_right _ _))
set_option maxHeartbeats 1000000 in
theorem lw_c18 (cx : CX p l s m args meth c RL cL_law ret 9 D g A) (htr : l.stackTraces = false) (hX : va_X b Ln xs s s.heap) (hbl : b < s.heap.size) (hbA : ¬ A b) (hLn : Ln ≤ 2560) (hi : i + 5 ≤ Ln) (hV : IV κ X) (hw : WV κ cs) (hk : κ.2.2.1 1 ≤ κ.2.2.1 0) (hd : κ.2.2.1 2 + 999 < 2147483648) (hc : cells + 20 ≤ room_1.cells) (hs : slots + 120 ≤ room_1.slots) (nx : NX p l e s m args below meth c D g A Q (cells + 20) (slots + 120) (κ.2.2.1 2 + 999) (ad 0 0) am b o1 o2 i) : J p l e room_1 s m args below meth c D A 9 Q cells slots (wW g ad κ X cs lf pr o1 f1 am κ th ch cm rm row o2 f2) (LL b (ad 0 0) (am 0) o1 o2 i) 1348 [] := by
  refine J_aload_n cx dL_law_1348 rfl 4 rfl ?_
  refine J_sget cx hX hbl hbA hLn (i := i) (k := 1) (by omega) 5 0 rfl rfl (by decide) dL_law_1349 dL_law_1350 dL_law_1352 dL_law_1353 dL_law_1354 ?_
  refine J_sget cx hX hbl hbA hLn (i := i) (k := 2) (by omega) 5 0 rfl rfl (by decide) dL_law_1355 dL_law_1356 dL_law_1358 dL_law_1359 dL_law_1360 ?_
  refine J_aload_n cx dL_law_1361 rfl 2 rfl ?_
  refine J_callHi cx kL_208 (As := [.ref (ad 0 0), .int (xs (i + 1)), .int (xs (i + 2)), .ref o1]) (frI (w := iW ad g κ X cs lf pr ++ oL o1 g f1) (wr := mW am g κ th ch cm rm row ++ oD o2 g f2) (W2 := fun (u : US) => wW g u.1 κ u.2.1 u.2.2.1 u.2.2.2.1 u.2.2.2.2.1 o1 u.2.2.2.2.2 am κ th ch cm rm row o2 f2) (List.Perm.refl _) (fun _ => List.Perm.refl _) (tL_isRevokedByLists l D g _ ad κ X cs lf pr o1 f1 (xs (i + 1)) (xs (i + 2)) htr hV hw hk hd)) ⟨rfl, rfl, by decide, by decide⟩ ⟨by omega, by omega⟩ rfl rfl (Nat.le_of_ble_eq_true rfl) dL_law_1362 ?_
  intro r u hu
  obtain ⟨hr, hc4, hval, hu0, hinv⟩ := hu
  refine J_istore cx (L' := (6, .int r) :: LL b (ad 0 0) (am 0) o1 o2 i) dL_law_1365 (by decide) rfl ?_
  refine J_aload_n cx dL_law_1367 rfl 4 rfl ?_
  refine J_sget cx hX hbl hbA hLn (i := i) (k := 1) (by omega) 6 1 rfl rfl (by decide) dL_law_1368 dL_law_1369 dL_law_1371 dL_law_1372 dL_law_1373 ?_
  refine J_sget cx hX hbl hbA hLn (i := i) (k := 2) (by omega) 6 1 rfl rfl (by decide) dL_law_1374 dL_law_1375 dL_law_1377 dL_law_1378 dL_law_1379 ?_
  refine J_callVi cx kL_210 (As := [.int (xs (i + 1)), .int (xs (i + 2))]) (frI (w := mW am g κ th ch cm rm row) (wr := (iW u.1 g κ u.2.1 u.2.2.1 u.2.2.2.1 u.2.2.2.2.1 ++ oL o1 g u.2.2.2.2.2) ++ oD o2 g f2) (W2 := fun _ => wW g u.1 κ u.2.1 u.2.2.1 u.2.2.2.1 u.2.2.2.2.1 o1 u.2.2.2.2.2 am κ (nI (opRevoked κ (xs (i + 1)) (xs (i + 2))).1) ch cm rm row o2 f2) (pm_m _ _ _) (fun _ => (pm_m _ _ _).symm) (tX7_isRevokedByLists l D g _ am κ th ch cm rm row (xs (i + 1)) (xs (i + 2)) hV.1.1)) ⟨rfl, rfl, by decide, by decide⟩ ⟨by omega, by omega⟩ rfl (iW u.1 g κ u.2.1 u.2.2.1 u.2.2.2.1 u.2.2.2.2.1 ++ oL o1 g u.2.2.2.2.2).length (at_md rfl) rfl rfl (Nat.le_of_ble_eq_true rfl) dL_law_1380 ?_
  intro r9 _ hr9
  subst hr9
  refine J_istore cx (L' := (7, .int (zb (opRevoked κ (xs (i + 1)) (xs (i + 2))).2)) :: (6, .int r) :: LL b (ad 0 0) (am 0) o1 o2 i) dL_law_1383 (by decide) rfl ?_
  refine tl_Z cx (cd := _) dL_law_1385 dL_law_1386 dL_law_1389 dL_law_1391 dL_law_1396 dL_law_1398 dL_law_1401 dL_law_1402 dL_law_1403 dL_law_1404 dL_law_1406 dL_law_1409 dL_law_1410 dL_law_1413 dL_law_1414 dL_law_1415 dL_law_1420 (by decide) hr.symm hr hc4 hval (by omega) (by omega) ?_
  have hx0 : u.1 0 0 = ad 0 0 := congrFun hu0 0
  exact J_widen (by omega) (by omega) (nx u.1 _ _ _ _ _ _ _ _ _ _ _ _ hx0 hinv (Nat.le_add_right _ _))
set_option maxHeartbeats 1000000 in
theorem lw_c19 (cx : CX p l s m args meth c RL cL_law ret 9 D g A) (htr : l.stackTraces = false) (hX : va_X b Ln xs s s.heap) (hbl : b < s.heap.size) (hbA : ¬ A b) (hLn : Ln ≤ 2560) (hi : i + 5 ≤ Ln) (hV : IV κ X) (hw : WV κ cs) (hk : κ.2.2.1 1 ≤ κ.2.2.1 0) (hd : κ.2.2.1 2 + 999 < 2147483648) (hc : cells + 20 ≤ room_1.cells) (hs : slots + 120 ≤ room_1.slots) (nx : NX p l e s m args below meth c D g A Q (cells + 20) (slots + 120) (κ.2.2.1 2 + 999) (ad 0 0) am b o1 o2 i) : J p l e room_1 s m args below meth c D A 9 Q cells slots (wW g ad κ X cs lf pr o1 f1 am κ th ch cm rm row o2 f2) (LL b (ad 0 0) (am 0) o1 o2 i) 1423 [] := by
  refine J_aload_n cx dL_law_1423 rfl 4 rfl ?_
  refine J_sget cx hX hbl hbA hLn (i := i) (k := 1) (by omega) 5 0 rfl rfl (by decide) dL_law_1424 dL_law_1425 dL_law_1427 dL_law_1428 dL_law_1429 ?_
  refine J_aload_n cx dL_law_1430 rfl 2 rfl ?_
  refine J_callHi cx kL_211 (As := [.ref (ad 0 0), .int (xs (i + 1)), .ref o1]) (frI (w := iW ad g κ X cs lf pr ++ oL o1 g f1) (wr := mW am g κ th ch cm rm row ++ oD o2 g f2) (W2 := fun (u : US) => wW g u.1 κ u.2.1 u.2.2.1 u.2.2.2.1 u.2.2.2.2.1 o1 u.2.2.2.2.2 am κ th ch cm rm row o2 f2) (List.Perm.refl _) (fun _ => List.Perm.refl _) (tL_candidates l D g _ ad κ X cs lf pr o1 f1 (xs (i + 1)) htr hV hw hk hd)) ⟨rfl, rfl, by decide, by decide⟩ ⟨by omega, by omega⟩ rfl rfl (Nat.le_of_ble_eq_true rfl) dL_law_1431 ?_
  intro r u hu
  rw [oc_C hV.2.1 hV.1 hV.2.2.1] at hu
  obtain ⟨hr, hc4, hval, hu0, hinv⟩ := hu
  refine J_istore cx (L' := (6, .int r) :: LL b (ad 0 0) (am 0) o1 o2 i) dL_law_1434 (by decide) rfl ?_
  refine J_aload_n cx dL_law_1436 rfl 4 rfl ?_
  refine J_sget cx hX hbl hbA hLn (i := i) (k := 1) (by omega) 6 1 rfl rfl (by decide) dL_law_1437 dL_law_1438 dL_law_1440 dL_law_1441 dL_law_1442 ?_
  refine J_callVi cx kL_213 (As := [.int (xs (i + 1))]) (frI (w := mW am g κ th ch cm rm row) (wr := (iW u.1 g κ u.2.1 u.2.2.1 u.2.2.2.1 u.2.2.2.2.1 ++ oL o1 g u.2.2.2.2.2) ++ oD o2 g f2) (W2 := fun _ => wW g u.1 κ u.2.1 u.2.2.1 u.2.2.2.1 u.2.2.2.2.1 o1 u.2.2.2.2.2 am κ (nI (opCandidates κ (xs (i + 1))).1) ch cm rm row o2 f2) (pm_m _ _ _) (fun _ => (pm_m _ _ _).symm) (tX7_candidates l D g _ am κ th ch cm rm row (xs (i + 1)) hV.1.1)) ⟨rfl, rfl, by decide, by decide⟩ ⟨by omega, by omega⟩ rfl (iW u.1 g κ u.2.1 u.2.2.1 u.2.2.2.1 u.2.2.2.2.1 ++ oL o1 g u.2.2.2.2.2).length (at_md rfl) rfl rfl (Nat.le_of_ble_eq_true rfl) dL_law_1443 ?_
  intro r9 _ hr9
  subst hr9
  refine J_istore cx (L' := (7, .int ((opCandidates κ (xs (i + 1))).2)) :: (6, .int r) :: LL b (ad 0 0) (am 0) o1 o2 i) dL_law_1446 (by decide) rfl ?_
  refine tl_I cx (cd := _) dL_law_1448 dL_law_1449 dL_law_1452 dL_law_1454 dL_law_1459 dL_law_1461 dL_law_1464 dL_law_1465 dL_law_1466 dL_law_1467 dL_law_1469 dL_law_1470 dL_law_1471 dL_law_1476 (by decide) hr.symm hr hc4 hval (by omega) (by omega) ?_
  have hx0 : u.1 0 0 = ad 0 0 := congrFun hu0 0
  exact J_widen (by omega) (by omega) (nx u.1 _ _ _ _ _ _ _ _ _ _ _ _ hx0 hinv (Nat.le_add_right _ _))
end LC
