/-! the cases of the law -/
section LC
variable {p : Program} {l : Launch} {e : Env} {s : State} {m : MethodId} {args : Array Value} {below : List Frame} {meth : Method} {c : Code} {D : va_G} {g : Nat → ClassId} {A : Nat → Prop} {Q : State → Prop} {cells slots : Nat}
variable {ad : Nat → Nat → Nat} {κ : CS} {X : XT} {cs : Nat → CT} {lf : Nat → Int64} {pr : PT} {o1 : Nat} {f1 : Nat → Int64} {am : Nat → Nat} {th : Int32} {ch : Nat → Nat} {cm rm : Nat} {row : Nat → Int64} {o2 : Nat} {f2 : Nat → UInt64} {b i Ln : Nat} {xs : Nat → Int32}
set_option maxHeartbeats 1000000 in
theorem lw_c1 (cx : CX p l s m args meth c RL cL_law (some .int) 9 D g A) (htr : l.stackTraces = false) (hX : va_X b Ln xs s s.heap) (hbl : b < s.heap.size) (hbA : ¬ A b) (hLn : Ln ≤ 2560) (hi : i + 5 ≤ Ln) (hV : IV κ X) (hw : WV κ cs) (hk : κ.2.2.1 1 ≤ κ.2.2.1 0) (hd : κ.2.2.1 2 + 999 < 2147483648) (hc : cells + 20 ≤ room_1.cells) (hs : slots + 120 ≤ room_1.slots) (nx : NX p l e s m args below meth c D g A Q (cells + 20) (slots + 120) (κ.2.2.1 2 + 999) (ad 0 0) am b o1 o2 i) : J p l e room_1 s m args below meth c D A 9 Q cells slots (wW g ad κ X cs lf pr o1 f1 am κ th ch cm rm row o2 f2) (LL b (ad 0 0) (am 0) o1 o2 i) 296 [] := by
  refine J_aload_n cx dL_law_296 rfl 4 rfl ?_
  refine J_sget cx hX hbl hbA hLn (i := i) (k := 1) (by omega) 5 0 rfl rfl (by decide) dL_law_297 dL_law_298 dL_law_300 dL_law_301 dL_law_302 ?_
  refine J_sget cx hX hbl hbA hLn (i := i) (k := 2) (by omega) 5 0 rfl rfl (by decide) dL_law_303 dL_law_304 dL_law_306 dL_law_307 dL_law_308 ?_
  refine J_sget cx hX hbl hbA hLn (i := i) (k := 3) (by omega) 5 0 rfl rfl (by decide) dL_law_309 dL_law_310 dL_law_312 dL_law_313 dL_law_314 ?_
  refine J_aload_n cx dL_law_315 rfl 2 rfl ?_
  refine J_callHi cx kL_151 (As := [.ref (ad 0 0), .int (xs (i + 1)), .int (xs (i + 2)), .int (xs (i + 3)), .ref o1]) (frI (w := iW ad g κ X cs lf pr ++ oL o1 g f1) (wr := mW am g κ th ch cm rm row ++ oD o2 g f2) (W2 := fun (u : US) => wW g u.1 ((opIssue κ (xs (i + 1)) (xs (i + 2)) (xs (i + 3))).2.2) u.2.1 u.2.2.1 u.2.2.2.1 u.2.2.2.2.1 o1 u.2.2.2.2.2 am κ th ch cm rm row o2 f2) (List.Perm.refl _) (fun _ => List.Perm.refl _) (tL_issue l D g _ ad κ X cs lf pr o1 f1 (xs (i + 1)) (xs (i + 2)) (xs (i + 3)) htr hV hw hk hd)) ⟨rfl, rfl, by decide, by decide⟩ ⟨by omega, by omega⟩ rfl rfl (Nat.le_of_ble_eq_true rfl) dL_law_316 ?_
  intro r u hu
  obtain ⟨hr, hc4, hval, hu0, hinv⟩ := hu
  refine J_istore cx (L' := (6, .int r) :: LL b (ad 0 0) (am 0) o1 o2 i) dL_law_319 (by decide) rfl ?_
  refine J_aload_n cx dL_law_321 rfl 4 rfl ?_
  refine J_sget cx hX hbl hbA hLn (i := i) (k := 1) (by omega) 6 1 rfl rfl (by decide) dL_law_322 dL_law_323 dL_law_325 dL_law_326 dL_law_327 ?_
  refine J_sget cx hX hbl hbA hLn (i := i) (k := 2) (by omega) 6 1 rfl rfl (by decide) dL_law_328 dL_law_329 dL_law_331 dL_law_332 dL_law_333 ?_
  refine J_sget cx hX hbl hbA hLn (i := i) (k := 3) (by omega) 6 1 rfl rfl (by decide) dL_law_334 dL_law_335 dL_law_337 dL_law_338 dL_law_339 ?_
  refine J_callVi cx kL_153 (As := [.int (xs (i + 1)), .int (xs (i + 2)), .int (xs (i + 3))]) (frI (w := mW am g κ th ch cm rm row) (wr := (iW u.1 g ((opIssue κ (xs (i + 1)) (xs (i + 2)) (xs (i + 3))).2.2) u.2.1 u.2.2.1 u.2.2.2.1 u.2.2.2.2.1 ++ oL o1 g u.2.2.2.2.2) ++ oD o2 g f2) (W2 := fun _ => wW g u.1 ((opIssue κ (xs (i + 1)) (xs (i + 2)) (xs (i + 3))).2.2) u.2.1 u.2.2.1 u.2.2.2.1 u.2.2.2.2.1 o1 u.2.2.2.2.2 am ((opIssue κ (xs (i + 1)) (xs (i + 2)) (xs (i + 3))).2.2) (nI (opIssue κ (xs (i + 1)) (xs (i + 2)) (xs (i + 3))).1) ch cm rm row o2 f2) (pm_m _ _ _) (fun _ => (pm_m _ _ _).symm) (tX7_issue l D g _ am κ th ch cm rm row (xs (i + 1)) (xs (i + 2)) (xs (i + 3)) hV.1.1)) ⟨rfl, rfl, by decide, by decide⟩ ⟨by omega, by omega⟩ rfl (iW u.1 g ((opIssue κ (xs (i + 1)) (xs (i + 2)) (xs (i + 3))).2.2) u.2.1 u.2.2.1 u.2.2.2.1 u.2.2.2.2.1 ++ oL o1 g u.2.2.2.2.2).length (at_md rfl) rfl rfl (Nat.le_of_ble_eq_true rfl) dL_law_340 ?_
  intro r9 _ hr9
  subst hr9
  refine J_istore cx (L' := (7, .int ((opIssue κ (xs (i + 1)) (xs (i + 2)) (xs (i + 3))).2.1)) :: (6, .int r) :: LL b (ad 0 0) (am 0) o1 o2 i) dL_law_343 (by decide) rfl ?_
  refine tl_I cx (cd := _) dL_law_345 dL_law_346 dL_law_349 dL_law_351 dL_law_356 dL_law_358 dL_law_361 dL_law_362 dL_law_363 dL_law_364 dL_law_366 dL_law_367 dL_law_368 dL_law_373 (by decide) hr.symm hr hc4 hval (by omega) (by omega) ?_
  have hx0 : u.1 0 0 = ad 0 0 := congrFun hu0 0
  exact J_widen (by omega) (by omega) (nx u.1 _ _ _ _ _ _ _ _ _ _ _ _ hx0 hinv (dy_issue hV hw hk hd))
set_option maxHeartbeats 1000000 in
theorem lw_c4 (cx : CX p l s m args meth c RL cL_law (some .int) 9 D g A) (htr : l.stackTraces = false) (hX : va_X b Ln xs s s.heap) (hbl : b < s.heap.size) (hbA : ¬ A b) (hLn : Ln ≤ 2560) (hi : i + 5 ≤ Ln) (hV : IV κ X) (hw : WV κ cs) (hk : κ.2.2.1 1 ≤ κ.2.2.1 0) (hd : κ.2.2.1 2 + 999 < 2147483648) (hc : cells + 20 ≤ room_1.cells) (hs : slots + 120 ≤ room_1.slots) (nx : NX p l e s m args below meth c D g A Q (cells + 20) (slots + 120) (κ.2.2.1 2 + 999) (ad 0 0) am b o1 o2 i) : J p l e room_1 s m args below meth c D A 9 Q cells slots (wW g ad κ X cs lf pr o1 f1 am κ th ch cm rm row o2 f2) (LL b (ad 0 0) (am 0) o1 o2 i) 560 [] := by
  refine J_aload_n cx dL_law_560 rfl 4 rfl ?_
  refine J_sget cx hX hbl hbA hLn (i := i) (k := 1) (by omega) 5 0 rfl rfl (by decide) dL_law_561 dL_law_562 dL_law_564 dL_law_565 dL_law_566 ?_
  refine J_sget cx hX hbl hbA hLn (i := i) (k := 2) (by omega) 5 0 rfl rfl (by decide) dL_law_567 dL_law_568 dL_law_570 dL_law_571 dL_law_572 ?_
  refine J_sget cx hX hbl hbA hLn (i := i) (k := 3) (by omega) 5 0 rfl rfl (by decide) dL_law_573 dL_law_574 dL_law_576 dL_law_577 dL_law_578 ?_
  refine J_aload_n cx dL_law_579 rfl 2 rfl ?_
  refine J_callHi cx kL_161 (As := [.ref (ad 0 0), .int (xs (i + 1)), .int (xs (i + 2)), .int (xs (i + 3)), .ref o1]) (frI (w := iW ad g κ X cs lf pr ++ oL o1 g f1) (wr := mW am g κ th ch cm rm row ++ oD o2 g f2) (W2 := fun (u : US) => wW g u.1 ((opSetNames κ (xs (i + 1)) (xs (i + 2)) (xs (i + 3))).2.2) u.2.1 u.2.2.1 u.2.2.2.1 u.2.2.2.2.1 o1 u.2.2.2.2.2 am κ th ch cm rm row o2 f2) (List.Perm.refl _) (fun _ => List.Perm.refl _) (tL_setNames l D g _ ad κ X cs lf pr o1 f1 (xs (i + 1)) (xs (i + 2)) (xs (i + 3)) htr hV hw hk hd)) ⟨rfl, rfl, by decide, by decide⟩ ⟨by omega, by omega⟩ rfl rfl (Nat.le_of_ble_eq_true rfl) dL_law_580 ?_
  intro r u hu
  obtain ⟨hr, hc4, hval, hu0, hinv⟩ := hu
  refine J_istore cx (L' := (6, .int r) :: LL b (ad 0 0) (am 0) o1 o2 i) dL_law_583 (by decide) rfl ?_
  refine J_aload_n cx dL_law_585 rfl 4 rfl ?_
  refine J_sget cx hX hbl hbA hLn (i := i) (k := 1) (by omega) 6 1 rfl rfl (by decide) dL_law_586 dL_law_587 dL_law_589 dL_law_590 dL_law_591 ?_
  refine J_sget cx hX hbl hbA hLn (i := i) (k := 2) (by omega) 6 1 rfl rfl (by decide) dL_law_592 dL_law_593 dL_law_595 dL_law_596 dL_law_597 ?_
  refine J_sget cx hX hbl hbA hLn (i := i) (k := 3) (by omega) 6 1 rfl rfl (by decide) dL_law_598 dL_law_599 dL_law_601 dL_law_602 dL_law_603 ?_
  refine J_callVi cx kL_163 (As := [.int (xs (i + 1)), .int (xs (i + 2)), .int (xs (i + 3))]) (frI (w := mW am g κ th ch cm rm row) (wr := (iW u.1 g ((opSetNames κ (xs (i + 1)) (xs (i + 2)) (xs (i + 3))).2.2) u.2.1 u.2.2.1 u.2.2.2.1 u.2.2.2.2.1 ++ oL o1 g u.2.2.2.2.2) ++ oD o2 g f2) (W2 := fun _ => wW g u.1 ((opSetNames κ (xs (i + 1)) (xs (i + 2)) (xs (i + 3))).2.2) u.2.1 u.2.2.1 u.2.2.2.1 u.2.2.2.2.1 o1 u.2.2.2.2.2 am ((opSetNames κ (xs (i + 1)) (xs (i + 2)) (xs (i + 3))).2.2) (nI (opSetNames κ (xs (i + 1)) (xs (i + 2)) (xs (i + 3))).1) ch cm rm row o2 f2) (pm_m _ _ _) (fun _ => (pm_m _ _ _).symm) (tX7_setNames l D g _ am κ th ch cm rm row (xs (i + 1)) (xs (i + 2)) (xs (i + 3)) hV.1.1)) ⟨rfl, rfl, by decide, by decide⟩ ⟨by omega, by omega⟩ rfl (iW u.1 g ((opSetNames κ (xs (i + 1)) (xs (i + 2)) (xs (i + 3))).2.2) u.2.1 u.2.2.1 u.2.2.2.1 u.2.2.2.2.1 ++ oL o1 g u.2.2.2.2.2).length (at_md rfl) rfl rfl (Nat.le_of_ble_eq_true rfl) dL_law_604 ?_
  intro r9 _ hr9
  subst hr9
  refine J_istore cx (L' := (7, .int ((opSetNames κ (xs (i + 1)) (xs (i + 2)) (xs (i + 3))).2.1)) :: (6, .int r) :: LL b (ad 0 0) (am 0) o1 o2 i) dL_law_607 (by decide) rfl ?_
  refine tl_I cx (cd := _) dL_law_609 dL_law_610 dL_law_613 dL_law_615 dL_law_620 dL_law_622 dL_law_625 dL_law_626 dL_law_627 dL_law_628 dL_law_630 dL_law_631 dL_law_632 dL_law_637 (by decide) hr.symm hr hc4 hval (by omega) (by omega) ?_
  have hx0 : u.1 0 0 = ad 0 0 := congrFun hu0 0
  exact J_widen (by omega) (by omega) (nx u.1 _ _ _ _ _ _ _ _ _ _ _ _ hx0 hinv (dy_setNames))
set_option maxHeartbeats 1000000 in
theorem lw_c5 (cx : CX p l s m args meth c RL cL_law (some .int) 9 D g A) (htr : l.stackTraces = false) (hX : va_X b Ln xs s s.heap) (hbl : b < s.heap.size) (hbA : ¬ A b) (hLn : Ln ≤ 2560) (hi : i + 5 ≤ Ln) (hV : IV κ X) (hw : WV κ cs) (hk : κ.2.2.1 1 ≤ κ.2.2.1 0) (hd : κ.2.2.1 2 + 999 < 2147483648) (hc : cells + 20 ≤ room_1.cells) (hs : slots + 120 ≤ room_1.slots) (nx : NX p l e s m args below meth c D g A Q (cells + 20) (slots + 120) (κ.2.2.1 2 + 999) (ad 0 0) am b o1 o2 i) : J p l e room_1 s m args below meth c D A 9 Q cells slots (wW g ad κ X cs lf pr o1 f1 am κ th ch cm rm row o2 f2) (LL b (ad 0 0) (am 0) o1 o2 i) 640 [] := by
  refine J_aload_n cx dL_law_640 rfl 4 rfl ?_
  refine J_sget cx hX hbl hbA hLn (i := i) (k := 1) (by omega) 5 0 rfl rfl (by decide) dL_law_641 dL_law_642 dL_law_644 dL_law_645 dL_law_646 ?_
  refine J_sget cx hX hbl hbA hLn (i := i) (k := 2) (by omega) 5 0 rfl rfl (by decide) dL_law_647 dL_law_648 dL_law_650 dL_law_651 dL_law_652 ?_
  refine J_bool cx dL_law_653 dL_law_656 dL_law_657 dL_law_660 ?_
  refine J_aload_n cx dL_law_661 rfl 2 rfl ?_
  refine J_callHi cx kL_164 (As := [.ref (ad 0 0), .int (xs (i + 1)), .int (zb (!decide (xs (i + 2) = 0))), .ref o1]) (frI (w := iW ad g κ X cs lf pr ++ oL o1 g f1) (wr := mW am g κ th ch cm rm row ++ oD o2 g f2) (W2 := fun (u : US) => wW g u.1 ((opTrust κ (xs (i + 1)) (!decide (xs (i + 2) = 0))).2.2) u.2.1 u.2.2.1 u.2.2.2.1 u.2.2.2.2.1 o1 u.2.2.2.2.2 am κ th ch cm rm row o2 f2) (List.Perm.refl _) (fun _ => List.Perm.refl _) (tL_trust l D g _ ad κ X cs lf pr o1 f1 (xs (i + 1)) (!decide (xs (i + 2) = 0)) htr hV hw hk hd)) ⟨rfl, rfl, by decide, by decide⟩ ⟨by omega, by omega⟩ rfl rfl (Nat.le_of_ble_eq_true rfl) dL_law_662 ?_
  intro r u hu
  obtain ⟨hr, hc4, hval, hu0, hinv⟩ := hu
  refine J_istore cx (L' := (6, .int r) :: LL b (ad 0 0) (am 0) o1 o2 i) dL_law_665 (by decide) rfl ?_
  refine J_aload_n cx dL_law_667 rfl 4 rfl ?_
  refine J_sget cx hX hbl hbA hLn (i := i) (k := 1) (by omega) 6 1 rfl rfl (by decide) dL_law_668 dL_law_669 dL_law_671 dL_law_672 dL_law_673 ?_
  refine J_sget cx hX hbl hbA hLn (i := i) (k := 2) (by omega) 6 1 rfl rfl (by decide) dL_law_674 dL_law_675 dL_law_677 dL_law_678 dL_law_679 ?_
  refine J_bool cx dL_law_680 dL_law_683 dL_law_684 dL_law_687 ?_
  refine J_callVi cx kL_167 (As := [.int (xs (i + 1)), .int (zb (!decide (xs (i + 2) = 0)))]) (frI (w := mW am g κ th ch cm rm row) (wr := (iW u.1 g ((opTrust κ (xs (i + 1)) (!decide (xs (i + 2) = 0))).2.2) u.2.1 u.2.2.1 u.2.2.2.1 u.2.2.2.2.1 ++ oL o1 g u.2.2.2.2.2) ++ oD o2 g f2) (W2 := fun _ => wW g u.1 ((opTrust κ (xs (i + 1)) (!decide (xs (i + 2) = 0))).2.2) u.2.1 u.2.2.1 u.2.2.2.1 u.2.2.2.2.1 o1 u.2.2.2.2.2 am ((opTrust κ (xs (i + 1)) (!decide (xs (i + 2) = 0))).2.2) (nI (opTrust κ (xs (i + 1)) (!decide (xs (i + 2) = 0))).1) ch cm rm row o2 f2) (pm_m _ _ _) (fun _ => (pm_m _ _ _).symm) (tX7_trust l D g _ am κ th ch cm rm row (xs (i + 1)) (!decide (xs (i + 2) = 0)) hV.1.1)) ⟨rfl, rfl, by decide, by decide⟩ ⟨by omega, by omega⟩ rfl (iW u.1 g ((opTrust κ (xs (i + 1)) (!decide (xs (i + 2) = 0))).2.2) u.2.1 u.2.2.1 u.2.2.2.1 u.2.2.2.2.1 ++ oL o1 g u.2.2.2.2.2).length (at_md rfl) rfl rfl (Nat.le_of_ble_eq_true rfl) dL_law_688 ?_
  intro r9 _ hr9
  subst hr9
  refine J_istore cx (L' := (7, .int ((opTrust κ (xs (i + 1)) (!decide (xs (i + 2) = 0))).2.1)) :: (6, .int r) :: LL b (ad 0 0) (am 0) o1 o2 i) dL_law_691 (by decide) rfl ?_
  refine tl_I cx (cd := _) dL_law_693 dL_law_694 dL_law_697 dL_law_699 dL_law_704 dL_law_706 dL_law_709 dL_law_710 dL_law_711 dL_law_712 dL_law_714 dL_law_715 dL_law_716 dL_law_721 (by decide) hr.symm hr hc4 hval (by omega) (by omega) ?_
  have hx0 : u.1 0 0 = ad 0 0 := congrFun hu0 0
  exact J_widen (by omega) (by omega) (nx u.1 _ _ _ _ _ _ _ _ _ _ _ _ hx0 hinv (dy_trust))
set_option maxHeartbeats 1000000 in
theorem lw_c8 (cx : CX p l s m args meth c RL cL_law (some .int) 9 D g A) (htr : l.stackTraces = false) (hX : va_X b Ln xs s s.heap) (hbl : b < s.heap.size) (hbA : ¬ A b) (hLn : Ln ≤ 2560) (hi : i + 5 ≤ Ln) (hV : IV κ X) (hw : WV κ cs) (hk : κ.2.2.1 1 ≤ κ.2.2.1 0) (hd : κ.2.2.1 2 + 999 < 2147483648) (hc : cells + 20 ≤ room_1.cells) (hs : slots + 120 ≤ room_1.slots) (nx : NX p l e s m args below meth c D g A Q (cells + 20) (slots + 120) (κ.2.2.1 2 + 999) (ad 0 0) am b o1 o2 i) : J p l e room_1 s m args below meth c D A 9 Q cells slots (wW g ad κ X cs lf pr o1 f1 am κ th ch cm rm row o2 f2) (LL b (ad 0 0) (am 0) o1 o2 i) 836 [] := by
  refine J_aload_n cx dL_law_836 rfl 4 rfl ?_
  refine J_sget cx hX hbl hbA hLn (i := i) (k := 1) (by omega) 5 0 rfl rfl (by decide) dL_law_837 dL_law_838 dL_law_840 dL_law_841 dL_law_842 ?_
  refine J_aload_n cx dL_law_843 rfl 2 rfl ?_
  refine J_callHi cx kL_175 (As := [.ref (ad 0 0), .int (xs (i + 1)), .ref o1]) (frI (w := iW ad g κ X cs lf pr ++ oL o1 g f1) (wr := mW am g κ th ch cm rm row ++ oD o2 g f2) (W2 := fun (u : US) => wW g u.1 ((opPass κ (xs (i + 1))).2.2) u.2.1 u.2.2.1 u.2.2.2.1 u.2.2.2.2.1 o1 u.2.2.2.2.2 am κ th ch cm rm row o2 f2) (List.Perm.refl _) (fun _ => List.Perm.refl _) (tL_pass l D g _ ad κ X cs lf pr o1 f1 (xs (i + 1)) htr hV hw hk hd)) ⟨rfl, rfl, by decide, by decide⟩ ⟨by omega, by omega⟩ rfl rfl (Nat.le_of_ble_eq_true rfl) dL_law_844 ?_
  intro r u hu
  obtain ⟨hr, hc4, hval, hu0, hinv⟩ := hu
  refine J_istore cx (L' := (6, .int r) :: LL b (ad 0 0) (am 0) o1 o2 i) dL_law_847 (by decide) rfl ?_
  refine J_aload_n cx dL_law_849 rfl 4 rfl ?_
  refine J_sget cx hX hbl hbA hLn (i := i) (k := 1) (by omega) 6 1 rfl rfl (by decide) dL_law_850 dL_law_851 dL_law_853 dL_law_854 dL_law_855 ?_
  refine J_callVi cx kL_177 (As := [.int (xs (i + 1))]) (frI (w := mW am g κ th ch cm rm row) (wr := (iW u.1 g ((opPass κ (xs (i + 1))).2.2) u.2.1 u.2.2.1 u.2.2.2.1 u.2.2.2.2.1 ++ oL o1 g u.2.2.2.2.2) ++ oD o2 g f2) (W2 := fun _ => wW g u.1 ((opPass κ (xs (i + 1))).2.2) u.2.1 u.2.2.1 u.2.2.2.1 u.2.2.2.2.1 o1 u.2.2.2.2.2 am ((opPass κ (xs (i + 1))).2.2) (nI (opPass κ (xs (i + 1))).1) ch cm rm row o2 f2) (pm_m _ _ _) (fun _ => (pm_m _ _ _).symm) (tX7_pass l D g _ am κ th ch cm rm row (xs (i + 1)) )) ⟨rfl, rfl, by decide, by decide⟩ ⟨by omega, by omega⟩ rfl (iW u.1 g ((opPass κ (xs (i + 1))).2.2) u.2.1 u.2.2.1 u.2.2.2.1 u.2.2.2.2.1 ++ oL o1 g u.2.2.2.2.2).length (at_md rfl) rfl rfl (Nat.le_of_ble_eq_true rfl) dL_law_856 ?_
  intro r9 _ hr9
  subst hr9
  refine J_istore cx (L' := (7, .int ((opPass κ (xs (i + 1))).2.1)) :: (6, .int r) :: LL b (ad 0 0) (am 0) o1 o2 i) dL_law_859 (by decide) rfl ?_
  refine tl_I cx (cd := _) dL_law_861 dL_law_862 dL_law_865 dL_law_867 dL_law_872 dL_law_874 dL_law_877 dL_law_878 dL_law_879 dL_law_880 dL_law_882 dL_law_883 dL_law_884 dL_law_889 (by decide) hr.symm hr hc4 hval (by omega) (by omega) ?_
  have hx0 : u.1 0 0 = ad 0 0 := congrFun hu0 0
  exact J_widen (by omega) (by omega) (nx u.1 _ _ _ _ _ _ _ _ _ _ _ _ hx0 hinv (day_pass _))
set_option maxHeartbeats 1000000 in
theorem lw_c9 (cx : CX p l s m args meth c RL cL_law (some .int) 9 D g A) (htr : l.stackTraces = false) (hX : va_X b Ln xs s s.heap) (hbl : b < s.heap.size) (hbA : ¬ A b) (hLn : Ln ≤ 2560) (hi : i + 5 ≤ Ln) (hV : IV κ X) (hw : WV κ cs) (hk : κ.2.2.1 1 ≤ κ.2.2.1 0) (hd : κ.2.2.1 2 + 999 < 2147483648) (hc : cells + 20 ≤ room_1.cells) (hs : slots + 120 ≤ room_1.slots) (nx : NX p l e s m args below meth c D g A Q (cells + 20) (slots + 120) (κ.2.2.1 2 + 999) (ad 0 0) am b o1 o2 i) : J p l e room_1 s m args below meth c D A 9 Q cells slots (wW g ad κ X cs lf pr o1 f1 am κ th ch cm rm row o2 f2) (LL b (ad 0 0) (am 0) o1 o2 i) 892 [] := by
  refine J_aload_n cx dL_law_892 rfl 4 rfl ?_
  refine J_callVi cx kL_178 (As := []) (frI (w := iW ad g κ X cs lf pr) (wr := oL o1 g f1 ++ (mW am g κ th ch cm rm row ++ oD o2 g f2)) (W2 := fun _ => wW g ad κ X cs lf pr o1 f1 am κ th ch cm rm row o2 f2) (pm_x _ _ _) (fun _ => (pm_x _ _ _).symm) (tX6_day l D g _ ad κ X cs lf pr )) ⟨rfl, rfl, by decide, by decide⟩ ⟨by omega, by omega⟩ rfl 0 rfl rfl rfl (Nat.le_of_ble_eq_true rfl) dL_law_893 ?_
  intro r9 _ hr9
  subst hr9
  refine J_aload_n cx dL_law_896 rfl 3 rfl ?_
  refine J_callVi cx kL_181 (As := []) (frI (w := mW am g κ th ch cm rm row) (wr := (iW ad g κ X cs lf pr ++ oL o1 g f1) ++ oD o2 g f2) (W2 := fun _ => wW g ad κ X cs lf pr o1 f1 am κ (nI 0) ch cm rm row o2 f2) (pm_m _ _ _) (fun _ => (pm_m _ _ _).symm) (tX7_day l D g _ am κ th ch cm rm row )) ⟨rfl, rfl, by decide, by decide⟩ ⟨by omega, by omega⟩ rfl (iW ad g κ X cs lf pr ++ oL o1 g f1).length (at_md rfl) rfl rfl (Nat.le_of_ble_eq_true rfl) dL_law_897 ?_
  intro r8 _ hr8
  subst hr8
  refine J_icmp_eq cx (tgt := 2627) dL_law_900 (by decide) (fun _ => ?_) (fun h => absurd rfl h)
  exact J_widen (by omega) (by omega) (nx ad _ _ _ _ _ _ _ _ _ _ _ _ rfl ⟨hV, hw, hk⟩ (Nat.le_add_right _ _))
set_option maxHeartbeats 1000000 in
theorem lw_c10 (cx : CX p l s m args meth c RL cL_law (some .int) 9 D g A) (htr : l.stackTraces = false) (hX : va_X b Ln xs s s.heap) (hbl : b < s.heap.size) (hbA : ¬ A b) (hLn : Ln ≤ 2560) (hi : i + 5 ≤ Ln) (hV : IV κ X) (hw : WV κ cs) (hk : κ.2.2.1 1 ≤ κ.2.2.1 0) (hd : κ.2.2.1 2 + 999 < 2147483648) (hc : cells + 20 ≤ room_1.cells) (hs : slots + 120 ≤ room_1.slots) (nx : NX p l e s m args below meth c D g A Q (cells + 20) (slots + 120) (κ.2.2.1 2 + 999) (ad 0 0) am b o1 o2 i) : J p l e room_1 s m args below meth c D A 9 Q cells slots (wW g ad κ X cs lf pr o1 f1 am κ th ch cm rm row o2 f2) (LL b (ad 0 0) (am 0) o1 o2 i) 905 [] := by
  refine J_aload_n cx dL_law_905 rfl 4 rfl ?_
  refine J_callVi cx kL_182 (As := []) (frI (w := iW ad g κ X cs lf pr) (wr := oL o1 g f1 ++ (mW am g κ th ch cm rm row ++ oD o2 g f2)) (W2 := fun _ => wW g ad κ X cs lf pr o1 f1 am κ th ch cm rm row o2 f2) (pm_x _ _ _) (fun _ => (pm_x _ _ _).symm) (tX6_certificates l D g _ ad κ X cs lf pr )) ⟨rfl, rfl, by decide, by decide⟩ ⟨by omega, by omega⟩ rfl 0 rfl rfl rfl (Nat.le_of_ble_eq_true rfl) dL_law_906 ?_
  intro r9 _ hr9
  subst hr9
  refine J_aload_n cx dL_law_909 rfl 3 rfl ?_
  refine J_callVi cx kL_185 (As := []) (frI (w := mW am g κ th ch cm rm row) (wr := (iW ad g κ X cs lf pr ++ oL o1 g f1) ++ oD o2 g f2) (W2 := fun _ => wW g ad κ X cs lf pr o1 f1 am κ (nI 0) ch cm rm row o2 f2) (pm_m _ _ _) (fun _ => (pm_m _ _ _).symm) (tX7_certificates l D g _ am κ th ch cm rm row )) ⟨rfl, rfl, by decide, by decide⟩ ⟨by omega, by omega⟩ rfl (iW ad g κ X cs lf pr ++ oL o1 g f1).length (at_md rfl) rfl rfl (Nat.le_of_ble_eq_true rfl) dL_law_910 ?_
  intro r8 _ hr8
  subst hr8
  refine J_icmp_eq cx (tgt := 2627) dL_law_913 (by decide) (fun _ => ?_) (fun h => absurd rfl h)
  exact J_widen (by omega) (by omega) (nx ad _ _ _ _ _ _ _ _ _ _ _ _ rfl ⟨hV, hw, hk⟩ (Nat.le_add_right _ _))
set_option maxHeartbeats 1000000 in
theorem lw_c15 (cx : CX p l s m args meth c RL cL_law (some .int) 9 D g A) (htr : l.stackTraces = false) (hX : va_X b Ln xs s s.heap) (hbl : b < s.heap.size) (hbA : ¬ A b) (hLn : Ln ≤ 2560) (hi : i + 5 ≤ Ln) (hV : IV κ X) (hw : WV κ cs) (hk : κ.2.2.1 1 ≤ κ.2.2.1 0) (hd : κ.2.2.1 2 + 999 < 2147483648) (hc : cells + 20 ≤ room_1.cells) (hs : slots + 120 ≤ room_1.slots) (nx : NX p l e s m args below meth c D g A Q (cells + 20) (slots + 120) (κ.2.2.1 2 + 999) (ad 0 0) am b o1 o2 i) : J p l e room_1 s m args below meth c D A 9 Q cells slots (wW g ad κ X cs lf pr o1 f1 am κ th ch cm rm row o2 f2) (LL b (ad 0 0) (am 0) o1 o2 i) 1142 [] := by
  refine J_aload_n cx dL_law_1142 rfl 4 rfl ?_
  refine J_sget cx hX hbl hbA hLn (i := i) (k := 1) (by omega) 5 0 rfl rfl (by decide) dL_law_1143 dL_law_1144 dL_law_1146 dL_law_1147 dL_law_1148 ?_
  refine J_aload_n cx dL_law_1149 rfl 2 rfl ?_
  refine J_callHi cx kL_198 (As := [.ref (ad 0 0), .int (xs (i + 1)), .ref o1]) (frI (w := iW ad g κ X cs lf pr ++ oL o1 g f1) (wr := mW am g κ th ch cm rm row ++ oD o2 g f2) (W2 := fun (u : US) => wW g u.1 κ u.2.1 u.2.2.1 u.2.2.2.1 u.2.2.2.2.1 o1 u.2.2.2.2.2 am κ th ch cm rm row o2 f2) (List.Perm.refl _) (fun _ => List.Perm.refl _) (tL_kindOf l D g _ ad κ X cs lf pr o1 f1 (xs (i + 1)) htr hV hw hk hd)) ⟨rfl, rfl, by decide, by decide⟩ ⟨by omega, by omega⟩ rfl rfl (Nat.le_of_ble_eq_true rfl) dL_law_1150 ?_
  intro r u hu
  obtain ⟨hr, hc4, hval, hu0, hinv⟩ := hu
  refine J_istore cx (L' := (6, .int r) :: LL b (ad 0 0) (am 0) o1 o2 i) dL_law_1153 (by decide) rfl ?_
  refine J_aload_n cx dL_law_1155 rfl 4 rfl ?_
  refine J_sget cx hX hbl hbA hLn (i := i) (k := 1) (by omega) 6 1 rfl rfl (by decide) dL_law_1156 dL_law_1157 dL_law_1159 dL_law_1160 dL_law_1161 ?_
  refine J_callVi cx kL_200 (As := [.int (xs (i + 1))]) (frI (w := mW am g κ th ch cm rm row) (wr := (iW u.1 g κ u.2.1 u.2.2.1 u.2.2.2.1 u.2.2.2.2.1 ++ oL o1 g u.2.2.2.2.2) ++ oD o2 g f2) (W2 := fun _ => wW g u.1 κ u.2.1 u.2.2.1 u.2.2.2.1 u.2.2.2.2.1 o1 u.2.2.2.2.2 am κ (nI (opKind κ (xs (i + 1))).1) ch cm rm row o2 f2) (pm_m _ _ _) (fun _ => (pm_m _ _ _).symm) (tX7_kindOf l D g _ am κ th ch cm rm row (xs (i + 1)) hV.1.1)) ⟨rfl, rfl, by decide, by decide⟩ ⟨by omega, by omega⟩ rfl (iW u.1 g κ u.2.1 u.2.2.1 u.2.2.2.1 u.2.2.2.2.1 ++ oL o1 g u.2.2.2.2.2).length (at_md rfl) rfl rfl (Nat.le_of_ble_eq_true rfl) dL_law_1162 ?_
  intro r9 _ hr9
  subst hr9
  refine J_istore cx (L' := (7, .int ((opKind κ (xs (i + 1))).2)) :: (6, .int r) :: LL b (ad 0 0) (am 0) o1 o2 i) dL_law_1165 (by decide) rfl ?_
  refine tl_I cx (cd := _) dL_law_1167 dL_law_1168 dL_law_1171 dL_law_1173 dL_law_1178 dL_law_1180 dL_law_1183 dL_law_1184 dL_law_1185 dL_law_1186 dL_law_1188 dL_law_1189 dL_law_1190 dL_law_1195 (by decide) hr.symm hr hc4 hval (by omega) (by omega) ?_
  have hx0 : u.1 0 0 = ad 0 0 := congrFun hu0 0
  exact J_widen (by omega) (by omega) (nx u.1 _ _ _ _ _ _ _ _ _ _ _ _ hx0 hinv (Nat.le_add_right _ _))
set_option maxHeartbeats 1000000 in
theorem lw_c19 (cx : CX p l s m args meth c RL cL_law (some .int) 9 D g A) (htr : l.stackTraces = false) (hX : va_X b Ln xs s s.heap) (hbl : b < s.heap.size) (hbA : ¬ A b) (hLn : Ln ≤ 2560) (hi : i + 5 ≤ Ln) (hV : IV κ X) (hw : WV κ cs) (hk : κ.2.2.1 1 ≤ κ.2.2.1 0) (hd : κ.2.2.1 2 + 999 < 2147483648) (hc : cells + 20 ≤ room_1.cells) (hs : slots + 120 ≤ room_1.slots) (nx : NX p l e s m args below meth c D g A Q (cells + 20) (slots + 120) (κ.2.2.1 2 + 999) (ad 0 0) am b o1 o2 i) : J p l e room_1 s m args below meth c D A 9 Q cells slots (wW g ad κ X cs lf pr o1 f1 am κ th ch cm rm row o2 f2) (LL b (ad 0 0) (am 0) o1 o2 i) 1423 [] := by
  refine J_aload_n cx dL_law_1423 rfl 4 rfl ?_
  refine J_sget cx hX hbl hbA hLn (i := i) (k := 1) (by omega) 5 0 rfl rfl (by decide) dL_law_1424 dL_law_1425 dL_law_1427 dL_law_1428 dL_law_1429 ?_
  refine J_aload_n cx dL_law_1430 rfl 2 rfl ?_
  refine J_callHi cx kL_211 (As := [.ref (ad 0 0), .int (xs (i + 1)), .ref o1]) (frI (w := iW ad g κ X cs lf pr ++ oL o1 g f1) (wr := mW am g κ th ch cm rm row ++ oD o2 g f2) (W2 := fun (u : US) => wW g u.1 κ u.2.1 u.2.2.1 u.2.2.2.1 u.2.2.2.2.1 o1 u.2.2.2.2.2 am κ th ch cm rm row o2 f2) (List.Perm.refl _) (fun _ => List.Perm.refl _) (tL_candidates l D g _ ad κ X cs lf pr o1 f1 (xs (i + 1)) htr hV hw hk hd)) ⟨rfl, rfl, by decide, by decide⟩ ⟨by omega, by omega⟩ rfl rfl (Nat.le_of_ble_eq_true rfl) dL_law_1431 ?_
  intro r u hu
  rw [oc_C hV.2.1 hV.1 hV.2.2.1] at hu
  obtain ⟨hr, hc4, hval, hu0, hinv⟩ := hu
  refine J_istore cx (L' := (6, .int r) :: LL b (ad 0 0) (am 0) o1 o2 i) dL_law_1434 (by decide) rfl ?_
  refine J_aload_n cx dL_law_1436 rfl 4 rfl ?_
  refine J_sget cx hX hbl hbA hLn (i := i) (k := 1) (by omega) 6 1 rfl rfl (by decide) dL_law_1437 dL_law_1438 dL_law_1440 dL_law_1441 dL_law_1442 ?_
  refine J_callVi cx kL_213 (As := [.int (xs (i + 1))]) (frI (w := mW am g κ th ch cm rm row) (wr := (iW u.1 g κ u.2.1 u.2.2.1 u.2.2.2.1 u.2.2.2.2.1 ++ oL o1 g u.2.2.2.2.2) ++ oD o2 g f2) (W2 := fun _ => wW g u.1 κ u.2.1 u.2.2.1 u.2.2.2.1 u.2.2.2.2.1 o1 u.2.2.2.2.2 am κ (nI (opCandidates κ (xs (i + 1))).1) ch cm rm row o2 f2) (pm_m _ _ _) (fun _ => (pm_m _ _ _).symm) (tX7_candidates l D g _ am κ th ch cm rm row (xs (i + 1)) hV.1.1)) ⟨rfl, rfl, by decide, by decide⟩ ⟨by omega, by omega⟩ rfl (iW u.1 g κ u.2.1 u.2.2.1 u.2.2.2.1 u.2.2.2.2.1 ++ oL o1 g u.2.2.2.2.2).length (at_md rfl) rfl rfl (Nat.le_of_ble_eq_true rfl) dL_law_1443 ?_
  intro r9 _ hr9
  subst hr9
  refine J_istore cx (L' := (7, .int ((opCandidates κ (xs (i + 1))).2)) :: (6, .int r) :: LL b (ad 0 0) (am 0) o1 o2 i) dL_law_1446 (by decide) rfl ?_
  refine tl_I cx (cd := _) dL_law_1448 dL_law_1449 dL_law_1452 dL_law_1454 dL_law_1459 dL_law_1461 dL_law_1464 dL_law_1465 dL_law_1466 dL_law_1467 dL_law_1469 dL_law_1470 dL_law_1471 dL_law_1476 (by decide) hr.symm hr hc4 hval (by omega) (by omega) ?_
  have hx0 : u.1 0 0 = ad 0 0 := congrFun hu0 0
  exact J_widen (by omega) (by omega) (nx u.1 _ _ _ _ _ _ _ _ _ _ _ _ hx0 hinv (Nat.le_add_right _ _))
set_option maxHeartbeats 1000000 in
theorem lw_c21 (cx : CX p l s m args meth c RL cL_law (some .int) 9 D g A) (htr : l.stackTraces = false) (hX : va_X b Ln xs s s.heap) (hbl : b < s.heap.size) (hbA : ¬ A b) (hLn : Ln ≤ 2560) (hi : i + 5 ≤ Ln) (hV : IV κ X) (hw : WV κ cs) (hk : κ.2.2.1 1 ≤ κ.2.2.1 0) (hd : κ.2.2.1 2 + 999 < 2147483648) (hc : cells + 20 ≤ room_1.cells) (hs : slots + 120 ≤ room_1.slots) (nx : NX p l e s m args below meth c D g A Q (cells + 20) (slots + 120) (κ.2.2.1 2 + 999) (ad 0 0) am b o1 o2 i) : J p l e room_1 s m args below meth c D A 9 Q cells slots (wW g ad κ X cs lf pr o1 f1 am κ th ch cm rm row o2 f2) (LL b (ad 0 0) (am 0) o1 o2 i) 1547 [] := by
  refine J_aload_n cx dL_law_1547 rfl 4 rfl ?_
  refine J_sget cx hX hbl hbA hLn (i := i) (k := 1) (by omega) 5 0 rfl rfl (by decide) dL_law_1548 dL_law_1549 dL_law_1551 dL_law_1552 dL_law_1553 ?_
  refine J_sget cx hX hbl hbA hLn (i := i) (k := 2) (by omega) 5 0 rfl rfl (by decide) dL_law_1554 dL_law_1555 dL_law_1557 dL_law_1558 dL_law_1559 ?_
  refine J_aload_n cx dL_law_1560 rfl 2 rfl ?_
  refine J_callHi cx kL_217 (As := [.ref (ad 0 0), .int (xs (i + 1)), .int (xs (i + 2)), .ref o1]) (frI (w := iW ad g κ X cs lf pr ++ oL o1 g f1) (wr := mW am g κ th ch cm rm row ++ oD o2 g f2) (W2 := fun (u : US) => wW g u.1 κ u.2.1 u.2.2.1 u.2.2.2.1 u.2.2.2.2.1 o1 u.2.2.2.2.2 am κ th ch cm rm row o2 f2) (List.Perm.refl _) (fun _ => List.Perm.refl _) (tL_chainSize l D g _ ad κ X cs lf pr o1 f1 (xs (i + 1)) (xs (i + 2)) htr hV hw hk hd)) ⟨rfl, rfl, by decide, by decide⟩ ⟨by omega, by omega⟩ rfl rfl (Nat.le_of_ble_eq_true rfl) dL_law_1561 ?_
  intro r u hu
  rw [oc_S hV.2.2.2.1 hV.1 hV.2.1 hV.2.2.1 hw.2.1 hw.2.2 ch] at hu
  obtain ⟨hr, hc4, hval, hu0, hinv⟩ := hu
  refine J_istore cx (L' := (6, .int r) :: LL b (ad 0 0) (am 0) o1 o2 i) dL_law_1564 (by decide) rfl ?_
  refine J_aload_n cx dL_law_1566 rfl 4 rfl ?_
  refine J_sget cx hX hbl hbA hLn (i := i) (k := 1) (by omega) 6 1 rfl rfl (by decide) dL_law_1567 dL_law_1568 dL_law_1570 dL_law_1571 dL_law_1572 ?_
  refine J_sget cx hX hbl hbA hLn (i := i) (k := 2) (by omega) 6 1 rfl rfl (by decide) dL_law_1573 dL_law_1574 dL_law_1576 dL_law_1577 dL_law_1578 ?_
  refine J_callVi cx kL_219 (As := [.int (xs (i + 1)), .int (xs (i + 2))]) (frI (w := mW am g κ th ch cm rm row) (wr := (iW u.1 g κ u.2.1 u.2.2.1 u.2.2.2.1 u.2.2.2.2.1 ++ oL o1 g u.2.2.2.2.2) ++ oD o2 g f2) (W2 := fun _ => wW g u.1 κ u.2.1 u.2.2.1 u.2.2.2.1 u.2.2.2.2.1 o1 u.2.2.2.2.2 am κ (nI (opChainSize κ ch (xs (i + 1)) (xs (i + 2))).1) (chCh κ ch (xs (i + 1)) (xs (i + 2))) cm rm row o2 f2) (pm_m _ _ _) (fun _ => (pm_m _ _ _).symm) (tX7_chainSize l D g _ am κ th ch cm rm row (xs (i + 1)) (xs (i + 2)) hV.2.2.2.1)) ⟨rfl, rfl, by decide, by decide⟩ ⟨by omega, by omega⟩ rfl (iW u.1 g κ u.2.1 u.2.2.1 u.2.2.2.1 u.2.2.2.2.1 ++ oL o1 g u.2.2.2.2.2).length (at_md rfl) rfl rfl (Nat.le_of_ble_eq_true rfl) dL_law_1579 ?_
  intro r9 _ hr9
  subst hr9
  refine J_istore cx (L' := (7, .int ((opChainSize κ ch (xs (i + 1)) (xs (i + 2))).2)) :: (6, .int r) :: LL b (ad 0 0) (am 0) o1 o2 i) dL_law_1582 (by decide) rfl ?_
  refine tl_I cx (cd := _) dL_law_1584 dL_law_1585 dL_law_1588 dL_law_1590 dL_law_1595 dL_law_1597 dL_law_1600 dL_law_1601 dL_law_1602 dL_law_1603 dL_law_1605 dL_law_1606 dL_law_1607 dL_law_1612 (by decide) hr.symm hr hc4 hval (by omega) (by omega) ?_
  have hx0 : u.1 0 0 = ad 0 0 := congrFun hu0 0
  exact J_widen (by omega) (by omega) (nx u.1 _ _ _ _ _ _ _ _ _ _ _ _ hx0 hinv (Nat.le_add_right _ _))
set_option maxHeartbeats 1000000 in
theorem lw_c24 (cx : CX p l s m args meth c RL cL_law (some .int) 9 D g A) (htr : l.stackTraces = false) (hX : va_X b Ln xs s s.heap) (hbl : b < s.heap.size) (hbA : ¬ A b) (hLn : Ln ≤ 2560) (hi : i + 5 ≤ Ln) (hV : IV κ X) (hw : WV κ cs) (hk : κ.2.2.1 1 ≤ κ.2.2.1 0) (hd : κ.2.2.1 2 + 999 < 2147483648) (hc : cells + 20 ≤ room_1.cells) (hs : slots + 120 ≤ room_1.slots) (nx : NX p l e s m args below meth c D g A Q (cells + 20) (slots + 120) (κ.2.2.1 2 + 999) (ad 0 0) am b o1 o2 i) : J p l e room_1 s m args below meth c D A 9 Q cells slots (wW g ad κ X cs lf pr o1 f1 am κ th ch cm rm row o2 f2) (LL b (ad 0 0) (am 0) o1 o2 i) 1763 [] := by
  refine J_aload_n cx dL_law_1763 rfl 4 rfl ?_
  refine J_sget cx hX hbl hbA hLn (i := i) (k := 1) (by omega) 5 0 rfl rfl (by decide) dL_law_1764 dL_law_1765 dL_law_1767 dL_law_1768 dL_law_1769 ?_
  refine J_sget cx hX hbl hbA hLn (i := i) (k := 2) (by omega) 5 0 rfl rfl (by decide) dL_law_1770 dL_law_1771 dL_law_1773 dL_law_1774 dL_law_1775 ?_
  refine J_aload_n cx dL_law_1776 rfl 2 rfl ?_
  refine J_callHi cx kL_226 (As := [.ref (ad 0 0), .int (xs (i + 1)), .int (xs (i + 2)), .ref o1]) (frI (w := iW ad g κ X cs lf pr ++ oL o1 g f1) (wr := mW am g κ th ch cm rm row ++ oD o2 g f2) (W2 := fun (u : US) => wW g u.1 κ u.2.1 u.2.2.1 u.2.2.2.1 u.2.2.2.2.1 o1 u.2.2.2.2.2 am κ th ch cm rm row o2 f2) (List.Perm.refl _) (fun _ => List.Perm.refl _) (tL_goodChainsByWalks l D g _ ad κ X cs lf pr o1 f1 (xs (i + 1)) (xs (i + 2)) htr hV hw hk hd)) ⟨rfl, rfl, by decide, by decide⟩ ⟨by omega, by omega⟩ rfl rfl (Nat.le_of_ble_eq_true rfl) dL_law_1777 ?_
  intro r u hu
  rw [oc_H hV.2.2.2.1 hV.1 hV.2.1 hV.2.2.1 hw.2.1 ch] at hu
  obtain ⟨hr, hc4, hval, hu0, hinv⟩ := hu
  refine J_istore cx (L' := (6, .int r) :: LL b (ad 0 0) (am 0) o1 o2 i) dL_law_1780 (by decide) rfl ?_
  refine J_aload_n cx dL_law_1782 rfl 4 rfl ?_
  refine J_sget cx hX hbl hbA hLn (i := i) (k := 1) (by omega) 6 1 rfl rfl (by decide) dL_law_1783 dL_law_1784 dL_law_1786 dL_law_1787 dL_law_1788 ?_
  refine J_sget cx hX hbl hbA hLn (i := i) (k := 2) (by omega) 6 1 rfl rfl (by decide) dL_law_1789 dL_law_1790 dL_law_1792 dL_law_1793 dL_law_1794 ?_
  refine J_callVi cx kL_228 (As := [.int (xs (i + 1)), .int (xs (i + 2))]) (frI (w := mW am g κ th ch cm rm row) (wr := (iW u.1 g κ u.2.1 u.2.2.1 u.2.2.2.1 u.2.2.2.2.1 ++ oL o1 g u.2.2.2.2.2) ++ oD o2 g f2) (W2 := fun _ => wW g u.1 κ u.2.1 u.2.2.1 u.2.2.2.1 u.2.2.2.2.1 o1 u.2.2.2.2.2 am κ (nI (opGood κ ch (xs (i + 1)) (xs (i + 2))).1) (chGd κ ch (xs (i + 1)) (xs (i + 2))) (cmGd κ ch cm (xs (i + 1)) (xs (i + 2))) rm row o2 f2) (pm_m _ _ _) (fun _ => (pm_m _ _ _).symm) (tX7_goodChainsByWalks l D g _ am κ th ch cm rm row (xs (i + 1)) (xs (i + 2)) hV.2.2.2.1)) ⟨rfl, rfl, by decide, by decide⟩ ⟨by omega, by omega⟩ rfl (iW u.1 g κ u.2.1 u.2.2.1 u.2.2.2.1 u.2.2.2.2.1 ++ oL o1 g u.2.2.2.2.2).length (at_md rfl) rfl rfl (Nat.le_of_ble_eq_true rfl) dL_law_1795 ?_
  intro r9 _ hr9
  subst hr9
  refine J_istore cx (L' := (7, .int ((opGood κ ch (xs (i + 1)) (xs (i + 2))).2)) :: (6, .int r) :: LL b (ad 0 0) (am 0) o1 o2 i) dL_law_1798 (by decide) rfl ?_
  refine tl_I cx (cd := _) dL_law_1800 dL_law_1801 dL_law_1804 dL_law_1806 dL_law_1811 dL_law_1813 dL_law_1816 dL_law_1817 dL_law_1818 dL_law_1819 dL_law_1821 dL_law_1822 dL_law_1823 dL_law_1828 (by decide) hr.symm hr hc4 hval (by omega) (by omega) ?_
  have hx0 : u.1 0 0 = ad 0 0 := congrFun hu0 0
  exact J_widen (by omega) (by omega) (nx u.1 _ _ _ _ _ _ _ _ _ _ _ _ hx0 hinv (Nat.le_add_right _ _))
set_option maxHeartbeats 1000000 in
theorem lw_c28 (cx : CX p l s m args meth c RL cL_law (some .int) 9 D g A) (htr : l.stackTraces = false) (hX : va_X b Ln xs s s.heap) (hbl : b < s.heap.size) (hbA : ¬ A b) (hLn : Ln ≤ 2560) (hi : i + 5 ≤ Ln) (hV : IV κ X) (hw : WV κ cs) (hk : κ.2.2.1 1 ≤ κ.2.2.1 0) (hd : κ.2.2.1 2 + 999 < 2147483648) (hc : cells + 20 ≤ room_1.cells) (hs : slots + 120 ≤ room_1.slots) (nx : NX p l e s m args below meth c D g A Q (cells + 20) (slots + 120) (κ.2.2.1 2 + 999) (ad 0 0) am b o1 o2 i) : J p l e room_1 s m args below meth c D A 9 Q cells slots (wW g ad κ X cs lf pr o1 f1 am κ th ch cm rm row o2 f2) (LL b (ad 0 0) (am 0) o1 o2 i) 1999 [] := by
  refine J_aload_n cx dL_law_1999 rfl 4 rfl ?_
  refine J_ws (ws' := wW g ad κ X (upc cs 0 (cs 0)) lf pr o1 f1 am κ th ch cm rm row o2 f2) (by rw [upc_self]) ?_
  refine J_callVi cx kL_239 (As := []) (frI (w := iW ad g κ X (upc cs 0 (cs 0)) lf pr) (wr := oL o1 g f1 ++ (mW am g κ th ch cm rm row ++ oD o2 g f2)) (W2 := fun _ => wW g ad κ X (upc cs 0 (cs 0)) lf pr o1 f1 am κ th ch cm rm row o2 f2) (pm_x _ _ _) (fun _ => (pm_x _ _ _).symm) (tX6_walked l D g _ ad κ X cs lf pr (cs 0) hw.1)) ⟨rfl, rfl, by decide, by decide⟩ ⟨by omega, by omega⟩ rfl 0 rfl rfl rfl (Nat.le_of_ble_eq_true rfl) dL_law_2000 ?_
  intro r9 _ hr9
  subst hr9
  refine J_aload_n cx dL_law_2003 rfl 3 rfl ?_
  refine J_callVi cx kL_242 (As := []) (frI (w := mW am g κ th ch cm rm row) (wr := (iW ad g κ X (upc cs 0 (cs 0)) lf pr ++ oL o1 g f1) ++ oD o2 g f2) (W2 := fun _ => wW g ad κ X (upc cs 0 (cs 0)) lf pr o1 f1 am κ (nI 0) ch cm rm row o2 f2) (pm_m _ _ _) (fun _ => (pm_m _ _ _).symm) (tX7_walked l D g _ am κ th ch cm rm row )) ⟨rfl, rfl, by decide, by decide⟩ ⟨by omega, by omega⟩ rfl (iW ad g κ X (upc cs 0 (cs 0)) lf pr ++ oL o1 g f1).length (at_md rfl) rfl rfl (Nat.le_of_ble_eq_true rfl) dL_law_2004 ?_
  intro r8 _ hr8
  subst hr8
  refine J_icmp_eq cx (tgt := 2627) dL_law_2007 (by decide) (fun _ => ?_) (fun h => absurd rfl h)
  exact J_widen (by omega) (by omega) (nx ad _ _ _ _ _ _ _ _ _ _ _ _ rfl ⟨hV, by rw [upc_self]; exact hw, hk⟩ (Nat.le_add_right _ _))
set_option maxHeartbeats 1000000 in
theorem lw_c29 (cx : CX p l s m args meth c RL cL_law (some .int) 9 D g A) (htr : l.stackTraces = false) (hX : va_X b Ln xs s s.heap) (hbl : b < s.heap.size) (hbA : ¬ A b) (hLn : Ln ≤ 2560) (hi : i + 5 ≤ Ln) (hV : IV κ X) (hw : WV κ cs) (hk : κ.2.2.1 1 ≤ κ.2.2.1 0) (hd : κ.2.2.1 2 + 999 < 2147483648) (hc : cells + 20 ≤ room_1.cells) (hs : slots + 120 ≤ room_1.slots) (nx : NX p l e s m args below meth c D g A Q (cells + 20) (slots + 120) (κ.2.2.1 2 + 999) (ad 0 0) am b o1 o2 i) : J p l e room_1 s m args below meth c D A 9 Q cells slots (wW g ad κ X cs lf pr o1 f1 am κ th ch cm rm row o2 f2) (LL b (ad 0 0) (am 0) o1 o2 i) 2012 [] := by
  refine J_aload_n cx dL_law_2012 rfl 4 rfl ?_
  refine J_ws (ws' := wW g ad κ X (upc cs 0 (cs 0)) lf pr o1 f1 am κ th ch cm rm row o2 f2) (by rw [upc_self]) ?_
  refine J_callVi cx kL_243 (As := []) (frI (w := iW ad g κ X (upc cs 0 (cs 0)) lf pr) (wr := oL o1 g f1 ++ (mW am g κ th ch cm rm row ++ oD o2 g f2)) (W2 := fun _ => wW g ad κ X (upc cs 0 (cs 0)) lf pr o1 f1 am κ th ch cm rm row o2 f2) (pm_x _ _ _) (fun _ => (pm_x _ _ _).symm) (tX6_isThrough l D g _ ad κ X cs lf pr (cs 0) hV.1 hV.2.1 hw.1)) ⟨rfl, rfl, by decide, by decide⟩ ⟨by omega, by omega⟩ rfl 0 rfl rfl rfl (Nat.le_of_ble_eq_true rfl) dL_law_2013 ?_
  intro r9 _ hr9
  subst hr9
  refine J_aload_n cx dL_law_2016 rfl 3 rfl ?_
  refine J_callVi cx kL_247 (As := []) (frI (w := mW am g κ th ch cm rm row) (wr := (iW ad g κ X (upc cs 0 (cs 0)) lf pr ++ oL o1 g f1) ++ oD o2 g f2) (W2 := fun _ => wW g ad κ X (upc cs 0 (cs 0)) lf pr o1 f1 am κ (nI 0) ch cm rm row o2 f2) (pm_m _ _ _) (fun _ => (pm_m _ _ _).symm) (tX7_isThrough l D g _ am κ th ch cm rm row hV.2.2.2.1)) ⟨rfl, rfl, by decide, by decide⟩ ⟨by omega, by omega⟩ rfl (iW ad g κ X (upc cs 0 (cs 0)) lf pr ++ oL o1 g f1).length (at_md rfl) rfl rfl (Nat.le_of_ble_eq_true rfl) dL_law_2017 ?_
  intro r8 _ hr8
  subst hr8
  refine J_icmp_eq cx (tgt := 2627) dL_law_2020 (by decide) (fun _ => ?_) (fun h => absurd rfl h)
  exact J_widen (by omega) (by omega) (nx ad _ _ _ _ _ _ _ _ _ _ _ _ rfl ⟨hV, by rw [upc_self]; exact hw, hk⟩ (Nat.le_add_right _ _))
end LC
