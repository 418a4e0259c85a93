set_option maxHeartbeats 4000000 in
set_option maxRecDepth 100000 in
theorem wl_c {p : Program} {l : Launch} {e : Env} {s : State} {m : MethodId} {args : Array Value} {below : List Frame} {meth : Method} {c : Code} {D : va_G} {g : Nat → ClassId} {A : Nat → Prop} {an : Nat} {N : Nat → Int32} {κ : CS} {u : UT} {b : Nat} {ci : Nat} {on : Nat} (htr : l.stackTraces = false) (hv : INV κ u.2.1 u.2.2.1) (hb : u.1 0 0 = b) (hd : κ.2.2.1 2 + 999 < 2147483648) (hN : NT N κ) (hc : ci < κ.2.2.1 0) (ho : on < 2147483648) (cx : CX p l s m args meth c yL_isWell.cls cL_isWell (some .boolean) 9 D g A) : J p l e ({ frames := 18, cells := 70, slots := 420, locals := 491 } : Room) s m args below meth c D A 9 (MQ below (va_Qi (RDP κ b (nI 1)) (fun u => PO D A (iA g an 700 N :: wT g κ u)) A) args s 70 420 A) 18 108 (iA g an 700 N :: wT g κ u) [(5, .int (nI 1)), (4, .int (nI (10 + 14 * ci))), (0, .ref b), (1, .ref an), (2, .int (nI ci)), (3, .int (nI on))] 247 [] := by
  have hI := hv.1.2.2.2.1
  have hn := hv.1.1.1
  refine J_aload_n cx dL_isWell_247 rfl 3 rfl ?_
  refine J_iload_n cx dL_isWell_248 rfl 4 rfl ?_
  refine J_iload_n cx dL_isWell_249 rfl 5 rfl ?_
  refine J_callSr cx kL_217 (As := [.ref an, .int (nI ci), .int (nI on)]) (tL_found l D g A an N κ (wT g κ u) ci (nI on) hN hI (by omega)) ⟨rfl, rfl, by first | decide | (simp only [rmK]; omega), by first | decide | (simp only [rmK]; omega)⟩ ⟨by first | decide | (show _ ≤ _; dsimp only; omega), by first | decide | (show _ ≤ _; dsimp only; omega)⟩ rfl rfl (Nat.le_of_ble_eq_true rfl) dL_isWell_250 ?_
  intro _ qf250 _
  have hf7 := fo_7 hI (i := ci) (on := nI on)
  refine J_astore cx (L' := [(7, .ref qf250), (5, .int (nI 1)), (4, .int (nI (10 + 14 * ci))), (0, .ref b), (1, .ref an), (2, .int (nI ci)), (3, .int (nI on))]) dL_isWell_253 (by decide) rfl ?_
  refine J_iload cx dL_isWell_255 1 rfl ?_
  refine J_aload_n cx dL_isWell_257 rfl 3 rfl ?_
  refine J_iload_n cx dL_isWell_258 rfl 5 rfl ?_
  refine J_iload_n cx dL_isWell_259 rfl 6 rfl ?_
  refine J_callVi cx kL_74 (As := [.int (nI ci), .int (nI on)]) (frI (w := wT g κ u) (wr := [iA g an 700 N, iA g qf250 12 (fun i => nI ((foF κ ci (nI on)) i))]) (W' := fun (u' : UT) => wT g κ u') (W2 := fun (u' : UT) => iA g an 700 N :: iA g qf250 12 (fun i => nI ((foF κ ci (nI on)) i)) :: wT g κ u') (pm_2 _ _ _) (fun _ => (pm_2 _ _ _).symm) (rd_chainSize l D g _ κ u b ci on htr hv hb  hc ho)) ⟨rfl, rfl, by first | decide | (simp only [rmK]; omega), by first | decide | (simp only [rmK]; omega)⟩ ⟨by first | decide | (show _ ≤ _; dsimp only; omega), by first | decide | (show _ ≤ _; dsimp only; omega)⟩ rfl 2 (wT_at (g := g) hb) rfl rfl (Nat.le_of_ble_eq_true rfl) dL_isWell_260 ?_
  intro r260 u260 hu260; obtain ⟨hr260, hb260, hv260⟩ := hu260; subst hr260
  refine J_aload cx dL_isWell_263 0 rfl ?_
  refine J_iconst cx (v := nI 1) dL_isWell_265 (by decide) ?_
  refine J_iald cx (j := 1) (f := fun i => nI ((foF κ ci (nI on)) i)) 1 rfl rfl (by omega) (by decide) dL_isWell_266 ?_
  refine J_top (v' := .int (nI (foF κ ci (nI on) 1))) (congrArg (fun z => Value.int (nI z)) rfl) ?_
  refine J_icmp_ne cx (tgt := 315) dL_isWell_267 (by decide) (fun h => absurd rfl h) (fun _ => ?_)
  refine J_aload_n cx dL_isWell_270 rfl 3 rfl ?_
  refine J_iload_n cx dL_isWell_271 rfl 5 rfl ?_
  refine J_iload_n cx dL_isWell_272 rfl 6 rfl ?_
  refine J_callVi cx kL_80 (As := [.int (nI ci), .int (nI on)]) (frI (w := wT g κ u260) (wr := [iA g an 700 N, iA g qf250 12 (fun i => nI ((foF κ ci (nI on)) i))]) (W' := fun (u' : UT) => wT g κ u') (W2 := fun (u' : UT) => iA g an 700 N :: iA g qf250 12 (fun i => nI ((foF κ ci (nI on)) i)) :: wT g κ u') (pm_2 _ _ _) (fun _ => (pm_2 _ _ _).symm) (rd_goodChains l D g _ κ u260 b ci on htr hv260 hb260  hc ho)) ⟨rfl, rfl, by first | decide | (simp only [rmK]; omega), by first | decide | (simp only [rmK]; omega)⟩ ⟨by first | decide | (show _ ≤ _; dsimp only; omega), by first | decide | (show _ ≤ _; dsimp only; omega)⟩ rfl 2 (wT_at (g := g) hb260) rfl rfl (Nat.le_of_ble_eq_true rfl) dL_isWell_273 ?_
  intro r273 u273 hu273; obtain ⟨hr273, hb273, hv273⟩ := hu273; subst hr273
  refine J_aload cx dL_isWell_276 0 rfl ?_
  refine J_iconst cx (v := nI 0) dL_isWell_278 (by decide) ?_
  refine J_iald cx (j := 0) (f := fun i => nI ((foF κ ci (nI on)) i)) 1 rfl rfl (by omega) (by decide) dL_isWell_279 ?_
  refine J_top (v' := .int (nI (foF κ ci (nI on) 0))) (congrArg (fun z => Value.int (nI z)) rfl) ?_
  refine J_icmp_ne cx (tgt := 315) dL_isWell_280 (by decide) (fun h => absurd rfl h) (fun _ => ?_)
  refine J_aload_n cx dL_isWell_283 rfl 3 rfl ?_
  refine J_iload_n cx dL_isWell_284 rfl 5 rfl ?_
  refine J_iload_n cx dL_isWell_285 rfl 6 rfl ?_
  refine J_callVi cx kL_221 (As := [.int (nI ci), .int (nI on)]) (frI (w := wT g κ u273) (wr := [iA g an 700 N, iA g qf250 12 (fun i => nI ((foF κ ci (nI on)) i))]) (W' := fun (u' : UT) => wT g κ u') (W2 := fun (u' : UT) => iA g an 700 N :: iA g qf250 12 (fun i => nI ((foF κ ci (nI on)) i)) :: wT g κ u') (pm_2 _ _ _) (fun _ => (pm_2 _ _ _).symm) (rd_goodChainsByWalks l D g _ κ u273 b ci on htr hv273 hb273  hc ho)) ⟨rfl, rfl, by first | decide | (simp only [rmK]; omega), by first | decide | (simp only [rmK]; omega)⟩ ⟨by first | decide | (show _ ≤ _; dsimp only; omega), by first | decide | (show _ ≤ _; dsimp only; omega)⟩ rfl 2 (wT_at (g := g) hb273) rfl rfl (Nat.le_of_ble_eq_true rfl) dL_isWell_286 ?_
  intro r286 u286 hu286; obtain ⟨hr286, hb286, hv286⟩ := hu286; subst hr286
  refine J_aload cx dL_isWell_289 0 rfl ?_
  refine J_iconst cx (v := nI 0) dL_isWell_291 (by decide) ?_
  refine J_iald cx (j := 0) (f := fun i => nI ((foF κ ci (nI on)) i)) 1 rfl rfl (by omega) (by decide) dL_isWell_292 ?_
  refine J_top (v' := .int (nI (foF κ ci (nI on) 0))) (congrArg (fun z => Value.int (nI z)) rfl) ?_
  refine J_icmp_ne cx (tgt := 315) dL_isWell_293 (by decide) (fun h => absurd rfl h) (fun _ => ?_)
  refine J_aload_n cx dL_isWell_296 rfl 3 rfl ?_
  refine J_iload_n cx dL_isWell_297 rfl 5 rfl ?_
  refine J_iload_n cx dL_isWell_298 rfl 6 rfl ?_
  refine J_aload cx dL_isWell_299 0 rfl ?_
  refine J_iconst cx (v := nI 1) dL_isWell_301 (by decide) ?_
  refine J_iald cx (j := 1) (f := fun i => nI ((foF κ ci (nI on)) i)) 1 rfl rfl (by omega) (by decide) dL_isWell_302 ?_
  refine J_top (v' := .int (nI (foF κ ci (nI on) 1))) (congrArg (fun z => Value.int (nI z)) rfl) ?_
  refine J_callHi cx kL_224 (As := [.ref b, .int (nI ci), .int (nI on), .int (nI (foF κ ci (nI on) 1))]) (frI (w := wT g κ u286) (wr := [iA g an 700 N, iA g qf250 12 (fun i => nI ((foF κ ci (nI on)) i))]) (W' := fun (u' : UT) => wT g κ u') (W2 := fun (u' : UT) => iA g an 700 N :: iA g qf250 12 (fun i => nI ((foF κ ci (nI on)) i)) :: wT g κ u') (pm_2 _ _ _) (fun _ => (pm_2 _ _ _).symm) (rd_LchainAt l D g _ κ u286 b ci on (foF κ ci (nI on) 1) htr hv286 hb286 hd hc ho (by have := fo_7 hI (i := ci) (on := nI on); omega))) ⟨rfl, rfl, by first | decide | (simp only [rmK]; omega), by first | decide | (simp only [rmK]; omega)⟩ ⟨by first | decide | (show _ ≤ _; dsimp only; omega), by first | decide | (show _ ≤ _; dsimp only; omega)⟩ rfl rfl (Nat.le_of_ble_eq_true rfl) dL_isWell_303 ?_
  intro r303 u303 hu303; obtain ⟨hr303, hb303, hv303⟩ := hu303; subst hr303
  refine J_ldc cx (v := (-900003)) dL_isWell_306 cL_39 ?_
  refine J_icmp_ne cx (tgt := 315) dL_isWell_308 (by decide) (fun c_4 => ?_) (fun c_4 => ?_)
  · have c_4d := decide_eq_false c_4
    exact absurd ((by unfold chV; exact if_neg (Nat.lt_irrefl _))) c_4
  · have c_4d := decide_eq_true c_4
    refine J_iconst cx (v := nI 1) dL_isWell_311 (by decide) ?_
    refine J_goto cx (tgt := 316) dL_isWell_312 (by decide) ?_
    refine J_iand cx dL_isWell_316 ?_
    refine J_top (v' := .int (zb (true && true))) (congrArg Value.int (zb_and true true)) ?_
    refine J_istore cx (L' := [(5, .int (zb (true && true))), (7, .ref qf250), (4, .int (nI (10 + 14 * ci))), (0, .ref b), (1, .ref an), (2, .int (nI ci)), (3, .int (nI on))]) dL_isWell_317 (by decide) rfl ?_
    refine J_iconst cx (v := nI 0) dL_isWell_319 (by decide) ?_
    refine J_istore cx (L' := [(8, .int (nI 0)), (5, .int (zb (true && true))), (7, .ref qf250), (4, .int (nI (10 + 14 * ci))), (0, .ref b), (1, .ref an), (2, .int (nI ci)), (3, .int (nI on))]) dL_isWell_320 (by decide) rfl ?_
    have LQ : ∀ (fu : Nat) (k : Nat) (uu : UT), (k ≤ foF κ ci (nI on) 1) → (uu.1 0 0 = b) → (INV κ uu.2.1 uu.2.2.1) → foF κ ci (nI on) 1 - k < fu → J p l e ({ frames := 18, cells := 70, slots := 420, locals := 491 } : Room) s m args below meth c D A 9 (MQ below (va_Qi (RDP κ b (nI 1)) (fun u => PO D A (iA g an 700 N :: wT g κ u)) A) args s 70 420 A) (36 + 3 * k) (240 + 18 * k) (iA g an 700 N :: iA g qf250 12 (fun i => nI ((foF κ ci (nI on)) i)) :: wT g κ uu) [(8, .int (nI k)), (7, .ref qf250), (5, .int (nI 1)), (4, .int (nI (10 + 14 * ci))), (0, .ref b), (1, .ref an), (2, .int (nI ci)), (3, .int (nI on))] 322 [] := by
      intro fu; induction fu with
      | zero => intro k uu hkk hb9 hv9 hfu; exact absurd hfu (Nat.not_lt_zero _)
      | succ fu ih =>
        intro k uu hkk hb9 hv9 hfu
        refine J_iload cx dL_isWell_322 0 rfl ?_
        refine J_aload cx dL_isWell_324 1 rfl ?_
        refine J_iconst cx (v := nI 1) dL_isWell_326 (by decide) ?_
        refine J_iald cx (j := 1) (f := fun i => nI ((foF κ ci (nI on)) i)) 1 rfl rfl (by omega) (by decide) dL_isWell_327 ?_
        refine J_top (v' := .int (nI (foF κ ci (nI on) 1))) (congrArg (fun z => Value.int (nI z)) rfl) ?_
        refine J_icmp_ge cx (tgt := 365) dL_isWell_328 (by decide) (fun c_5 => ?_) (fun c_5 => ?_)
        · have c_5 := (nat_ic_ge (by omega) (by omega)).mp c_5
          have c_5d := decide_eq_true c_5
          refine J_iload cx dL_isWell_365 2 rfl ?_
          refine J_drop ?_
          exact J_endR cx rfl rfl rfl hb9 hv9 (by first | (exact Nat.le_of_ble_eq_true rfl) | omega) (by first | (exact Nat.le_of_ble_eq_true rfl) | omega) dL_isWell_367
        · have c_5 := (nat_ic_ge_f (by omega) (by omega)).mp c_5
          have c_5d := decide_eq_false (Nat.not_le.mpr c_5)
          refine J_iload cx dL_isWell_331 2 rfl ?_
          refine J_aload_n cx dL_isWell_333 rfl 4 rfl ?_
          refine J_iload_n cx dL_isWell_334 rfl 6 rfl ?_
          refine J_iload_n cx dL_isWell_335 rfl 7 rfl ?_
          refine J_iload cx dL_isWell_336 0 rfl ?_
          refine J_callHi cx kL_224 (As := [.ref b, .int (nI ci), .int (nI on), .int (nI k)]) (frI (w := wT g κ uu) (wr := [iA g an 700 N, iA g qf250 12 (fun i => nI ((foF κ ci (nI on)) i))]) (W' := fun (u' : UT) => wT g κ u') (W2 := fun (u' : UT) => iA g an 700 N :: iA g qf250 12 (fun i => nI ((foF κ ci (nI on)) i)) :: wT g κ u') (pm_2 _ _ _) (fun _ => (pm_2 _ _ _).symm) (rd_LchainAt l D g _ κ uu b ci on k htr hv9 hb9 hd hc ho (by have := fo_7 hI (i := ci) (on := nI on); omega))) ⟨rfl, rfl, by first | decide | (simp only [rmK]; omega), by first | decide | (simp only [rmK]; omega)⟩ ⟨by first | decide | (show _ ≤ _; dsimp only; omega), by first | decide | (show _ ≤ _; dsimp only; omega)⟩ rfl rfl (Nat.le_of_ble_eq_true rfl) dL_isWell_338 ?_
          intro r338 u338 hu338; obtain ⟨hr338, hb338, hv338⟩ := hu338; subst hr338
          refine J_aload cx dL_isWell_341 1 rfl ?_
          refine J_iconst cx (v := nI 2) dL_isWell_343 (by decide) ?_
          refine J_iload cx dL_isWell_344 0 rfl ?_
          refine J_iadd cx dL_isWell_346 ?_
          refine J_top (v' := .int (nI (2 + k))) (congrArg Value.int (nI_add 2 k)) ?_
          refine J_iald cx (j := (2 + k)) (f := fun i => nI ((foF κ ci (nI on)) i)) 1 rfl rfl (by omega) (by decide) dL_isWell_347 ?_
          refine J_top (v' := .int (nI (foF κ ci (nI on) (2 + k)))) (congrArg (fun z => Value.int (nI z)) rfl) ?_
          refine J_icmp_ne cx (tgt := 355) dL_isWell_348 (by decide) (fun c_6 => ?_) (fun c_6 => ?_)
          · have c_6d := decide_eq_false c_6
            exact absurd ((by unfold chV; exact if_pos (by omega))) c_6
          · have c_6d := decide_eq_true c_6
            refine J_iconst cx (v := nI 1) dL_isWell_351 (by decide) ?_
            refine J_goto cx (tgt := 356) dL_isWell_352 (by decide) ?_
            refine J_iand cx dL_isWell_356 ?_
            refine J_top (v' := .int (zb (true && true))) (congrArg Value.int (zb_and true true)) ?_
            refine J_istore cx (L' := [(5, .int (zb (true && true))), (8, .int (nI k)), (7, .ref qf250), (4, .int (nI (10 + 14 * ci))), (0, .ref b), (1, .ref an), (2, .int (nI ci)), (3, .int (nI on))]) dL_isWell_357 (by decide) rfl ?_
            refine J_iinc cx (v := (nI (k + 1))) (L' := [(8, .int (nI (k + 1))), (5, .int (zb (true && true))), (7, .ref qf250), (4, .int (nI (10 + 14 * ci))), (0, .ref b), (1, .ref an), (2, .int (nI ci)), (3, .int (nI on))]) dL_isWell_359 1 rfl (by exact nI_add k 1) (by decide) rfl ?_
            refine J_goto cx (tgt := 322) dL_isWell_362 (by decide) ?_
            refine J_L [0, 2, 1, 3, 4, 5, 6, 7] rfl ?_
            refine J_widen (k := 36 + 3 * (k + 1)) (n := 240 + 18 * (k + 1)) (by omega) (by omega) ?_
            exact ih (k + 1) _ (by omega) hb338 hv338 (by omega)
    refine J_L [0, 2, 1, 3, 4, 5, 6, 7] rfl ?_
    refine J_widen (k := 36 + 3 * 0) (n := 240 + 18 * 0) (by omega) (by omega) ?_
    exact LQ _ 0 _ (Nat.zero_le _) hb303 hv303 (Nat.lt_succ_self _)
set_option maxHeartbeats 4000000 in
set_option maxRecDepth 100000 in
theorem wl_b {p : Program} {l : Launch} {e : Env} {s : State} {m : MethodId} {args : Array Value} {below : List Frame} {meth : Method} {c : Code} {D : va_G} {g : Nat → ClassId} {A : Nat → Prop} {an : Nat} {N : Nat → Int32} {κ : CS} {u : UT} {b : Nat} {ci : Nat} {on : Nat} (htr : l.stackTraces = false) (hv : INV κ u.2.1 u.2.2.1) (hb : u.1 0 0 = b) (hd : κ.2.2.1 2 + 999 < 2147483648) (hN : NT N κ) (hc : ci < κ.2.2.1 0) (ho : on < 2147483648) (hcn : cnt (candB κ ci) (κ.2.2.1 0) ≤ 3) (cx : CX p l s m args meth c yL_isWell.cls cL_isWell (some .boolean) 9 D g A) : J p l e ({ frames := 18, cells := 70, slots := 420, locals := 491 } : Room) s m args below meth c D A 9 (MQ below (va_Qi (RDP κ b (nI 1)) (fun u => PO D A (iA g an 700 N :: wT g κ u)) A) args s 70 420 A) 5 30 (iA g an 700 N :: wT g κ u) [(5, .int (nI 1)), (4, .int (nI (10 + 14 * ci))), (0, .ref b), (1, .ref an), (2, .int (nI ci)), (3, .int (nI on))] 122 [] := by
  have hI := hv.1.2.2.2.1
  have hn := hv.1.1.1
  refine J_iload cx dL_isWell_122 0 rfl ?_
  refine J_aload_n cx dL_isWell_124 rfl 2 rfl ?_
  refine J_iload_n cx dL_isWell_125 rfl 4 rfl ?_
  refine J_iload_n cx dL_isWell_126 rfl 5 rfl ?_
  refine J_callVi cx kL_206 (As := [.int (nI ci), .int (nI on)]) (frI (w := wT g κ u) (wr := [iA g an 700 N]) (W' := fun (u' : UT) => wT g κ u') (W2 := fun (u' : UT) => iA g an 700 N :: wT g κ u') (pm_1 _ _) (fun _ => (pm_1 _ _).symm) (rd_isRevoked l D g _ κ u b ci on htr hv hb  hc ho)) ⟨rfl, rfl, by first | decide | (simp only [rmK]; omega), by first | decide | (simp only [rmK]; omega)⟩ ⟨by first | decide | (show _ ≤ _; dsimp only; omega), by first | decide | (show _ ≤ _; dsimp only; omega)⟩ rfl 1 (wT_at (g := g) hb) rfl rfl (Nat.le_of_ble_eq_true rfl) dL_isWell_127 ?_
  intro r127 u127 hu127; obtain ⟨hr127, hb127, hv127⟩ := hu127; subst hr127
  refine J_aload_n cx dL_isWell_130 rfl 3 rfl ?_
  refine J_iload_n cx dL_isWell_131 rfl 4 rfl ?_
  refine J_iload_n cx dL_isWell_132 rfl 5 rfl ?_
  refine J_callSi cx kL_123 (As := [.ref an, .int (nI ci), .int (nI on)]) (tL_isOff l D g A an N κ (wT g κ u127) ci (nI on) hN hc hn) ⟨rfl, rfl, by first | decide | (simp only [rmK]; omega), by first | decide | (simp only [rmK]; omega)⟩ ⟨by first | decide | (show _ ≤ _; dsimp only; omega), by first | decide | (show _ ≤ _; dsimp only; omega)⟩ rfl rfl (Nat.le_of_ble_eq_true rfl) dL_isWell_133 ?_
  intro _ _ hr; cases hr
  refine J_icmp_ne cx (tgt := 158) dL_isWell_136 (by decide) (fun h => absurd rfl h) (fun _ => ?_)
  refine J_aload_n cx dL_isWell_139 rfl 2 rfl ?_
  refine J_iload_n cx dL_isWell_140 rfl 4 rfl ?_
  refine J_iload_n cx dL_isWell_141 rfl 5 rfl ?_
  refine J_callVi cx kL_209 (As := [.int (nI ci), .int (nI on)]) (frI (w := wT g κ u127) (wr := [iA g an 700 N]) (W' := fun (u' : UT) => wT g κ u') (W2 := fun (u' : UT) => iA g an 700 N :: wT g κ u') (pm_1 _ _) (fun _ => (pm_1 _ _).symm) (rd_isRevokedByLists l D g _ κ u127 b ci on htr hv127 hb127  hc ho)) ⟨rfl, rfl, by first | decide | (simp only [rmK]; omega), by first | decide | (simp only [rmK]; omega)⟩ ⟨by first | decide | (show _ ≤ _; dsimp only; omega), by first | decide | (show _ ≤ _; dsimp only; omega)⟩ rfl 1 (wT_at (g := g) hb127) rfl rfl (Nat.le_of_ble_eq_true rfl) dL_isWell_142 ?_
  intro r142 u142 hu142; obtain ⟨hr142, hb142, hv142⟩ := hu142; subst hr142
  refine J_aload_n cx dL_isWell_145 rfl 3 rfl ?_
  refine J_iload_n cx dL_isWell_146 rfl 4 rfl ?_
  refine J_iload_n cx dL_isWell_147 rfl 5 rfl ?_
  refine J_callSi cx kL_123 (As := [.ref an, .int (nI ci), .int (nI on)]) (tL_isOff l D g A an N κ (wT g κ u142) ci (nI on) hN hc hn) ⟨rfl, rfl, by first | decide | (simp only [rmK]; omega), by first | decide | (simp only [rmK]; omega)⟩ ⟨by first | decide | (show _ ≤ _; dsimp only; omega), by first | decide | (show _ ≤ _; dsimp only; omega)⟩ rfl rfl (Nat.le_of_ble_eq_true rfl) dL_isWell_148 ?_
  intro _ _ hr; cases hr
  refine J_icmp_ne cx (tgt := 158) dL_isWell_151 (by decide) (fun h => absurd rfl h) (fun _ => ?_)
  refine J_iconst cx (v := nI 1) dL_isWell_154 (by decide) ?_
  refine J_goto cx (tgt := 159) dL_isWell_155 (by decide) ?_
  refine J_iand cx dL_isWell_159 ?_
  refine J_top (v' := .int (zb (true && true))) (congrArg Value.int (zb_and true true)) ?_
  refine J_istore cx (L' := [(5, .int (zb (true && true))), (4, .int (nI (10 + 14 * ci))), (0, .ref b), (1, .ref an), (2, .int (nI ci)), (3, .int (nI on))]) dL_isWell_160 (by decide) rfl ?_
  refine J_iconst cx (v := nI 0) dL_isWell_162 (by decide) ?_
  refine J_istore cx (L' := [(6, .int (nI 0)), (5, .int (zb (true && true))), (4, .int (nI (10 + 14 * ci))), (0, .ref b), (1, .ref an), (2, .int (nI ci)), (3, .int (nI on))]) dL_isWell_163 (by decide) rfl ?_
  refine J_aload_n cx dL_isWell_165 rfl 4 rfl ?_
  refine J_iload_n cx dL_isWell_166 rfl 5 rfl ?_
  refine J_iconst cx (v := nI 0) dL_isWell_167 (by decide) ?_
  refine J_callSi cx kL_189 (As := [.ref an, .int (nI ci), .int (nI 0)]) (tL_ranked l D g A an N κ (wT g κ u142) ci 0 hN hc (by decide) hn) ⟨rfl, rfl, by first | decide | (simp only [rmK]; omega), by first | decide | (simp only [rmK]; omega)⟩ ⟨by first | decide | (show _ ≤ _; dsimp only; omega), by first | decide | (show _ ≤ _; dsimp only; omega)⟩ rfl rfl (Nat.le_of_ble_eq_true rfl) dL_isWell_168 ?_
  intro _ _ hr; cases hr
  refine J_istore cx (L' := [(7, .int (rkI κ ci 0)), (6, .int (nI 0)), (5, .int (zb (true && true))), (4, .int (nI (10 + 14 * ci))), (0, .ref b), (1, .ref an), (2, .int (nI ci)), (3, .int (nI on))]) dL_isWell_171 (by decide) rfl ?_
  have LP : ∀ (fu : Nat) (k : Nat) (uu : UT), (k ≤ cnt (candB κ ci) (κ.2.2.1 0)) → (uu.1 0 0 = b) → (INV κ uu.2.1 uu.2.2.1) → cnt (candB κ ci) (κ.2.2.1 0) - k < fu → J p l e ({ frames := 18, cells := 70, slots := 420, locals := 491 } : Room) s m args below meth c D A 9 (MQ below (va_Qi (RDP κ b (nI 1)) (fun u => PO D A (iA g an 700 N :: wT g κ u)) A) args s 70 420 A) (9 + 2 * k) (54 + 12 * k) (iA g an 700 N :: wT g κ uu) [(7, .int (rkI κ ci k)), (6, .int (nI k)), (5, .int (nI 1)), (4, .int (nI (10 + 14 * ci))), (0, .ref b), (1, .ref an), (2, .int (nI ci)), (3, .int (nI on))] 173 [] := by
    intro fu; induction fu with
    | zero => intro k uu hkk hb9 hv9 hfu; exact absurd hfu (Nat.not_lt_zero _)
    | succ fu ih =>
      intro k uu hkk hb9 hv9 hfu
      refine J_iload cx dL_isWell_173 0 rfl ?_
      cases hf : fstN (nthB κ ci (nI k)) (κ.2.2.1 0) with
      | none =>
        refine J_top (v' := .int (-1)) (congrArg Value.int (by unfold rkI; rw [hf]; rfl)) ?_
        have hke : k = cnt (candB κ ci) (κ.2.2.1 0) := Nat.le_antisymm hkk (nth_none hn (by omega) hf)
        refine J_if_lt cx (tgt := 215) dL_isWell_175 (by decide) (fun _ => ?_) (fun h => absurd h (by decide))
        refine J_widen (k := 15) (n := 90) (by omega) (by omega) ?_
        refine J_iload cx dL_isWell_215 2 rfl ?_
        refine J_aload_n cx dL_isWell_217 rfl 4 rfl ?_
        refine J_iload_n cx dL_isWell_218 rfl 6 rfl ?_
        refine J_callVi cx kL_214 (As := [.int (nI ci)]) (frI (w := wT g κ uu) (wr := [iA g an 700 N]) (W' := fun (u' : UT) => wT g κ u') (W2 := fun (u' : UT) => iA g an 700 N :: wT g κ u') (pm_1 _ _) (fun _ => (pm_1 _ _).symm) (rd_candidates l D g _ κ uu b ci htr hv9 hb9  hc)) ⟨rfl, rfl, by first | decide | (simp only [rmK]; omega), by first | decide | (simp only [rmK]; omega)⟩ ⟨by first | decide | (show _ ≤ _; dsimp only; omega), by first | decide | (show _ ≤ _; dsimp only; omega)⟩ rfl 1 (wT_at (g := g) hb9) rfl rfl (Nat.le_of_ble_eq_true rfl) dL_isWell_219 ?_
        intro r219 u219 hu219; obtain ⟨hr219, hb219, hv219⟩ := hu219; subst hr219
        refine J_iload cx dL_isWell_222 1 rfl ?_
        refine J_icmp_ne cx (tgt := 243) dL_isWell_224 (by decide) (fun c_4 => ?_) (fun c_4 => ?_)
        · have c_4 := (nat_ic_ne (by omega) (by omega)).mp c_4
          have c_4d := decide_eq_false c_4
          exact absurd ((by rw [← hke])) c_4
        · have c_4 := (nat_ic_ne_f (by omega) (by omega)).mp c_4
          have c_4d := decide_eq_true c_4
          refine J_aload_n cx dL_isWell_227 rfl 4 rfl ?_
          refine J_iload_n cx dL_isWell_228 rfl 6 rfl ?_
          refine J_iload cx dL_isWell_229 1 rfl ?_
          refine J_callHi cx kL_212 (As := [.ref b, .int (nI ci), .int (nI k)]) (frI (w := wT g κ u219) (wr := [iA g an 700 N]) (W' := fun (u' : UT) => wT g κ u') (W2 := fun (u' : UT) => iA g an 700 N :: wT g κ u') (pm_1 _ _) (fun _ => (pm_1 _ _).symm) (rd_LcandidateAt l D g _ κ u219 b ci k htr hv219 hb219 hd hc)) ⟨rfl, rfl, by first | decide | (simp only [rmK]; omega), by first | decide | (simp only [rmK]; omega)⟩ ⟨by first | decide | (show _ ≤ _; dsimp only; omega), by first | decide | (show _ ≤ _; dsimp only; omega)⟩ rfl rfl (Nat.le_of_ble_eq_true rfl) dL_isWell_231 ?_
          intro r231 u231 hu231; obtain ⟨hr231, hb231, hv231⟩ := hu231; subst hr231
          refine J_ldc cx (v := (-900002)) dL_isWell_234 cL_33 ?_
          refine J_icmp_ne cx (tgt := 243) dL_isWell_236 (by decide) (fun c_5 => ?_) (fun c_5 => ?_)
          · have c_5d := decide_eq_false c_5
            exact absurd ((by unfold caV; rw [hf])) c_5
          · have c_5d := decide_eq_true c_5
            refine J_iconst cx (v := nI 1) dL_isWell_239 (by decide) ?_
            refine J_goto cx (tgt := 244) dL_isWell_240 (by decide) ?_
            refine J_iand cx dL_isWell_244 ?_
            refine J_top (v' := .int (zb (true && true))) (congrArg Value.int (zb_and true true)) ?_
            refine J_istore cx (L' := [(5, .int (zb (true && true))), (7, .int (rkI κ ci k)), (6, .int (nI k)), (4, .int (nI (10 + 14 * ci))), (0, .ref b), (1, .ref an), (2, .int (nI ci)), (3, .int (nI on))]) dL_isWell_245 (by decide) rfl ?_
            refine J_L [0, 3, 4, 5, 6, 7] rfl ?_
            exact wl_c htr hv231 hb231 hd hN hc ho cx
      | some nx =>
        refine J_top (v' := .int (nI nx)) (congrArg Value.int (by unfold rkI; rw [hf]; rfl)) ?_
        have hnx := (fstN_spec hf).1
        have hkl := nth_some hn (by omega) hf
        refine J_Le (L' := [(7, .int (nI nx)), (6, .int (nI k)), (5, .int (nI 1)), (4, .int (nI (10 + 14 * ci))), (0, .ref b), (1, .ref an), (2, .int (nI ci)), (3, .int (nI on))]) (by rw [show rkI κ ci k = nI nx from by unfold rkI; rw [hf]; rfl]) ?_
        refine J_if_lt cx (tgt := 215) dL_isWell_175 (by decide) (fun h => absurd h (nI_pos (by omega))) (fun _ => ?_)
        refine J_iload cx dL_isWell_178 2 rfl ?_
        refine J_aload_n cx dL_isWell_180 rfl 4 rfl ?_
        refine J_iload_n cx dL_isWell_181 rfl 6 rfl ?_
        refine J_iload cx dL_isWell_182 1 rfl ?_
        refine J_callHi cx kL_212 (As := [.ref b, .int (nI ci), .int (nI k)]) (frI (w := wT g κ uu) (wr := [iA g an 700 N]) (W' := fun (u' : UT) => wT g κ u') (W2 := fun (u' : UT) => iA g an 700 N :: wT g κ u') (pm_1 _ _) (fun _ => (pm_1 _ _).symm) (rd_LcandidateAt l D g _ κ uu b ci k htr hv9 hb9 hd hc)) ⟨rfl, rfl, by first | decide | (simp only [rmK]; omega), by first | decide | (simp only [rmK]; omega)⟩ ⟨by first | decide | (show _ ≤ _; dsimp only; omega), by first | decide | (show _ ≤ _; dsimp only; omega)⟩ rfl rfl (Nat.le_of_ble_eq_true rfl) dL_isWell_184 ?_
        intro r184 u184 hu184; obtain ⟨hr184, hb184, hv184⟩ := hu184; subst hr184
        refine J_iload cx dL_isWell_187 0 rfl ?_
        refine J_icmp_ne cx (tgt := 196) dL_isWell_189 (by decide) (fun c_7 => ?_) (fun c_7 => ?_)
        · have c_7d := decide_eq_false c_7
          exact absurd ((by unfold caV; rw [hf])) c_7
        · have c_7d := decide_eq_true c_7
          refine J_iconst cx (v := nI 1) dL_isWell_192 (by decide) ?_
          refine J_goto cx (tgt := 197) dL_isWell_193 (by decide) ?_
          refine J_iand cx dL_isWell_197 ?_
          refine J_top (v' := .int (zb (true && true))) (congrArg Value.int (zb_and true true)) ?_
          refine J_istore cx (L' := [(5, .int (zb (true && true))), (7, .int (nI nx)), (6, .int (nI k)), (4, .int (nI (10 + 14 * ci))), (0, .ref b), (1, .ref an), (2, .int (nI ci)), (3, .int (nI on))]) dL_isWell_198 (by decide) rfl ?_
          refine J_iinc cx (v := (nI (k + 1))) (L' := [(6, .int (nI (k + 1))), (5, .int (zb (true && true))), (7, .int (nI nx)), (4, .int (nI (10 + 14 * ci))), (0, .ref b), (1, .ref an), (2, .int (nI ci)), (3, .int (nI on))]) dL_isWell_200 2 rfl (by exact nI_add k 1) (by decide) rfl ?_
          refine J_aload_n cx dL_isWell_203 rfl 5 rfl ?_
          refine J_iload_n cx dL_isWell_204 rfl 6 rfl ?_
          refine J_iload cx dL_isWell_205 0 rfl ?_
          refine J_callSi cx kL_189 (As := [.ref an, .int (nI ci), .int (nI (k + 1))]) (tL_ranked l D g A an N κ (wT g κ u184) ci (k + 1) hN hc (by omega) hn) ⟨rfl, rfl, by first | decide | (simp only [rmK]; omega), by first | decide | (simp only [rmK]; omega)⟩ ⟨by first | decide | (show _ ≤ _; dsimp only; omega), by first | decide | (show _ ≤ _; dsimp only; omega)⟩ rfl rfl (Nat.le_of_ble_eq_true rfl) dL_isWell_207 ?_
          intro _ _ hr; cases hr
          refine J_istore cx (L' := [(7, .int (rkI κ ci (k + 1))), (6, .int (nI (k + 1))), (5, .int (zb (true && true))), (4, .int (nI (10 + 14 * ci))), (0, .ref b), (1, .ref an), (2, .int (nI ci)), (3, .int (nI on))]) dL_isWell_210 (by decide) rfl ?_
          refine J_goto cx (tgt := 173) dL_isWell_212 (by decide) ?_
          refine J_L [0, 1, 2, 3, 4, 5, 6, 7] rfl ?_
          refine J_widen (k := 9 + 2 * (k + 1)) (n := 54 + 12 * (k + 1)) (by omega) (by omega) ?_
          exact ih (k + 1) _ (by omega) hb184 hv184 (by omega)
  refine J_L [0, 1, 2, 3, 4, 5, 6, 7] rfl ?_
  refine J_widen (k := 9 + 2 * 0) (n := 54 + 12 * 0) (by omega) (by omega) ?_
  exact LP _ 0 _ (Nat.zero_le _) hb142 hv142 (Nat.lt_succ_self _)
set_option maxHeartbeats 4000000 in
set_option maxRecDepth 100000 in
theorem tL_isWell (l : Launch) (D : va_G) (g : Nat → ClassId) (A : Nat → Prop) (an : Nat) (N : Nat → Int32) (κ : CS) (u : UT) (b : Nat) (ci on : Nat) (htr : l.stackTraces = false) (hv : INV κ u.2.1 u.2.2.1) (hb : u.1 0 0 = b) (hd : κ.2.2.1 2 + 999 < 2147483648) (hN : NT N κ) (hc : ci < κ.2.2.1 0) (ho : on < 2147483648) : Met l yL_isWell (wsA yL_isWell cL_isWell 9 (some .boolean)) ({ frames := 18, cells := 70, slots := 420, locals := 491 } : Room) (va_Pc [.ref b, .ref an, .int (nI ci), .int (nI on)] (PRE D g A (iA g an 700 N :: wT g κ u))) (va_Qi (RDP κ b (nI 1)) (fun u => PO D A (iA g an 700 N :: wT g κ u)) A) 70 420 A := by
  have hI := hv.1.2.2.2.1
  have hn := hv.1.1.1
  have hcn := cnt_3 hv.1 hc
  refine metJ (by decide) (Nat.le_of_ble_eq_true rfl) ?_
  intro p e s m args below meth c _ _ cx
  refine J_bipush cx (v := nI 10) dL_isWell_0 (by decide) ?_
  refine J_bipush cx (v := nI 14) dL_isWell_2 (by decide) ?_
  refine J_iload_n cx dL_isWell_4 rfl 2 rfl ?_
  refine J_imul cx dL_isWell_5 ?_
  refine J_top (v' := .int (nI (14 * ci))) (congrArg Value.int (pk_mul 14 ci)) ?_
  refine J_iadd cx dL_isWell_6 ?_
  refine J_top (v' := .int (nI (10 + (14 * ci)))) (congrArg Value.int (nI_add 10 (14 * ci))) ?_
  refine J_istore cx (L' := [(4, .int (nI (10 + (14 * ci)))), (0, .ref b), (1, .ref an), (2, .int (nI ci)), (3, .int (nI on))]) dL_isWell_7 (by decide) rfl ?_
  refine J_aload_n cx dL_isWell_9 rfl 1 rfl ?_
  refine J_iload_n cx dL_isWell_10 rfl 3 rfl ?_
  refine J_callVi cx kL_194 (As := [.int (nI ci)]) (frI (w := wT g κ u) (wr := [iA g an 700 N]) (W' := fun (u' : UT) => wT g κ u') (W2 := fun (u' : UT) => iA g an 700 N :: wT g κ u') (pm_1 _ _) (fun _ => (pm_1 _ _).symm) (rd_nameOf l D g _ κ u b ci htr hv hb  hc)) ⟨rfl, rfl, by first | decide | (simp only [rmK]; omega), by first | decide | (simp only [rmK]; omega)⟩ ⟨by first | decide | (show _ ≤ _; dsimp only; omega), by first | decide | (show _ ≤ _; dsimp only; omega)⟩ rfl 1 (wT_at (g := g) hb) rfl rfl (Nat.le_of_ble_eq_true rfl) dL_isWell_11 ?_
  intro r11 u11 hu11; obtain ⟨hr11, hb11, hv11⟩ := hu11; subst hr11
  refine J_aload_n cx dL_isWell_14 rfl 2 rfl ?_
  refine J_iload cx dL_isWell_15 0 rfl ?_
  refine J_iald cx (j := (10 + 14 * ci)) (f := N) 0 rfl (congrArg nI (by omega)) (by omega) (by decide) dL_isWell_17 ?_
  refine J_top (v' := .int (κ.1 0 ci)) (congrArg Value.int (hN.c0 (by omega))) ?_
  refine J_icmp_ne cx (tgt := 67) dL_isWell_18 (by decide) (fun h => absurd rfl h) (fun _ => ?_)
  refine J_aload_n cx dL_isWell_21 rfl 1 rfl ?_
  refine J_iload_n cx dL_isWell_22 rfl 3 rfl ?_
  refine J_callVi cx kL_197 (As := [.int (nI ci)]) (frI (w := wT g κ u11) (wr := [iA g an 700 N]) (W' := fun (u' : UT) => wT g κ u') (W2 := fun (u' : UT) => iA g an 700 N :: wT g κ u') (pm_1 _ _) (fun _ => (pm_1 _ _).symm) (rd_keyOf l D g _ κ u11 b ci htr hv11 hb11  hc)) ⟨rfl, rfl, by first | decide | (simp only [rmK]; omega), by first | decide | (simp only [rmK]; omega)⟩ ⟨by first | decide | (show _ ≤ _; dsimp only; omega), by first | decide | (show _ ≤ _; dsimp only; omega)⟩ rfl 1 (wT_at (g := g) hb11) rfl rfl (Nat.le_of_ble_eq_true rfl) dL_isWell_23 ?_
  intro r23 u23 hu23; obtain ⟨hr23, hb23, hv23⟩ := hu23; subst hr23
  refine J_aload_n cx dL_isWell_26 rfl 2 rfl ?_
  refine J_iload cx dL_isWell_27 0 rfl ?_
  refine J_iconst cx (v := nI 1) dL_isWell_29 (by decide) ?_
  refine J_iadd cx dL_isWell_30 ?_
  refine J_top (v' := .int (nI ((10 + (14 * ci)) + 1))) (congrArg Value.int (nI_add (10 + (14 * ci)) 1)) ?_
  refine J_iald cx (j := (10 + 14 * ci + 1)) (f := N) 0 rfl (congrArg nI (by omega)) (by omega) (by decide) dL_isWell_31 ?_
  refine J_top (v' := .int (κ.1 1 ci)) (congrArg Value.int (hN.c1 (by omega))) ?_
  refine J_icmp_ne cx (tgt := 67) dL_isWell_32 (by decide) (fun h => absurd rfl h) (fun _ => ?_)
  refine J_aload_n cx dL_isWell_35 rfl 1 rfl ?_
  refine J_iload_n cx dL_isWell_36 rfl 3 rfl ?_
  refine J_callVi cx kL_200 (As := [.int (nI ci)]) (frI (w := wT g κ u23) (wr := [iA g an 700 N]) (W' := fun (u' : UT) => wT g κ u') (W2 := fun (u' : UT) => iA g an 700 N :: wT g κ u') (pm_1 _ _) (fun _ => (pm_1 _ _).symm) (rd_issuerKeyOf l D g _ κ u23 b ci htr hv23 hb23  hc)) ⟨rfl, rfl, by first | decide | (simp only [rmK]; omega), by first | decide | (simp only [rmK]; omega)⟩ ⟨by first | decide | (show _ ≤ _; dsimp only; omega), by first | decide | (show _ ≤ _; dsimp only; omega)⟩ rfl 1 (wT_at (g := g) hb23) rfl rfl (Nat.le_of_ble_eq_true rfl) dL_isWell_37 ?_
  intro r37 u37 hu37; obtain ⟨hr37, hb37, hv37⟩ := hu37; subst hr37
  refine J_aload_n cx dL_isWell_40 rfl 2 rfl ?_
  refine J_iload cx dL_isWell_41 0 rfl ?_
  refine J_iconst cx (v := nI 3) dL_isWell_43 (by decide) ?_
  refine J_iadd cx dL_isWell_44 ?_
  refine J_top (v' := .int (nI ((10 + (14 * ci)) + 3))) (congrArg Value.int (nI_add (10 + (14 * ci)) 3)) ?_
  refine J_iald cx (j := (10 + 14 * ci + 3)) (f := N) 0 rfl (congrArg nI (by omega)) (by omega) (by decide) dL_isWell_45 ?_
  refine J_top (v' := .int (κ.1 5 ci)) (congrArg Value.int (hN.c3 (by omega))) ?_
  refine J_icmp_ne cx (tgt := 67) dL_isWell_46 (by decide) (fun h => absurd rfl h) (fun _ => ?_)
  refine J_aload_n cx dL_isWell_49 rfl 1 rfl ?_
  refine J_iload_n cx dL_isWell_50 rfl 3 rfl ?_
  refine J_callVi cx kL_203 (As := [.int (nI ci)]) (frI (w := wT g κ u37) (wr := [iA g an 700 N]) (W' := fun (u' : UT) => wT g κ u') (W2 := fun (u' : UT) => iA g an 700 N :: wT g κ u') (pm_1 _ _) (fun _ => (pm_1 _ _).symm) (rd_lastDayOf l D g _ κ u37 b ci htr hv37 hb37  hc)) ⟨rfl, rfl, by first | decide | (simp only [rmK]; omega), by first | decide | (simp only [rmK]; omega)⟩ ⟨by first | decide | (show _ ≤ _; dsimp only; omega), by first | decide | (show _ ≤ _; dsimp only; omega)⟩ rfl 1 (wT_at (g := g) hb37) rfl rfl (Nat.le_of_ble_eq_true rfl) dL_isWell_51 ?_
  intro r51 u51 hu51; obtain ⟨hr51, hb51, hv51⟩ := hu51; subst hr51
  refine J_aload_n cx dL_isWell_54 rfl 2 rfl ?_
  refine J_iload cx dL_isWell_55 0 rfl ?_
  refine J_iconst cx (v := nI 5) dL_isWell_57 (by decide) ?_
  refine J_iadd cx dL_isWell_58 ?_
  refine J_top (v' := .int (nI ((10 + (14 * ci)) + 5))) (congrArg Value.int (nI_add (10 + (14 * ci)) 5)) ?_
  refine J_iald cx (j := (10 + 14 * ci + 5)) (f := N) 0 rfl (congrArg nI (by omega)) (by omega) (by decide) dL_isWell_59 ?_
  refine J_top (v' := .int (κ.1 3 ci)) (congrArg Value.int (hN.c5 (by omega))) ?_
  refine J_icmp_ne cx (tgt := 67) dL_isWell_60 (by decide) (fun h => absurd rfl h) (fun _ => ?_)
  refine J_iconst cx (v := nI 1) dL_isWell_63 (by decide) ?_
  refine J_goto cx (tgt := 68) dL_isWell_64 (by decide) ?_
  refine J_istore cx (L' := [(5, .int (nI 1)), (4, .int (nI (10 + (14 * ci)))), (0, .ref b), (1, .ref an), (2, .int (nI ci)), (3, .int (nI on))]) dL_isWell_68 (by decide) rfl ?_
  refine J_iload cx dL_isWell_70 0 rfl ?_
  refine J_aload_n cx dL_isWell_72 rfl 2 rfl ?_
  refine J_iload_n cx dL_isWell_73 rfl 4 rfl ?_
  refine J_callVi cx kL_64 (As := [.int (nI ci)]) (frI (w := wT g κ u51) (wr := [iA g an 700 N]) (W' := fun (u' : UT) => wT g κ u') (W2 := fun (u' : UT) => iA g an 700 N :: wT g κ u') (pm_1 _ _) (fun _ => (pm_1 _ _).symm) (rd_kindOf l D g _ κ u51 b ci htr hv51 hb51  hc)) ⟨rfl, rfl, by first | decide | (simp only [rmK]; omega), by first | decide | (simp only [rmK]; omega)⟩ ⟨by first | decide | (show _ ≤ _; dsimp only; omega), by first | decide | (show _ ≤ _; dsimp only; omega)⟩ rfl 1 (wT_at (g := g) hb51) rfl rfl (Nat.le_of_ble_eq_true rfl) dL_isWell_74 ?_
  intro r74 u74 hu74; obtain ⟨hr74, hb74, hv74⟩ := hu74; subst hr74
  refine J_aload_n cx dL_isWell_77 rfl 3 rfl ?_
  refine J_iload cx dL_isWell_78 1 rfl ?_
  refine J_bipush cx (v := nI 13) dL_isWell_80 (by decide) ?_
  refine J_iadd cx dL_isWell_82 ?_
  refine J_top (v' := .int (nI ((10 + (14 * ci)) + 13))) (congrArg Value.int (nI_add (10 + (14 * ci)) 13)) ?_
  refine J_iald cx (j := (10 + 14 * ci + 13)) (f := N) 0 rfl (congrArg nI (by omega)) (by omega) (by decide) dL_isWell_83 ?_
  refine J_top (v' := .int (zb (κ.2.1 1 ci))) (congrArg Value.int (hN.c13 (by omega))) ?_
  refine J_iconst cx (v := nI 1) dL_isWell_84 (by decide) ?_
  refine J_icmp_ne cx (tgt := 93) dL_isWell_85 (by decide) (fun c_5 => ?_) (fun c_5 => ?_)
  · have c_5 := (zb1n _).mp c_5
    refine J_aload_n cx dL_isWell_93 rfl 3 rfl ?_
    refine J_iload cx dL_isWell_94 1 rfl ?_
    refine J_bipush cx (v := nI 6) dL_isWell_96 (by decide) ?_
    refine J_iadd cx dL_isWell_98 ?_
    refine J_top (v' := .int (nI ((10 + (14 * ci)) + 6))) (congrArg Value.int (nI_add (10 + (14 * ci)) 6)) ?_
    refine J_iald cx (j := (10 + 14 * ci + 6)) (f := N) 0 rfl (congrArg nI (by omega)) (by omega) (by decide) dL_isWell_99 ?_
    refine J_top (v' := .int (zb (κ.2.1 0 ci))) (congrArg Value.int (hN.c6 (by omega))) ?_
    refine J_iconst cx (v := nI 1) dL_isWell_100 (by decide) ?_
    refine J_icmp_ne cx (tgt := 109) dL_isWell_101 (by decide) (fun c_6 => ?_) (fun c_6 => ?_)
    · have c_6 := (zb1n _).mp c_6
      refine J_bipush cx (v := nI 101) dL_isWell_109 (by decide) ?_
      refine J_icmp_ne cx (tgt := 118) dL_isWell_111 (by decide) (fun c_7 => ?_) (fun c_7 => ?_)
      · have c_7d := decide_eq_false c_7
        exact absurd ((by unfold knV; simp [c_5, c_6, c_7, c_7d])) c_7
      · have c_7d := decide_eq_true c_7
        refine J_iconst cx (v := nI 1) dL_isWell_114 (by decide) ?_
        refine J_goto cx (tgt := 119) dL_isWell_115 (by decide) ?_
        refine J_iand cx dL_isWell_119 ?_
        refine J_top (v' := .int (zb (true && true))) (congrArg Value.int (zb_and true true)) ?_
        refine J_istore cx (L' := [(5, .int (zb (true && true))), (4, .int (nI (10 + (14 * ci)))), (0, .ref b), (1, .ref an), (2, .int (nI ci)), (3, .int (nI on))]) dL_isWell_120 (by decide) rfl ?_
        refine J_L [0, 1, 2, 3, 4, 5] rfl ?_
        exact wl_b htr hv74 hb74 hd hN hc ho hcn cx
    · have c_6 := (zb1 _).mp c_6
      refine J_bipush cx (v := nI 97) dL_isWell_104 (by decide) ?_
      refine J_goto cx (tgt := 111) dL_isWell_106 (by decide) ?_
      refine J_icmp_ne cx (tgt := 118) dL_isWell_111 (by decide) (fun c_8 => ?_) (fun c_8 => ?_)
      · have c_8d := decide_eq_false c_8
        exact absurd ((by unfold knV; simp [c_5, c_6, c_8, c_8d])) c_8
      · have c_8d := decide_eq_true c_8
        refine J_iconst cx (v := nI 1) dL_isWell_114 (by decide) ?_
        refine J_goto cx (tgt := 119) dL_isWell_115 (by decide) ?_
        refine J_iand cx dL_isWell_119 ?_
        refine J_top (v' := .int (zb (true && true))) (congrArg Value.int (zb_and true true)) ?_
        refine J_istore cx (L' := [(5, .int (zb (true && true))), (4, .int (nI (10 + (14 * ci)))), (0, .ref b), (1, .ref an), (2, .int (nI ci)), (3, .int (nI on))]) dL_isWell_120 (by decide) rfl ?_
        refine J_L [0, 1, 2, 3, 4, 5] rfl ?_
        exact wl_b htr hv74 hb74 hd hN hc ho hcn cx
  · have c_5 := (zb1 _).mp c_5
    refine J_bipush cx (v := nI 114) dL_isWell_88 (by decide) ?_
    refine J_goto cx (tgt := 111) dL_isWell_90 (by decide) ?_
    refine J_icmp_ne cx (tgt := 118) dL_isWell_111 (by decide) (fun c_9 => ?_) (fun c_9 => ?_)
    · have c_9d := decide_eq_false c_9
      exact absurd ((by unfold knV; simp [c_5, c_9, c_9d])) c_9
    · have c_9d := decide_eq_true c_9
      refine J_iconst cx (v := nI 1) dL_isWell_114 (by decide) ?_
      refine J_goto cx (tgt := 119) dL_isWell_115 (by decide) ?_
      refine J_iand cx dL_isWell_119 ?_
      refine J_top (v' := .int (zb (true && true))) (congrArg Value.int (zb_and true true)) ?_
      refine J_istore cx (L' := [(5, .int (zb (true && true))), (4, .int (nI (10 + (14 * ci)))), (0, .ref b), (1, .ref an), (2, .int (nI ci)), (3, .int (nI on))]) dL_isWell_120 (by decide) rfl ?_
      refine J_L [0, 1, 2, 3, 4, 5] rfl ?_
      exact wl_b htr hv74 hb74 hd hN hc ho hcn cx
