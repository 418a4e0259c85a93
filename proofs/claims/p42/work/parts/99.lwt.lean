set_option maxHeartbeats 4000000 in
set_option maxRecDepth 100000 in
theorem tt_c {p : Program} {l : Launch} {e : Env} {s : State} {m : MethodId} {args : Array Value} {below : List Frame} {meth : Method} {c : Code} {D : va_G} {g : Nat → ClassId} {A : Nat → Prop} {an : Nat} {N : Nat → Int32} {κ : CS} {u : UT} {b : Nat}  (htr : l.stackTraces = false) (hv : INV κ u.2.1 u.2.2.1) (hb : u.1 0 0 = b) (hd : κ.2.2.1 2 + 999 < 2147483648) (hN : NT N κ) (h1n : 1 ≤ κ.2.2.1 0) (h7 : κ.2.2.1 3 ≤ 7) (hcs : cnt (sndB κ) (κ.2.2.1 0) ≤ κ.2.2.1 0) (hcw : cnt (wiB κ) (κ.2.2.1 0) ≤ κ.2.2.1 0) (hsu : sumN κ (κ.2.2.1 0) ≤ 7 * κ.2.2.1 0) (cx : CX p l s m args meth c yL_isTold.cls cL_isTold (some .boolean) 8 D g A) : J p l e ({ frames := 18, cells := 84, slots := 980, locals := 491 } : Room) s m args below meth c D A 8 (MQ below (va_Qi (RDP κ b (nI 1)) (fun u => PO D A (iA g an 700 N :: wT g κ u)) A) args s 84 980 A) 80 960 (iA g an 700 N :: wT g κ u) [(2, .int (nI (cnt (sndB κ) (κ.2.2.1 0)))), (3, .int (nI (sumN κ (κ.2.2.1 0)))), (4, .int (nI (cnt (wiB κ) (κ.2.2.1 0)))), (0, .ref b), (1, .ref an)] 89 [] := by
  have hI := hv.1.2.2.2.1
  have hn := hv.1.1.1
  refine J_aload_n cx dL_isTold_89 rfl 4 rfl ?_
  refine J_iconst cx (v := nI 3) dL_isTold_90 (by decide) ?_
  refine J_iald cx (j := 3) (f := N) 0 rfl rfl (by omega) (by decide) dL_isTold_91 ?_
  refine J_top (v' := .int (nI (κ.2.2.1 3))) (congrArg Value.int hN.n3) ?_
  refine J_if_ne cx (tgt := 99) dL_isTold_92 (by decide) (fun c_1 => ?_) (fun c_1 => ?_)
  · have c_1 := (nat_if_ne (by omega)).mp c_1
    have c_1d := decide_eq_false c_1
    have h31 : κ.2.2.1 3 ≠ 0 := by omega
    have hend : κ.2.2.2.1 (κ.2.2.1 3 - 1) < κ.2.2.1 0 := hI.2.2.2.2.2.2 _ (by omega)
    refine J_aload_n cx dL_isTold_99 rfl 4 rfl ?_
    refine J_sipush cx (v := nI 599) dL_isTold_100 (by decide) ?_
    refine J_aload_n cx dL_isTold_103 rfl 4 rfl ?_
    refine J_iconst cx (v := nI 3) dL_isTold_104 (by decide) ?_
    refine J_iald cx (j := 3) (f := N) 0 rfl rfl (by omega) (by decide) dL_isTold_105 ?_
    refine J_top (v' := .int (nI (κ.2.2.1 3))) (congrArg Value.int hN.n3) ?_
    refine J_iadd cx dL_isTold_106 ?_
    refine J_top (v' := .int (nI (599 + (κ.2.2.1 3)))) (congrArg Value.int (nI_add 599 (κ.2.2.1 3))) ?_
    refine J_iald cx (j := (600 + ((κ.2.2.1 3) - 1))) (f := N) 0 rfl (congrArg nI (by omega)) (by omega) (by decide) dL_isTold_107 ?_
    refine J_top (v' := .int (nI (κ.2.2.2.1 ((κ.2.2.1 3) - 1)))) (congrArg Value.int (hN.wk (by omega))) ?_
    refine J_istore cx (L' := [(5, .int (nI (κ.2.2.2.1 ((κ.2.2.1 3) - 1)))), (2, .int (nI (cnt (sndB κ) (κ.2.2.1 0)))), (3, .int (nI (sumN κ (κ.2.2.1 0)))), (4, .int (nI (cnt (wiB κ) (κ.2.2.1 0)))), (0, .ref b), (1, .ref an)]) dL_isTold_108 (by decide) rfl ?_
    refine J_aload_n cx dL_isTold_110 rfl 5 rfl ?_
    refine J_iconst cx (v := nI 3) dL_isTold_111 (by decide) ?_
    refine J_iald cx (j := 3) (f := N) 0 rfl rfl (by omega) (by decide) dL_isTold_112 ?_
    refine J_top (v' := .int (nI (κ.2.2.1 3))) (congrArg Value.int hN.n3) ?_
    refine J_if_le cx (tgt := 148) dL_isTold_113 (by decide) (fun c_2 => ?_) (fun c_2 => ?_)
    · have c_2 := (nat_if_le (by omega)).mp c_2
      exfalso; omega
    · have c_2 := (nat_if_le_f (by omega)).mp c_2
      refine J_aload_n cx dL_isTold_116 rfl 5 rfl ?_
      refine J_bipush cx (v := nI 23) dL_isTold_117 (by decide) ?_
      refine J_bipush cx (v := nI 14) dL_isTold_119 (by decide) ?_
      refine J_iload cx dL_isTold_121 0 rfl ?_
      refine J_imul cx dL_isTold_123 ?_
      refine J_top (v' := .int (nI (14 * (κ.2.2.2.1 ((κ.2.2.1 3) - 1))))) (congrArg Value.int (pk_mul 14 (κ.2.2.2.1 ((κ.2.2.1 3) - 1)))) ?_
      refine J_iadd cx dL_isTold_124 ?_
      refine J_top (v' := .int (nI (23 + (14 * (κ.2.2.2.1 ((κ.2.2.1 3) - 1)))))) (congrArg Value.int (nI_add 23 (14 * (κ.2.2.2.1 ((κ.2.2.1 3) - 1))))) ?_
      refine J_iald cx (j := (10 + 14 * (κ.2.2.2.1 ((κ.2.2.1 3) - 1)) + 13)) (f := N) 0 rfl (congrArg nI (by omega)) (by omega) (by decide) dL_isTold_125 ?_
      refine J_top (v' := .int (zb (κ.2.1 1 (κ.2.2.2.1 ((κ.2.2.1 3) - 1))))) (congrArg Value.int (hN.c13 (by omega))) ?_
      refine J_iconst cx (v := nI 1) dL_isTold_126 (by decide) ?_
      refine J_icmp_ne cx (tgt := 148) dL_isTold_127 (by decide) (fun c_3 => ?_) (fun c_3 => ?_)
      · have c_3 := (zb1n _).mp c_3
        refine J_iconst cx (v := nI 0) dL_isTold_148 (by decide) ?_
        refine J_top (v' := .int (zb (thrB κ))) (congrArg Value.int (by unfold thrB; simp [h31, c_1, c_1d, c_2, c_3]; try rfl)) ?_
        refine J_istore cx (L' := [(6, .int (zb (thrB κ))), (5, .int (nI (κ.2.2.2.1 ((κ.2.2.1 3) - 1)))), (2, .int (nI (cnt (sndB κ) (κ.2.2.1 0)))), (3, .int (nI (sumN κ (κ.2.2.1 0)))), (4, .int (nI (cnt (wiB κ) (κ.2.2.1 0)))), (0, .ref b), (1, .ref an)]) dL_isTold_149 (by decide) rfl ?_
        refine J_aload_n cx dL_isTold_151 rfl 5 rfl ?_
        refine J_callVi cx kL_226 (As := []) (frI (w := wT g κ u) (wr := [iA g an 700 N]) (W' := fun (u' : UT) => wT g κ u') (W2 := fun (u' : UT) => iA g an 700 N :: wT g κ u') (pm_1 _ _) (fun _ => (pm_1 _ _).symm) (rd_walked l D g _ κ u b  htr hv hb  )) ⟨rfl, rfl, by first | decide | (simp only [rmK]; omega), by first | decide | (simp only [rmK]; omega)⟩ ⟨by first | decide | (show _ ≤ _; dsimp only; omega), by first | decide | (show _ ≤ _; dsimp only; omega)⟩ rfl 1 (wT_at (g := g) hb) rfl rfl (Nat.le_of_ble_eq_true rfl) dL_isTold_152 ?_
        intro r152 u152 hu152; obtain ⟨hr152, hb152, hv152⟩ := hu152; subst hr152
        refine J_aload_n cx dL_isTold_155 rfl 6 rfl ?_
        refine J_iconst cx (v := nI 3) dL_isTold_156 (by decide) ?_
        refine J_iald cx (j := 3) (f := N) 0 rfl rfl (by omega) (by decide) dL_isTold_157 ?_
        refine J_top (v' := .int (nI (κ.2.2.1 3))) (congrArg Value.int hN.n3) ?_
        refine J_icmp_ne cx (tgt := 214) dL_isTold_158 (by decide) (fun h => absurd rfl h) (fun _ => ?_)
        refine J_aload_n cx dL_isTold_161 rfl 5 rfl ?_
        refine J_callVi cx kL_229 (As := []) (frI (w := wT g κ u152) (wr := [iA g an 700 N]) (W' := fun (u' : UT) => wT g κ u') (W2 := fun (u' : UT) => iA g an 700 N :: wT g κ u') (pm_1 _ _) (fun _ => (pm_1 _ _).symm) (rd_isThrough l D g _ κ u152 b  htr hv152 hb152  )) ⟨rfl, rfl, by first | decide | (simp only [rmK]; omega), by first | decide | (simp only [rmK]; omega)⟩ ⟨by first | decide | (show _ ≤ _; dsimp only; omega), by first | decide | (show _ ≤ _; dsimp only; omega)⟩ rfl 1 (wT_at (g := g) hb152) rfl rfl (Nat.le_of_ble_eq_true rfl) dL_isTold_162 ?_
        intro r162 u162 hu162; obtain ⟨hr162, hb162, hv162⟩ := hu162; subst hr162
        refine J_iload cx dL_isTold_165 0 rfl ?_
        refine J_icmp_ne cx (tgt := 214) dL_isTold_167 (by decide) (fun h => absurd rfl h) (fun _ => ?_)
        refine J_aload_n cx dL_isTold_170 rfl 5 rfl ?_
        refine J_callHi cx kL_233 (As := [.ref b]) (frI (w := wT g κ u162) (wr := [iA g an 700 N]) (W' := fun (u' : UT) => wT g κ u') (W2 := fun (u' : UT) => iA g an 700 N :: wT g κ u') (pm_1 _ _) (fun _ => (pm_1 _ _).symm) (rd_Lreached l D g _ κ u162 b  htr hv162 hb162 hd )) ⟨rfl, rfl, by first | decide | (simp only [rmK]; omega), by first | decide | (simp only [rmK]; omega)⟩ ⟨by first | decide | (show _ ≤ _; dsimp only; omega), by first | decide | (show _ ≤ _; dsimp only; omega)⟩ rfl rfl (Nat.le_of_ble_eq_true rfl) dL_isTold_171 ?_
        intro r171 u171 hu171; obtain ⟨hr171, hb171, hv171⟩ := hu171; subst hr171
        refine J_aload_n cx dL_isTold_174 rfl 6 rfl ?_
        refine J_iconst cx (v := nI 3) dL_isTold_175 (by decide) ?_
        refine J_iald cx (j := 3) (f := N) 0 rfl rfl (by omega) (by decide) dL_isTold_176 ?_
        refine J_top (v' := .int (nI (κ.2.2.1 3))) (congrArg Value.int hN.n3) ?_
        refine J_if_ne cx (tgt := 185) dL_isTold_177 (by decide) (fun c_6 => ?_) (fun c_6 => ?_)
        · have c_6 := (nat_if_ne (by omega)).mp c_6
          have c_6d := decide_eq_false c_6
          refine J_iload cx dL_isTold_185 1 rfl ?_
          refine J_top (v' := .int (reV κ)) (congrArg Value.int (by unfold reV; rw [if_neg h31])) ?_
          refine J_icmp_ne cx (tgt := 214) dL_isTold_187 (by decide) (fun h => absurd rfl h) (fun _ => ?_)
          refine J_aload_n cx dL_isTold_190 rfl 5 rfl ?_
          refine J_callVi cx kL_236 (As := []) (frI (w := wT g κ u171) (wr := [iA g an 700 N]) (W' := fun (u' : UT) => wT g κ u') (W2 := fun (u' : UT) => iA g an 700 N :: wT g κ u') (pm_1 _ _) (fun _ => (pm_1 _ _).symm) (rd_day l D g _ κ u171 b  htr hv171 hb171  )) ⟨rfl, rfl, by first | decide | (simp only [rmK]; omega), by first | decide | (simp only [rmK]; omega)⟩ ⟨by first | decide | (show _ ≤ _; dsimp only; omega), by first | decide | (show _ ≤ _; dsimp only; omega)⟩ rfl 1 (wT_at (g := g) hb171) rfl rfl (Nat.le_of_ble_eq_true rfl) dL_isTold_191 ?_
          intro r191 u191 hu191; obtain ⟨hr191, hb191, hv191⟩ := hu191; subst hr191
          refine J_aload_n cx dL_isTold_194 rfl 6 rfl ?_
          refine J_iconst cx (v := nI 2) dL_isTold_195 (by decide) ?_
          refine J_iald cx (j := 2) (f := N) 0 rfl rfl (by omega) (by decide) dL_isTold_196 ?_
          refine J_top (v' := .int (nI (κ.2.2.1 2))) (congrArg Value.int hN.n2) ?_
          refine J_icmp_ne cx (tgt := 214) dL_isTold_197 (by decide) (fun h => absurd rfl h) (fun _ => ?_)
          refine J_aload_n cx dL_isTold_200 rfl 5 rfl ?_
          refine J_callVi cx kL_239 (As := []) (frI (w := wT g κ u191) (wr := [iA g an 700 N]) (W' := fun (u' : UT) => wT g κ u') (W2 := fun (u' : UT) => iA g an 700 N :: wT g κ u') (pm_1 _ _) (fun _ => (pm_1 _ _).symm) (rd_certificates l D g _ κ u191 b  htr hv191 hb191  )) ⟨rfl, rfl, by first | decide | (simp only [rmK]; omega), by first | decide | (simp only [rmK]; omega)⟩ ⟨by first | decide | (show _ ≤ _; dsimp only; omega), by first | decide | (show _ ≤ _; dsimp only; omega)⟩ rfl 1 (wT_at (g := g) hb191) rfl rfl (Nat.le_of_ble_eq_true rfl) dL_isTold_201 ?_
          intro r201 u201 hu201; obtain ⟨hr201, hb201, hv201⟩ := hu201; subst hr201
          refine J_aload_n cx dL_isTold_204 rfl 6 rfl ?_
          refine J_iconst cx (v := nI 0) dL_isTold_205 (by decide) ?_
          refine J_iald cx (j := 0) (f := N) 0 rfl rfl (by omega) (by decide) dL_isTold_206 ?_
          refine J_top (v' := .int (nI (κ.2.2.1 0))) (congrArg Value.int hN.n0) ?_
          refine J_icmp_ne cx (tgt := 214) dL_isTold_207 (by decide) (fun h => absurd rfl h) (fun _ => ?_)
          refine J_iconst cx (v := nI 1) dL_isTold_210 (by decide) ?_
          refine J_goto cx (tgt := 215) dL_isTold_211 (by decide) ?_
          refine J_istore cx (L' := [(7, .int (nI 1)), (6, .int (zb (thrB κ))), (5, .int (nI (κ.2.2.2.1 ((κ.2.2.1 3) - 1)))), (2, .int (nI (cnt (sndB κ) (κ.2.2.1 0)))), (3, .int (nI (sumN κ (κ.2.2.1 0)))), (4, .int (nI (cnt (wiB κ) (κ.2.2.1 0)))), (0, .ref b), (1, .ref an)]) dL_isTold_215 (by decide) rfl ?_
          refine J_iload cx dL_isTold_217 0 rfl ?_
          refine J_if_eq cx (tgt := 266) dL_isTold_219 (by decide) (fun h => absurd h (by decide)) (fun _ => ?_)
          refine J_aload_n cx dL_isTold_222 rfl 6 rfl ?_
          refine J_callHf cx kL_242 (As := [.ref b]) (frF (w := wT g κ u201) (wr := [iA g an 700 N]) (W' := fun (u' : UT) => wT g κ u') (W2 := fun (u' : UT) => iA g an 700 N :: wT g κ u') (pm_1 _ _) (fun _ => (pm_1 _ _).symm) (rd_LsoundShare l D g _ κ u201 b htr hv201 hb201 hd h1n)) ⟨rfl, rfl, by first | decide | (simp only [rmK]; omega), by first | decide | (simp only [rmK]; omega)⟩ ⟨by first | decide | (show _ ≤ _; dsimp only; omega), by first | decide | (show _ ≤ _; dsimp only; omega)⟩ rfl rfl (Nat.le_of_ble_eq_true rfl) dL_isTold_223 ?_
          intro r223 u223 hu223; obtain ⟨hr223, hb223, hv223⟩ := hu223; subst hr223
          refine J_iload_n cx dL_isTold_226 rfl 3 rfl ?_
          refine J_i2f cx dL_isTold_227 ?_
          refine J_aload_n cx dL_isTold_228 rfl 7 rfl ?_
          refine J_iconst cx (v := nI 0) dL_isTold_229 (by decide) ?_
          refine J_iald cx (j := 0) (f := N) 0 rfl rfl (by omega) (by decide) dL_isTold_230 ?_
          refine J_top (v' := .int (nI (κ.2.2.1 0))) (congrArg Value.int hN.n0) ?_
          refine J_i2f cx dL_isTold_231 ?_
          refine J_fdiv cx dL_isTold_232 (by exact fdiv_ok _ (by omega) _ (by omega) (by omega)) ?_
          refine J_top (v' := .float (soV κ)) rfl ?_
          refine J_fcmp cx dL_isTold_233 ?_
          refine J_top (v' := .int (nI 0)) (congrArg Value.int (cmp_so h1n hn)) ?_
          refine J_if_ne cx (tgt := 266) dL_isTold_234 (by decide) (fun h => absurd h (by decide)) (fun _ => ?_)
          refine J_aload_n cx dL_isTold_237 rfl 6 rfl ?_
          refine J_callHd cx kL_245 (As := [.ref b]) (frD (w := wT g κ u223) (wr := [iA g an 700 N]) (W' := fun (u' : UT) => wT g κ u') (W2 := fun (u' : UT) => iA g an 700 N :: wT g κ u') (pm_1 _ _) (fun _ => (pm_1 _ _).symm) (rd_LmeanChain l D g _ κ u223 b htr hv223 hb223 hd)) ⟨rfl, rfl, by first | decide | (simp only [rmK]; omega), by first | decide | (simp only [rmK]; omega)⟩ ⟨by first | decide | (show _ ≤ _; dsimp only; omega), by first | decide | (show _ ≤ _; dsimp only; omega)⟩ rfl rfl (Nat.le_of_ble_eq_true rfl) dL_isTold_238 ?_
          intro r238 u238 hu238; obtain ⟨hr238, hb238, hv238⟩ := hu238; subst hr238
          refine J_iload cx dL_isTold_241 5 rfl ?_
          refine J_if_ne cx (tgt := 252) dL_isTold_243 (by decide) (fun c_12 => ?_) (fun c_12 => ?_)
          · have c_12 := (nat_if_ne (by omega)).mp c_12
            have c_12d := decide_eq_false c_12
            refine J_iload_n cx dL_isTold_252 rfl 4 rfl ?_
            refine J_i2d cx dL_isTold_253 ?_
            refine J_iload cx dL_isTold_254 5 rfl ?_
            refine J_i2d cx dL_isTold_256 ?_
            refine J_ddiv cx dL_isTold_257 (by exact ddiv_ok _ (by omega) _ (by omega) (by omega)) ?_
            refine J_top (v' := .double (meV κ)) (congrArg Value.double (by unfold meV; rw [if_neg c_12])) ?_
            refine J_dcmp cx dL_isTold_258 ?_
            refine J_top (v' := .int (nI 0)) (congrArg Value.int (cmp_me hI)) ?_
            refine J_if_ne cx (tgt := 266) dL_isTold_259 (by decide) (fun h => absurd h (by decide)) (fun _ => ?_)
            refine J_iconst cx (v := nI 1) dL_isTold_262 (by decide) ?_
            refine J_goto cx (tgt := 267) dL_isTold_263 (by decide) ?_
            exact J_endR cx rfl rfl rfl hb238 hv238 (by first | (exact Nat.le_of_ble_eq_true rfl) | omega) (by first | (exact Nat.le_of_ble_eq_true rfl) | omega) dL_isTold_267
          · have c_12 := (nat_if_ne_f (by omega)).mp c_12
            have c_12d := decide_eq_true c_12
            refine J_ldc2d cx (v := 13919350198670196736) dL_isTold_246 cL_17 ?_
            refine J_goto cx (tgt := 258) dL_isTold_249 (by decide) ?_
            refine J_top (v' := .double (meV κ)) (congrArg Value.double (by unfold meV; rw [if_pos c_12])) ?_
            refine J_dcmp cx dL_isTold_258 ?_
            refine J_top (v' := .int (nI 0)) (congrArg Value.int (cmp_me hI)) ?_
            refine J_if_ne cx (tgt := 266) dL_isTold_259 (by decide) (fun h => absurd h (by decide)) (fun _ => ?_)
            refine J_iconst cx (v := nI 1) dL_isTold_262 (by decide) ?_
            refine J_goto cx (tgt := 267) dL_isTold_263 (by decide) ?_
            exact J_endR cx rfl rfl rfl hb238 hv238 (by first | (exact Nat.le_of_ble_eq_true rfl) | omega) (by first | (exact Nat.le_of_ble_eq_true rfl) | omega) dL_isTold_267
        · have c_6 := (nat_if_ne_f (by omega)).mp c_6
          have c_6d := decide_eq_true c_6
          exfalso; omega
      · have c_3 := (zb1 _).mp c_3
        refine J_aload_n cx dL_isTold_130 rfl 5 rfl ?_
        refine J_bipush cx (v := nI 22) dL_isTold_131 (by decide) ?_
        refine J_bipush cx (v := nI 14) dL_isTold_133 (by decide) ?_
        refine J_iload cx dL_isTold_135 0 rfl ?_
        refine J_imul cx dL_isTold_137 ?_
        refine J_top (v' := .int (nI (14 * (κ.2.2.2.1 ((κ.2.2.1 3) - 1))))) (congrArg Value.int (pk_mul 14 (κ.2.2.2.1 ((κ.2.2.1 3) - 1)))) ?_
        refine J_iadd cx dL_isTold_138 ?_
        refine J_top (v' := .int (nI (22 + (14 * (κ.2.2.2.1 ((κ.2.2.1 3) - 1)))))) (congrArg Value.int (nI_add 22 (14 * (κ.2.2.2.1 ((κ.2.2.1 3) - 1))))) ?_
        refine J_iald cx (j := (10 + 14 * (κ.2.2.2.1 ((κ.2.2.1 3) - 1)) + 12)) (f := N) 0 rfl (congrArg nI (by omega)) (by omega) (by decide) dL_isTold_139 ?_
        refine J_top (v' := .int (zb (κ.2.1 2 (κ.2.2.2.1 ((κ.2.2.1 3) - 1))))) (congrArg Value.int (hN.c12 (by omega))) ?_
        refine J_iconst cx (v := nI 1) dL_isTold_140 (by decide) ?_
        refine J_icmp_ne cx (tgt := 148) dL_isTold_141 (by decide) (fun c_15 => ?_) (fun c_15 => ?_)
        · have c_15 := (zb1n _).mp c_15
          refine J_iconst cx (v := nI 0) dL_isTold_148 (by decide) ?_
          refine J_top (v' := .int (zb (thrB κ))) (congrArg Value.int (by unfold thrB; simp [h31, c_1, c_1d, c_2, c_3, c_15]; try rfl)) ?_
          refine J_istore cx (L' := [(6, .int (zb (thrB κ))), (5, .int (nI (κ.2.2.2.1 ((κ.2.2.1 3) - 1)))), (2, .int (nI (cnt (sndB κ) (κ.2.2.1 0)))), (3, .int (nI (sumN κ (κ.2.2.1 0)))), (4, .int (nI (cnt (wiB κ) (κ.2.2.1 0)))), (0, .ref b), (1, .ref an)]) dL_isTold_149 (by decide) rfl ?_
          refine J_aload_n cx dL_isTold_151 rfl 5 rfl ?_
          refine J_callVi cx kL_226 (As := []) (frI (w := wT g κ u) (wr := [iA g an 700 N]) (W' := fun (u' : UT) => wT g κ u') (W2 := fun (u' : UT) => iA g an 700 N :: wT g κ u') (pm_1 _ _) (fun _ => (pm_1 _ _).symm) (rd_walked l D g _ κ u b  htr hv hb  )) ⟨rfl, rfl, by first | decide | (simp only [rmK]; omega), by first | decide | (simp only [rmK]; omega)⟩ ⟨by first | decide | (show _ ≤ _; dsimp only; omega), by first | decide | (show _ ≤ _; dsimp only; omega)⟩ rfl 1 (wT_at (g := g) hb) rfl rfl (Nat.le_of_ble_eq_true rfl) dL_isTold_152 ?_
          intro r152 u152 hu152; obtain ⟨hr152, hb152, hv152⟩ := hu152; subst hr152
          refine J_aload_n cx dL_isTold_155 rfl 6 rfl ?_
          refine J_iconst cx (v := nI 3) dL_isTold_156 (by decide) ?_
          refine J_iald cx (j := 3) (f := N) 0 rfl rfl (by omega) (by decide) dL_isTold_157 ?_
          refine J_top (v' := .int (nI (κ.2.2.1 3))) (congrArg Value.int hN.n3) ?_
          refine J_icmp_ne cx (tgt := 214) dL_isTold_158 (by decide) (fun h => absurd rfl h) (fun _ => ?_)
          refine J_aload_n cx dL_isTold_161 rfl 5 rfl ?_
          refine J_callVi cx kL_229 (As := []) (frI (w := wT g κ u152) (wr := [iA g an 700 N]) (W' := fun (u' : UT) => wT g κ u') (W2 := fun (u' : UT) => iA g an 700 N :: wT g κ u') (pm_1 _ _) (fun _ => (pm_1 _ _).symm) (rd_isThrough l D g _ κ u152 b  htr hv152 hb152  )) ⟨rfl, rfl, by first | decide | (simp only [rmK]; omega), by first | decide | (simp only [rmK]; omega)⟩ ⟨by first | decide | (show _ ≤ _; dsimp only; omega), by first | decide | (show _ ≤ _; dsimp only; omega)⟩ rfl 1 (wT_at (g := g) hb152) rfl rfl (Nat.le_of_ble_eq_true rfl) dL_isTold_162 ?_
          intro r162 u162 hu162; obtain ⟨hr162, hb162, hv162⟩ := hu162; subst hr162
          refine J_iload cx dL_isTold_165 0 rfl ?_
          refine J_icmp_ne cx (tgt := 214) dL_isTold_167 (by decide) (fun h => absurd rfl h) (fun _ => ?_)
          refine J_aload_n cx dL_isTold_170 rfl 5 rfl ?_
          refine J_callHi cx kL_233 (As := [.ref b]) (frI (w := wT g κ u162) (wr := [iA g an 700 N]) (W' := fun (u' : UT) => wT g κ u') (W2 := fun (u' : UT) => iA g an 700 N :: wT g κ u') (pm_1 _ _) (fun _ => (pm_1 _ _).symm) (rd_Lreached l D g _ κ u162 b  htr hv162 hb162 hd )) ⟨rfl, rfl, by first | decide | (simp only [rmK]; omega), by first | decide | (simp only [rmK]; omega)⟩ ⟨by first | decide | (show _ ≤ _; dsimp only; omega), by first | decide | (show _ ≤ _; dsimp only; omega)⟩ rfl rfl (Nat.le_of_ble_eq_true rfl) dL_isTold_171 ?_
          intro r171 u171 hu171; obtain ⟨hr171, hb171, hv171⟩ := hu171; subst hr171
          refine J_aload_n cx dL_isTold_174 rfl 6 rfl ?_
          refine J_iconst cx (v := nI 3) dL_isTold_175 (by decide) ?_
          refine J_iald cx (j := 3) (f := N) 0 rfl rfl (by omega) (by decide) dL_isTold_176 ?_
          refine J_top (v' := .int (nI (κ.2.2.1 3))) (congrArg Value.int hN.n3) ?_
          refine J_if_ne cx (tgt := 185) dL_isTold_177 (by decide) (fun c_18 => ?_) (fun c_18 => ?_)
          · have c_18 := (nat_if_ne (by omega)).mp c_18
            have c_18d := decide_eq_false c_18
            refine J_iload cx dL_isTold_185 1 rfl ?_
            refine J_top (v' := .int (reV κ)) (congrArg Value.int (by unfold reV; rw [if_neg h31])) ?_
            refine J_icmp_ne cx (tgt := 214) dL_isTold_187 (by decide) (fun h => absurd rfl h) (fun _ => ?_)
            refine J_aload_n cx dL_isTold_190 rfl 5 rfl ?_
            refine J_callVi cx kL_236 (As := []) (frI (w := wT g κ u171) (wr := [iA g an 700 N]) (W' := fun (u' : UT) => wT g κ u') (W2 := fun (u' : UT) => iA g an 700 N :: wT g κ u') (pm_1 _ _) (fun _ => (pm_1 _ _).symm) (rd_day l D g _ κ u171 b  htr hv171 hb171  )) ⟨rfl, rfl, by first | decide | (simp only [rmK]; omega), by first | decide | (simp only [rmK]; omega)⟩ ⟨by first | decide | (show _ ≤ _; dsimp only; omega), by first | decide | (show _ ≤ _; dsimp only; omega)⟩ rfl 1 (wT_at (g := g) hb171) rfl rfl (Nat.le_of_ble_eq_true rfl) dL_isTold_191 ?_
            intro r191 u191 hu191; obtain ⟨hr191, hb191, hv191⟩ := hu191; subst hr191
            refine J_aload_n cx dL_isTold_194 rfl 6 rfl ?_
            refine J_iconst cx (v := nI 2) dL_isTold_195 (by decide) ?_
            refine J_iald cx (j := 2) (f := N) 0 rfl rfl (by omega) (by decide) dL_isTold_196 ?_
            refine J_top (v' := .int (nI (κ.2.2.1 2))) (congrArg Value.int hN.n2) ?_
            refine J_icmp_ne cx (tgt := 214) dL_isTold_197 (by decide) (fun h => absurd rfl h) (fun _ => ?_)
            refine J_aload_n cx dL_isTold_200 rfl 5 rfl ?_
            refine J_callVi cx kL_239 (As := []) (frI (w := wT g κ u191) (wr := [iA g an 700 N]) (W' := fun (u' : UT) => wT g κ u') (W2 := fun (u' : UT) => iA g an 700 N :: wT g κ u') (pm_1 _ _) (fun _ => (pm_1 _ _).symm) (rd_certificates l D g _ κ u191 b  htr hv191 hb191  )) ⟨rfl, rfl, by first | decide | (simp only [rmK]; omega), by first | decide | (simp only [rmK]; omega)⟩ ⟨by first | decide | (show _ ≤ _; dsimp only; omega), by first | decide | (show _ ≤ _; dsimp only; omega)⟩ rfl 1 (wT_at (g := g) hb191) rfl rfl (Nat.le_of_ble_eq_true rfl) dL_isTold_201 ?_
            intro r201 u201 hu201; obtain ⟨hr201, hb201, hv201⟩ := hu201; subst hr201
            refine J_aload_n cx dL_isTold_204 rfl 6 rfl ?_
            refine J_iconst cx (v := nI 0) dL_isTold_205 (by decide) ?_
            refine J_iald cx (j := 0) (f := N) 0 rfl rfl (by omega) (by decide) dL_isTold_206 ?_
            refine J_top (v' := .int (nI (κ.2.2.1 0))) (congrArg Value.int hN.n0) ?_
            refine J_icmp_ne cx (tgt := 214) dL_isTold_207 (by decide) (fun h => absurd rfl h) (fun _ => ?_)
            refine J_iconst cx (v := nI 1) dL_isTold_210 (by decide) ?_
            refine J_goto cx (tgt := 215) dL_isTold_211 (by decide) ?_
            refine J_istore cx (L' := [(7, .int (nI 1)), (6, .int (zb (thrB κ))), (5, .int (nI (κ.2.2.2.1 ((κ.2.2.1 3) - 1)))), (2, .int (nI (cnt (sndB κ) (κ.2.2.1 0)))), (3, .int (nI (sumN κ (κ.2.2.1 0)))), (4, .int (nI (cnt (wiB κ) (κ.2.2.1 0)))), (0, .ref b), (1, .ref an)]) dL_isTold_215 (by decide) rfl ?_
            refine J_iload cx dL_isTold_217 0 rfl ?_
            refine J_if_eq cx (tgt := 266) dL_isTold_219 (by decide) (fun h => absurd h (by decide)) (fun _ => ?_)
            refine J_aload_n cx dL_isTold_222 rfl 6 rfl ?_
            refine J_callHf cx kL_242 (As := [.ref b]) (frF (w := wT g κ u201) (wr := [iA g an 700 N]) (W' := fun (u' : UT) => wT g κ u') (W2 := fun (u' : UT) => iA g an 700 N :: wT g κ u') (pm_1 _ _) (fun _ => (pm_1 _ _).symm) (rd_LsoundShare l D g _ κ u201 b htr hv201 hb201 hd h1n)) ⟨rfl, rfl, by first | decide | (simp only [rmK]; omega), by first | decide | (simp only [rmK]; omega)⟩ ⟨by first | decide | (show _ ≤ _; dsimp only; omega), by first | decide | (show _ ≤ _; dsimp only; omega)⟩ rfl rfl (Nat.le_of_ble_eq_true rfl) dL_isTold_223 ?_
            intro r223 u223 hu223; obtain ⟨hr223, hb223, hv223⟩ := hu223; subst hr223
            refine J_iload_n cx dL_isTold_226 rfl 3 rfl ?_
            refine J_i2f cx dL_isTold_227 ?_
            refine J_aload_n cx dL_isTold_228 rfl 7 rfl ?_
            refine J_iconst cx (v := nI 0) dL_isTold_229 (by decide) ?_
            refine J_iald cx (j := 0) (f := N) 0 rfl rfl (by omega) (by decide) dL_isTold_230 ?_
            refine J_top (v' := .int (nI (κ.2.2.1 0))) (congrArg Value.int hN.n0) ?_
            refine J_i2f cx dL_isTold_231 ?_
            refine J_fdiv cx dL_isTold_232 (by exact fdiv_ok _ (by omega) _ (by omega) (by omega)) ?_
            refine J_top (v' := .float (soV κ)) rfl ?_
            refine J_fcmp cx dL_isTold_233 ?_
            refine J_top (v' := .int (nI 0)) (congrArg Value.int (cmp_so h1n hn)) ?_
            refine J_if_ne cx (tgt := 266) dL_isTold_234 (by decide) (fun h => absurd h (by decide)) (fun _ => ?_)
            refine J_aload_n cx dL_isTold_237 rfl 6 rfl ?_
            refine J_callHd cx kL_245 (As := [.ref b]) (frD (w := wT g κ u223) (wr := [iA g an 700 N]) (W' := fun (u' : UT) => wT g κ u') (W2 := fun (u' : UT) => iA g an 700 N :: wT g κ u') (pm_1 _ _) (fun _ => (pm_1 _ _).symm) (rd_LmeanChain l D g _ κ u223 b htr hv223 hb223 hd)) ⟨rfl, rfl, by first | decide | (simp only [rmK]; omega), by first | decide | (simp only [rmK]; omega)⟩ ⟨by first | decide | (show _ ≤ _; dsimp only; omega), by first | decide | (show _ ≤ _; dsimp only; omega)⟩ rfl rfl (Nat.le_of_ble_eq_true rfl) dL_isTold_238 ?_
            intro r238 u238 hu238; obtain ⟨hr238, hb238, hv238⟩ := hu238; subst hr238
            refine J_iload cx dL_isTold_241 5 rfl ?_
            refine J_if_ne cx (tgt := 252) dL_isTold_243 (by decide) (fun c_24 => ?_) (fun c_24 => ?_)
            · have c_24 := (nat_if_ne (by omega)).mp c_24
              have c_24d := decide_eq_false c_24
              refine J_iload_n cx dL_isTold_252 rfl 4 rfl ?_
              refine J_i2d cx dL_isTold_253 ?_
              refine J_iload cx dL_isTold_254 5 rfl ?_
              refine J_i2d cx dL_isTold_256 ?_
              refine J_ddiv cx dL_isTold_257 (by exact ddiv_ok _ (by omega) _ (by omega) (by omega)) ?_
              refine J_top (v' := .double (meV κ)) (congrArg Value.double (by unfold meV; rw [if_neg c_24])) ?_
              refine J_dcmp cx dL_isTold_258 ?_
              refine J_top (v' := .int (nI 0)) (congrArg Value.int (cmp_me hI)) ?_
              refine J_if_ne cx (tgt := 266) dL_isTold_259 (by decide) (fun h => absurd h (by decide)) (fun _ => ?_)
              refine J_iconst cx (v := nI 1) dL_isTold_262 (by decide) ?_
              refine J_goto cx (tgt := 267) dL_isTold_263 (by decide) ?_
              exact J_endR cx rfl rfl rfl hb238 hv238 (by first | (exact Nat.le_of_ble_eq_true rfl) | omega) (by first | (exact Nat.le_of_ble_eq_true rfl) | omega) dL_isTold_267
            · have c_24 := (nat_if_ne_f (by omega)).mp c_24
              have c_24d := decide_eq_true c_24
              refine J_ldc2d cx (v := 13919350198670196736) dL_isTold_246 cL_17 ?_
              refine J_goto cx (tgt := 258) dL_isTold_249 (by decide) ?_
              refine J_top (v' := .double (meV κ)) (congrArg Value.double (by unfold meV; rw [if_pos c_24])) ?_
              refine J_dcmp cx dL_isTold_258 ?_
              refine J_top (v' := .int (nI 0)) (congrArg Value.int (cmp_me hI)) ?_
              refine J_if_ne cx (tgt := 266) dL_isTold_259 (by decide) (fun h => absurd h (by decide)) (fun _ => ?_)
              refine J_iconst cx (v := nI 1) dL_isTold_262 (by decide) ?_
              refine J_goto cx (tgt := 267) dL_isTold_263 (by decide) ?_
              exact J_endR cx rfl rfl rfl hb238 hv238 (by first | (exact Nat.le_of_ble_eq_true rfl) | omega) (by first | (exact Nat.le_of_ble_eq_true rfl) | omega) dL_isTold_267
          · have c_18 := (nat_if_ne_f (by omega)).mp c_18
            have c_18d := decide_eq_true c_18
            exfalso; omega
        · have c_15 := (zb1 _).mp c_15
          refine J_iconst cx (v := nI 1) dL_isTold_144 (by decide) ?_
          refine J_goto cx (tgt := 149) dL_isTold_145 (by decide) ?_
          refine J_top (v' := .int (zb (thrB κ))) (congrArg Value.int (by unfold thrB; simp [h31, c_1, c_1d, c_2, c_3, c_15]; try rfl)) ?_
          refine J_istore cx (L' := [(6, .int (zb (thrB κ))), (5, .int (nI (κ.2.2.2.1 ((κ.2.2.1 3) - 1)))), (2, .int (nI (cnt (sndB κ) (κ.2.2.1 0)))), (3, .int (nI (sumN κ (κ.2.2.1 0)))), (4, .int (nI (cnt (wiB κ) (κ.2.2.1 0)))), (0, .ref b), (1, .ref an)]) dL_isTold_149 (by decide) rfl ?_
          refine J_aload_n cx dL_isTold_151 rfl 5 rfl ?_
          refine J_callVi cx kL_226 (As := []) (frI (w := wT g κ u) (wr := [iA g an 700 N]) (W' := fun (u' : UT) => wT g κ u') (W2 := fun (u' : UT) => iA g an 700 N :: wT g κ u') (pm_1 _ _) (fun _ => (pm_1 _ _).symm) (rd_walked l D g _ κ u b  htr hv hb  )) ⟨rfl, rfl, by first | decide | (simp only [rmK]; omega), by first | decide | (simp only [rmK]; omega)⟩ ⟨by first | decide | (show _ ≤ _; dsimp only; omega), by first | decide | (show _ ≤ _; dsimp only; omega)⟩ rfl 1 (wT_at (g := g) hb) rfl rfl (Nat.le_of_ble_eq_true rfl) dL_isTold_152 ?_
          intro r152 u152 hu152; obtain ⟨hr152, hb152, hv152⟩ := hu152; subst hr152
          refine J_aload_n cx dL_isTold_155 rfl 6 rfl ?_
          refine J_iconst cx (v := nI 3) dL_isTold_156 (by decide) ?_
          refine J_iald cx (j := 3) (f := N) 0 rfl rfl (by omega) (by decide) dL_isTold_157 ?_
          refine J_top (v' := .int (nI (κ.2.2.1 3))) (congrArg Value.int hN.n3) ?_
          refine J_icmp_ne cx (tgt := 214) dL_isTold_158 (by decide) (fun h => absurd rfl h) (fun _ => ?_)
          refine J_aload_n cx dL_isTold_161 rfl 5 rfl ?_
          refine J_callVi cx kL_229 (As := []) (frI (w := wT g κ u152) (wr := [iA g an 700 N]) (W' := fun (u' : UT) => wT g κ u') (W2 := fun (u' : UT) => iA g an 700 N :: wT g κ u') (pm_1 _ _) (fun _ => (pm_1 _ _).symm) (rd_isThrough l D g _ κ u152 b  htr hv152 hb152  )) ⟨rfl, rfl, by first | decide | (simp only [rmK]; omega), by first | decide | (simp only [rmK]; omega)⟩ ⟨by first | decide | (show _ ≤ _; dsimp only; omega), by first | decide | (show _ ≤ _; dsimp only; omega)⟩ rfl 1 (wT_at (g := g) hb152) rfl rfl (Nat.le_of_ble_eq_true rfl) dL_isTold_162 ?_
          intro r162 u162 hu162; obtain ⟨hr162, hb162, hv162⟩ := hu162; subst hr162
          refine J_iload cx dL_isTold_165 0 rfl ?_
          refine J_icmp_ne cx (tgt := 214) dL_isTold_167 (by decide) (fun h => absurd rfl h) (fun _ => ?_)
          refine J_aload_n cx dL_isTold_170 rfl 5 rfl ?_
          refine J_callHi cx kL_233 (As := [.ref b]) (frI (w := wT g κ u162) (wr := [iA g an 700 N]) (W' := fun (u' : UT) => wT g κ u') (W2 := fun (u' : UT) => iA g an 700 N :: wT g κ u') (pm_1 _ _) (fun _ => (pm_1 _ _).symm) (rd_Lreached l D g _ κ u162 b  htr hv162 hb162 hd )) ⟨rfl, rfl, by first | decide | (simp only [rmK]; omega), by first | decide | (simp only [rmK]; omega)⟩ ⟨by first | decide | (show _ ≤ _; dsimp only; omega), by first | decide | (show _ ≤ _; dsimp only; omega)⟩ rfl rfl (Nat.le_of_ble_eq_true rfl) dL_isTold_171 ?_
          intro r171 u171 hu171; obtain ⟨hr171, hb171, hv171⟩ := hu171; subst hr171
          refine J_aload_n cx dL_isTold_174 rfl 6 rfl ?_
          refine J_iconst cx (v := nI 3) dL_isTold_175 (by decide) ?_
          refine J_iald cx (j := 3) (f := N) 0 rfl rfl (by omega) (by decide) dL_isTold_176 ?_
          refine J_top (v' := .int (nI (κ.2.2.1 3))) (congrArg Value.int hN.n3) ?_
          refine J_if_ne cx (tgt := 185) dL_isTold_177 (by decide) (fun c_29 => ?_) (fun c_29 => ?_)
          · have c_29 := (nat_if_ne (by omega)).mp c_29
            have c_29d := decide_eq_false c_29
            refine J_iload cx dL_isTold_185 1 rfl ?_
            refine J_top (v' := .int (reV κ)) (congrArg Value.int (by unfold reV; rw [if_neg h31])) ?_
            refine J_icmp_ne cx (tgt := 214) dL_isTold_187 (by decide) (fun h => absurd rfl h) (fun _ => ?_)
            refine J_aload_n cx dL_isTold_190 rfl 5 rfl ?_
            refine J_callVi cx kL_236 (As := []) (frI (w := wT g κ u171) (wr := [iA g an 700 N]) (W' := fun (u' : UT) => wT g κ u') (W2 := fun (u' : UT) => iA g an 700 N :: wT g κ u') (pm_1 _ _) (fun _ => (pm_1 _ _).symm) (rd_day l D g _ κ u171 b  htr hv171 hb171  )) ⟨rfl, rfl, by first | decide | (simp only [rmK]; omega), by first | decide | (simp only [rmK]; omega)⟩ ⟨by first | decide | (show _ ≤ _; dsimp only; omega), by first | decide | (show _ ≤ _; dsimp only; omega)⟩ rfl 1 (wT_at (g := g) hb171) rfl rfl (Nat.le_of_ble_eq_true rfl) dL_isTold_191 ?_
            intro r191 u191 hu191; obtain ⟨hr191, hb191, hv191⟩ := hu191; subst hr191
            refine J_aload_n cx dL_isTold_194 rfl 6 rfl ?_
            refine J_iconst cx (v := nI 2) dL_isTold_195 (by decide) ?_
            refine J_iald cx (j := 2) (f := N) 0 rfl rfl (by omega) (by decide) dL_isTold_196 ?_
            refine J_top (v' := .int (nI (κ.2.2.1 2))) (congrArg Value.int hN.n2) ?_
            refine J_icmp_ne cx (tgt := 214) dL_isTold_197 (by decide) (fun h => absurd rfl h) (fun _ => ?_)
            refine J_aload_n cx dL_isTold_200 rfl 5 rfl ?_
            refine J_callVi cx kL_239 (As := []) (frI (w := wT g κ u191) (wr := [iA g an 700 N]) (W' := fun (u' : UT) => wT g κ u') (W2 := fun (u' : UT) => iA g an 700 N :: wT g κ u') (pm_1 _ _) (fun _ => (pm_1 _ _).symm) (rd_certificates l D g _ κ u191 b  htr hv191 hb191  )) ⟨rfl, rfl, by first | decide | (simp only [rmK]; omega), by first | decide | (simp only [rmK]; omega)⟩ ⟨by first | decide | (show _ ≤ _; dsimp only; omega), by first | decide | (show _ ≤ _; dsimp only; omega)⟩ rfl 1 (wT_at (g := g) hb191) rfl rfl (Nat.le_of_ble_eq_true rfl) dL_isTold_201 ?_
            intro r201 u201 hu201; obtain ⟨hr201, hb201, hv201⟩ := hu201; subst hr201
            refine J_aload_n cx dL_isTold_204 rfl 6 rfl ?_
            refine J_iconst cx (v := nI 0) dL_isTold_205 (by decide) ?_
            refine J_iald cx (j := 0) (f := N) 0 rfl rfl (by omega) (by decide) dL_isTold_206 ?_
            refine J_top (v' := .int (nI (κ.2.2.1 0))) (congrArg Value.int hN.n0) ?_
            refine J_icmp_ne cx (tgt := 214) dL_isTold_207 (by decide) (fun h => absurd rfl h) (fun _ => ?_)
            refine J_iconst cx (v := nI 1) dL_isTold_210 (by decide) ?_
            refine J_goto cx (tgt := 215) dL_isTold_211 (by decide) ?_
            refine J_istore cx (L' := [(7, .int (nI 1)), (6, .int (zb (thrB κ))), (5, .int (nI (κ.2.2.2.1 ((κ.2.2.1 3) - 1)))), (2, .int (nI (cnt (sndB κ) (κ.2.2.1 0)))), (3, .int (nI (sumN κ (κ.2.2.1 0)))), (4, .int (nI (cnt (wiB κ) (κ.2.2.1 0)))), (0, .ref b), (1, .ref an)]) dL_isTold_215 (by decide) rfl ?_
            refine J_iload cx dL_isTold_217 0 rfl ?_
            refine J_if_eq cx (tgt := 266) dL_isTold_219 (by decide) (fun h => absurd h (by decide)) (fun _ => ?_)
            refine J_aload_n cx dL_isTold_222 rfl 6 rfl ?_
            refine J_callHf cx kL_242 (As := [.ref b]) (frF (w := wT g κ u201) (wr := [iA g an 700 N]) (W' := fun (u' : UT) => wT g κ u') (W2 := fun (u' : UT) => iA g an 700 N :: wT g κ u') (pm_1 _ _) (fun _ => (pm_1 _ _).symm) (rd_LsoundShare l D g _ κ u201 b htr hv201 hb201 hd h1n)) ⟨rfl, rfl, by first | decide | (simp only [rmK]; omega), by first | decide | (simp only [rmK]; omega)⟩ ⟨by first | decide | (show _ ≤ _; dsimp only; omega), by first | decide | (show _ ≤ _; dsimp only; omega)⟩ rfl rfl (Nat.le_of_ble_eq_true rfl) dL_isTold_223 ?_
            intro r223 u223 hu223; obtain ⟨hr223, hb223, hv223⟩ := hu223; subst hr223
            refine J_iload_n cx dL_isTold_226 rfl 3 rfl ?_
            refine J_i2f cx dL_isTold_227 ?_
            refine J_aload_n cx dL_isTold_228 rfl 7 rfl ?_
            refine J_iconst cx (v := nI 0) dL_isTold_229 (by decide) ?_
            refine J_iald cx (j := 0) (f := N) 0 rfl rfl (by omega) (by decide) dL_isTold_230 ?_
            refine J_top (v' := .int (nI (κ.2.2.1 0))) (congrArg Value.int hN.n0) ?_
            refine J_i2f cx dL_isTold_231 ?_
            refine J_fdiv cx dL_isTold_232 (by exact fdiv_ok _ (by omega) _ (by omega) (by omega)) ?_
            refine J_top (v' := .float (soV κ)) rfl ?_
            refine J_fcmp cx dL_isTold_233 ?_
            refine J_top (v' := .int (nI 0)) (congrArg Value.int (cmp_so h1n hn)) ?_
            refine J_if_ne cx (tgt := 266) dL_isTold_234 (by decide) (fun h => absurd h (by decide)) (fun _ => ?_)
            refine J_aload_n cx dL_isTold_237 rfl 6 rfl ?_
            refine J_callHd cx kL_245 (As := [.ref b]) (frD (w := wT g κ u223) (wr := [iA g an 700 N]) (W' := fun (u' : UT) => wT g κ u') (W2 := fun (u' : UT) => iA g an 700 N :: wT g κ u') (pm_1 _ _) (fun _ => (pm_1 _ _).symm) (rd_LmeanChain l D g _ κ u223 b htr hv223 hb223 hd)) ⟨rfl, rfl, by first | decide | (simp only [rmK]; omega), by first | decide | (simp only [rmK]; omega)⟩ ⟨by first | decide | (show _ ≤ _; dsimp only; omega), by first | decide | (show _ ≤ _; dsimp only; omega)⟩ rfl rfl (Nat.le_of_ble_eq_true rfl) dL_isTold_238 ?_
            intro r238 u238 hu238; obtain ⟨hr238, hb238, hv238⟩ := hu238; subst hr238
            refine J_iload cx dL_isTold_241 5 rfl ?_
            refine J_if_ne cx (tgt := 252) dL_isTold_243 (by decide) (fun c_35 => ?_) (fun c_35 => ?_)
            · have c_35 := (nat_if_ne (by omega)).mp c_35
              have c_35d := decide_eq_false c_35
              refine J_iload_n cx dL_isTold_252 rfl 4 rfl ?_
              refine J_i2d cx dL_isTold_253 ?_
              refine J_iload cx dL_isTold_254 5 rfl ?_
              refine J_i2d cx dL_isTold_256 ?_
              refine J_ddiv cx dL_isTold_257 (by exact ddiv_ok _ (by omega) _ (by omega) (by omega)) ?_
              refine J_top (v' := .double (meV κ)) (congrArg Value.double (by unfold meV; rw [if_neg c_35])) ?_
              refine J_dcmp cx dL_isTold_258 ?_
              refine J_top (v' := .int (nI 0)) (congrArg Value.int (cmp_me hI)) ?_
              refine J_if_ne cx (tgt := 266) dL_isTold_259 (by decide) (fun h => absurd h (by decide)) (fun _ => ?_)
              refine J_iconst cx (v := nI 1) dL_isTold_262 (by decide) ?_
              refine J_goto cx (tgt := 267) dL_isTold_263 (by decide) ?_
              exact J_endR cx rfl rfl rfl hb238 hv238 (by first | (exact Nat.le_of_ble_eq_true rfl) | omega) (by first | (exact Nat.le_of_ble_eq_true rfl) | omega) dL_isTold_267
            · have c_35 := (nat_if_ne_f (by omega)).mp c_35
              have c_35d := decide_eq_true c_35
              refine J_ldc2d cx (v := 13919350198670196736) dL_isTold_246 cL_17 ?_
              refine J_goto cx (tgt := 258) dL_isTold_249 (by decide) ?_
              refine J_top (v' := .double (meV κ)) (congrArg Value.double (by unfold meV; rw [if_pos c_35])) ?_
              refine J_dcmp cx dL_isTold_258 ?_
              refine J_top (v' := .int (nI 0)) (congrArg Value.int (cmp_me hI)) ?_
              refine J_if_ne cx (tgt := 266) dL_isTold_259 (by decide) (fun h => absurd h (by decide)) (fun _ => ?_)
              refine J_iconst cx (v := nI 1) dL_isTold_262 (by decide) ?_
              refine J_goto cx (tgt := 267) dL_isTold_263 (by decide) ?_
              exact J_endR cx rfl rfl rfl hb238 hv238 (by first | (exact Nat.le_of_ble_eq_true rfl) | omega) (by first | (exact Nat.le_of_ble_eq_true rfl) | omega) dL_isTold_267
          · have c_29 := (nat_if_ne_f (by omega)).mp c_29
            have c_29d := decide_eq_true c_29
            exfalso; omega
  · have c_1 := (nat_if_ne_f (by omega)).mp c_1
    have c_1d := decide_eq_true c_1
    have h30 : κ.2.2.1 3 = 0 := by omega
    refine J_iconst cx (v := nI 0) dL_isTold_95 (by decide) ?_
    refine J_goto cx (tgt := 108) dL_isTold_96 (by decide) ?_
    refine J_istore cx (L' := [(5, .int (nI 0)), (2, .int (nI (cnt (sndB κ) (κ.2.2.1 0)))), (3, .int (nI (sumN κ (κ.2.2.1 0)))), (4, .int (nI (cnt (wiB κ) (κ.2.2.1 0)))), (0, .ref b), (1, .ref an)]) dL_isTold_108 (by decide) rfl ?_
    refine J_aload_n cx dL_isTold_110 rfl 5 rfl ?_
    refine J_iconst cx (v := nI 3) dL_isTold_111 (by decide) ?_
    refine J_iald cx (j := 3) (f := N) 0 rfl rfl (by omega) (by decide) dL_isTold_112 ?_
    refine J_top (v' := .int (nI (κ.2.2.1 3))) (congrArg Value.int hN.n3) ?_
    refine J_if_le cx (tgt := 148) dL_isTold_113 (by decide) (fun c_38 => ?_) (fun c_38 => ?_)
    · have c_38 := (nat_if_le (by omega)).mp c_38
      refine J_iconst cx (v := nI 0) dL_isTold_148 (by decide) ?_
      refine J_top (v' := .int (zb (thrB κ))) (congrArg Value.int (by unfold thrB; simp [h30]; try rfl)) ?_
      refine J_istore cx (L' := [(6, .int (zb (thrB κ))), (5, .int (nI 0)), (2, .int (nI (cnt (sndB κ) (κ.2.2.1 0)))), (3, .int (nI (sumN κ (κ.2.2.1 0)))), (4, .int (nI (cnt (wiB κ) (κ.2.2.1 0)))), (0, .ref b), (1, .ref an)]) dL_isTold_149 (by decide) rfl ?_
      refine J_aload_n cx dL_isTold_151 rfl 5 rfl ?_
      refine J_callVi cx kL_226 (As := []) (frI (w := wT g κ u) (wr := [iA g an 700 N]) (W' := fun (u' : UT) => wT g κ u') (W2 := fun (u' : UT) => iA g an 700 N :: wT g κ u') (pm_1 _ _) (fun _ => (pm_1 _ _).symm) (rd_walked l D g _ κ u b  htr hv hb  )) ⟨rfl, rfl, by first | decide | (simp only [rmK]; omega), by first | decide | (simp only [rmK]; omega)⟩ ⟨by first | decide | (show _ ≤ _; dsimp only; omega), by first | decide | (show _ ≤ _; dsimp only; omega)⟩ rfl 1 (wT_at (g := g) hb) rfl rfl (Nat.le_of_ble_eq_true rfl) dL_isTold_152 ?_
      intro r152 u152 hu152; obtain ⟨hr152, hb152, hv152⟩ := hu152; subst hr152
      refine J_aload_n cx dL_isTold_155 rfl 6 rfl ?_
      refine J_iconst cx (v := nI 3) dL_isTold_156 (by decide) ?_
      refine J_iald cx (j := 3) (f := N) 0 rfl rfl (by omega) (by decide) dL_isTold_157 ?_
      refine J_top (v' := .int (nI (κ.2.2.1 3))) (congrArg Value.int hN.n3) ?_
      refine J_icmp_ne cx (tgt := 214) dL_isTold_158 (by decide) (fun h => absurd rfl h) (fun _ => ?_)
      refine J_aload_n cx dL_isTold_161 rfl 5 rfl ?_
      refine J_callVi cx kL_229 (As := []) (frI (w := wT g κ u152) (wr := [iA g an 700 N]) (W' := fun (u' : UT) => wT g κ u') (W2 := fun (u' : UT) => iA g an 700 N :: wT g κ u') (pm_1 _ _) (fun _ => (pm_1 _ _).symm) (rd_isThrough l D g _ κ u152 b  htr hv152 hb152  )) ⟨rfl, rfl, by first | decide | (simp only [rmK]; omega), by first | decide | (simp only [rmK]; omega)⟩ ⟨by first | decide | (show _ ≤ _; dsimp only; omega), by first | decide | (show _ ≤ _; dsimp only; omega)⟩ rfl 1 (wT_at (g := g) hb152) rfl rfl (Nat.le_of_ble_eq_true rfl) dL_isTold_162 ?_
      intro r162 u162 hu162; obtain ⟨hr162, hb162, hv162⟩ := hu162; subst hr162
      refine J_iload cx dL_isTold_165 0 rfl ?_
      refine J_icmp_ne cx (tgt := 214) dL_isTold_167 (by decide) (fun h => absurd rfl h) (fun _ => ?_)
      refine J_aload_n cx dL_isTold_170 rfl 5 rfl ?_
      refine J_callHi cx kL_233 (As := [.ref b]) (frI (w := wT g κ u162) (wr := [iA g an 700 N]) (W' := fun (u' : UT) => wT g κ u') (W2 := fun (u' : UT) => iA g an 700 N :: wT g κ u') (pm_1 _ _) (fun _ => (pm_1 _ _).symm) (rd_Lreached l D g _ κ u162 b  htr hv162 hb162 hd )) ⟨rfl, rfl, by first | decide | (simp only [rmK]; omega), by first | decide | (simp only [rmK]; omega)⟩ ⟨by first | decide | (show _ ≤ _; dsimp only; omega), by first | decide | (show _ ≤ _; dsimp only; omega)⟩ rfl rfl (Nat.le_of_ble_eq_true rfl) dL_isTold_171 ?_
      intro r171 u171 hu171; obtain ⟨hr171, hb171, hv171⟩ := hu171; subst hr171
      refine J_aload_n cx dL_isTold_174 rfl 6 rfl ?_
      refine J_iconst cx (v := nI 3) dL_isTold_175 (by decide) ?_
      refine J_iald cx (j := 3) (f := N) 0 rfl rfl (by omega) (by decide) dL_isTold_176 ?_
      refine J_top (v' := .int (nI (κ.2.2.1 3))) (congrArg Value.int hN.n3) ?_
      refine J_if_ne cx (tgt := 185) dL_isTold_177 (by decide) (fun c_41 => ?_) (fun c_41 => ?_)
      · have c_41 := (nat_if_ne (by omega)).mp c_41
        have c_41d := decide_eq_false c_41
        exfalso; omega
      · have c_41 := (nat_if_ne_f (by omega)).mp c_41
        have c_41d := decide_eq_true c_41
        refine J_ldc cx (v := (-900001)) dL_isTold_180 cL_30 ?_
        refine J_goto cx (tgt := 187) dL_isTold_182 (by decide) ?_
        refine J_top (v' := .int (reV κ)) (congrArg Value.int (by unfold reV; rw [if_pos h30])) ?_
        refine J_icmp_ne cx (tgt := 214) dL_isTold_187 (by decide) (fun h => absurd rfl h) (fun _ => ?_)
        refine J_aload_n cx dL_isTold_190 rfl 5 rfl ?_
        refine J_callVi cx kL_236 (As := []) (frI (w := wT g κ u171) (wr := [iA g an 700 N]) (W' := fun (u' : UT) => wT g κ u') (W2 := fun (u' : UT) => iA g an 700 N :: wT g κ u') (pm_1 _ _) (fun _ => (pm_1 _ _).symm) (rd_day l D g _ κ u171 b  htr hv171 hb171  )) ⟨rfl, rfl, by first | decide | (simp only [rmK]; omega), by first | decide | (simp only [rmK]; omega)⟩ ⟨by first | decide | (show _ ≤ _; dsimp only; omega), by first | decide | (show _ ≤ _; dsimp only; omega)⟩ rfl 1 (wT_at (g := g) hb171) rfl rfl (Nat.le_of_ble_eq_true rfl) dL_isTold_191 ?_
        intro r191 u191 hu191; obtain ⟨hr191, hb191, hv191⟩ := hu191; subst hr191
        refine J_aload_n cx dL_isTold_194 rfl 6 rfl ?_
        refine J_iconst cx (v := nI 2) dL_isTold_195 (by decide) ?_
        refine J_iald cx (j := 2) (f := N) 0 rfl rfl (by omega) (by decide) dL_isTold_196 ?_
        refine J_top (v' := .int (nI (κ.2.2.1 2))) (congrArg Value.int hN.n2) ?_
        refine J_icmp_ne cx (tgt := 214) dL_isTold_197 (by decide) (fun h => absurd rfl h) (fun _ => ?_)
        refine J_aload_n cx dL_isTold_200 rfl 5 rfl ?_
        refine J_callVi cx kL_239 (As := []) (frI (w := wT g κ u191) (wr := [iA g an 700 N]) (W' := fun (u' : UT) => wT g κ u') (W2 := fun (u' : UT) => iA g an 700 N :: wT g κ u') (pm_1 _ _) (fun _ => (pm_1 _ _).symm) (rd_certificates l D g _ κ u191 b  htr hv191 hb191  )) ⟨rfl, rfl, by first | decide | (simp only [rmK]; omega), by first | decide | (simp only [rmK]; omega)⟩ ⟨by first | decide | (show _ ≤ _; dsimp only; omega), by first | decide | (show _ ≤ _; dsimp only; omega)⟩ rfl 1 (wT_at (g := g) hb191) rfl rfl (Nat.le_of_ble_eq_true rfl) dL_isTold_201 ?_
        intro r201 u201 hu201; obtain ⟨hr201, hb201, hv201⟩ := hu201; subst hr201
        refine J_aload_n cx dL_isTold_204 rfl 6 rfl ?_
        refine J_iconst cx (v := nI 0) dL_isTold_205 (by decide) ?_
        refine J_iald cx (j := 0) (f := N) 0 rfl rfl (by omega) (by decide) dL_isTold_206 ?_
        refine J_top (v' := .int (nI (κ.2.2.1 0))) (congrArg Value.int hN.n0) ?_
        refine J_icmp_ne cx (tgt := 214) dL_isTold_207 (by decide) (fun h => absurd rfl h) (fun _ => ?_)
        refine J_iconst cx (v := nI 1) dL_isTold_210 (by decide) ?_
        refine J_goto cx (tgt := 215) dL_isTold_211 (by decide) ?_
        refine J_istore cx (L' := [(7, .int (nI 1)), (6, .int (zb (thrB κ))), (5, .int (nI 0)), (2, .int (nI (cnt (sndB κ) (κ.2.2.1 0)))), (3, .int (nI (sumN κ (κ.2.2.1 0)))), (4, .int (nI (cnt (wiB κ) (κ.2.2.1 0)))), (0, .ref b), (1, .ref an)]) dL_isTold_215 (by decide) rfl ?_
        refine J_iload cx dL_isTold_217 0 rfl ?_
        refine J_if_eq cx (tgt := 266) dL_isTold_219 (by decide) (fun h => absurd h (by decide)) (fun _ => ?_)
        refine J_aload_n cx dL_isTold_222 rfl 6 rfl ?_
        refine J_callHf cx kL_242 (As := [.ref b]) (frF (w := wT g κ u201) (wr := [iA g an 700 N]) (W' := fun (u' : UT) => wT g κ u') (W2 := fun (u' : UT) => iA g an 700 N :: wT g κ u') (pm_1 _ _) (fun _ => (pm_1 _ _).symm) (rd_LsoundShare l D g _ κ u201 b htr hv201 hb201 hd h1n)) ⟨rfl, rfl, by first | decide | (simp only [rmK]; omega), by first | decide | (simp only [rmK]; omega)⟩ ⟨by first | decide | (show _ ≤ _; dsimp only; omega), by first | decide | (show _ ≤ _; dsimp only; omega)⟩ rfl rfl (Nat.le_of_ble_eq_true rfl) dL_isTold_223 ?_
        intro r223 u223 hu223; obtain ⟨hr223, hb223, hv223⟩ := hu223; subst hr223
        refine J_iload_n cx dL_isTold_226 rfl 3 rfl ?_
        refine J_i2f cx dL_isTold_227 ?_
        refine J_aload_n cx dL_isTold_228 rfl 7 rfl ?_
        refine J_iconst cx (v := nI 0) dL_isTold_229 (by decide) ?_
        refine J_iald cx (j := 0) (f := N) 0 rfl rfl (by omega) (by decide) dL_isTold_230 ?_
        refine J_top (v' := .int (nI (κ.2.2.1 0))) (congrArg Value.int hN.n0) ?_
        refine J_i2f cx dL_isTold_231 ?_
        refine J_fdiv cx dL_isTold_232 (by exact fdiv_ok _ (by omega) _ (by omega) (by omega)) ?_
        refine J_top (v' := .float (soV κ)) rfl ?_
        refine J_fcmp cx dL_isTold_233 ?_
        refine J_top (v' := .int (nI 0)) (congrArg Value.int (cmp_so h1n hn)) ?_
        refine J_if_ne cx (tgt := 266) dL_isTold_234 (by decide) (fun h => absurd h (by decide)) (fun _ => ?_)
        refine J_aload_n cx dL_isTold_237 rfl 6 rfl ?_
        refine J_callHd cx kL_245 (As := [.ref b]) (frD (w := wT g κ u223) (wr := [iA g an 700 N]) (W' := fun (u' : UT) => wT g κ u') (W2 := fun (u' : UT) => iA g an 700 N :: wT g κ u') (pm_1 _ _) (fun _ => (pm_1 _ _).symm) (rd_LmeanChain l D g _ κ u223 b htr hv223 hb223 hd)) ⟨rfl, rfl, by first | decide | (simp only [rmK]; omega), by first | decide | (simp only [rmK]; omega)⟩ ⟨by first | decide | (show _ ≤ _; dsimp only; omega), by first | decide | (show _ ≤ _; dsimp only; omega)⟩ rfl rfl (Nat.le_of_ble_eq_true rfl) dL_isTold_238 ?_
        intro r238 u238 hu238; obtain ⟨hr238, hb238, hv238⟩ := hu238; subst hr238
        refine J_iload cx dL_isTold_241 5 rfl ?_
        refine J_if_ne cx (tgt := 252) dL_isTold_243 (by decide) (fun c_47 => ?_) (fun c_47 => ?_)
        · have c_47 := (nat_if_ne (by omega)).mp c_47
          have c_47d := decide_eq_false c_47
          refine J_iload_n cx dL_isTold_252 rfl 4 rfl ?_
          refine J_i2d cx dL_isTold_253 ?_
          refine J_iload cx dL_isTold_254 5 rfl ?_
          refine J_i2d cx dL_isTold_256 ?_
          refine J_ddiv cx dL_isTold_257 (by exact ddiv_ok _ (by omega) _ (by omega) (by omega)) ?_
          refine J_top (v' := .double (meV κ)) (congrArg Value.double (by unfold meV; rw [if_neg c_47])) ?_
          refine J_dcmp cx dL_isTold_258 ?_
          refine J_top (v' := .int (nI 0)) (congrArg Value.int (cmp_me hI)) ?_
          refine J_if_ne cx (tgt := 266) dL_isTold_259 (by decide) (fun h => absurd h (by decide)) (fun _ => ?_)
          refine J_iconst cx (v := nI 1) dL_isTold_262 (by decide) ?_
          refine J_goto cx (tgt := 267) dL_isTold_263 (by decide) ?_
          exact J_endR cx rfl rfl rfl hb238 hv238 (by first | (exact Nat.le_of_ble_eq_true rfl) | omega) (by first | (exact Nat.le_of_ble_eq_true rfl) | omega) dL_isTold_267
        · have c_47 := (nat_if_ne_f (by omega)).mp c_47
          have c_47d := decide_eq_true c_47
          refine J_ldc2d cx (v := 13919350198670196736) dL_isTold_246 cL_17 ?_
          refine J_goto cx (tgt := 258) dL_isTold_249 (by decide) ?_
          refine J_top (v' := .double (meV κ)) (congrArg Value.double (by unfold meV; rw [if_pos c_47])) ?_
          refine J_dcmp cx dL_isTold_258 ?_
          refine J_top (v' := .int (nI 0)) (congrArg Value.int (cmp_me hI)) ?_
          refine J_if_ne cx (tgt := 266) dL_isTold_259 (by decide) (fun h => absurd h (by decide)) (fun _ => ?_)
          refine J_iconst cx (v := nI 1) dL_isTold_262 (by decide) ?_
          refine J_goto cx (tgt := 267) dL_isTold_263 (by decide) ?_
          exact J_endR cx rfl rfl rfl hb238 hv238 (by first | (exact Nat.le_of_ble_eq_true rfl) | omega) (by first | (exact Nat.le_of_ble_eq_true rfl) | omega) dL_isTold_267
    · have c_38 := (nat_if_le_f (by omega)).mp c_38
      exfalso; omega
set_option maxHeartbeats 4000000 in
set_option maxRecDepth 100000 in
theorem tL_isTold (l : Launch) (D : va_G) (g : Nat → ClassId) (A : Nat → Prop) (an : Nat) (N : Nat → Int32) (κ : CS) (u : UT) (b : Nat)  (htr : l.stackTraces = false) (hv : INV κ u.2.1 u.2.2.1) (hb : u.1 0 0 = b) (hd : κ.2.2.1 2 + 999 < 2147483648) (hN : NT N κ) (h1n : 1 ≤ κ.2.2.1 0) : Met l yL_isTold (wsA yL_isTold cL_isTold 8 (some .boolean)) ({ frames := 18, cells := 84, slots := 980, locals := 491 } : Room) (va_Pc [.ref b, .ref an] (PRE D g A (iA g an 700 N :: wT g κ u))) (va_Qi (RDP κ b (nI 1)) (fun u => PO D A (iA g an 700 N :: wT g κ u)) A) 84 980 A := by
  have hI := hv.1.2.2.2.1
  have hn := hv.1.1.1
  have h7 : κ.2.2.1 3 ≤ 7 := hI.2.2.2.2.2.1
  refine metJ (by decide) (Nat.le_of_ble_eq_true rfl) ?_
  intro p e s m args below meth c _ _ cx
  refine J_iconst cx (v := nI 0) dL_isTold_0 (by decide) ?_
  refine J_istore_n cx (L' := [(2, .int (nI 0)), (0, .ref b), (1, .ref an)]) dL_isTold_1 rfl (by decide) rfl ?_
  refine J_iconst cx (v := nI 0) dL_isTold_2 (by decide) ?_
  refine J_istore_n cx (L' := [(3, .int (nI 0)), (2, .int (nI 0)), (0, .ref b), (1, .ref an)]) dL_isTold_3 rfl (by decide) rfl ?_
  refine J_iconst cx (v := nI 0) dL_isTold_4 (by decide) ?_
  refine J_istore cx (L' := [(4, .int (nI 0)), (3, .int (nI 0)), (2, .int (nI 0)), (0, .ref b), (1, .ref an)]) dL_isTold_5 (by decide) rfl ?_
  refine J_iconst cx (v := nI 0) dL_isTold_7 (by decide) ?_
  refine J_istore cx (L' := [(5, .int (nI 0)), (4, .int (nI 0)), (3, .int (nI 0)), (2, .int (nI 0)), (0, .ref b), (1, .ref an)]) dL_isTold_8 (by decide) rfl ?_
  have LP : ∀ (fu : Nat) (k : Nat), (k ≤ κ.2.2.1 0) → κ.2.2.1 0 - k < fu → J p l e ({ frames := 18, cells := 84, slots := 980, locals := 491 } : Room) s m args below meth c D A 8 (MQ below (va_Qi (RDP κ b (nI 1)) (fun u => PO D A (iA g an 700 N :: wT g κ u)) A) args s 84 980 A) (2 * k) (24 * k) (iA g an 700 N :: wT g κ u) [(5, .int (nI k)), (4, .int (nI (cnt (wiB κ) k))), (3, .int (nI (sumN κ k))), (2, .int (nI (cnt (sndB κ) k))), (0, .ref b), (1, .ref an)] 10 [] := by
    intro fu; induction fu with
    | zero => intro k hkk hfu; exact absurd hfu (Nat.not_lt_zero _)
    | succ fu ih =>
      intro k hkk hfu
      refine J_iload cx dL_isTold_10 0 rfl ?_
      refine J_aload_n cx dL_isTold_12 rfl 5 rfl ?_
      refine J_iconst cx (v := nI 0) dL_isTold_13 (by decide) ?_
      refine J_iald cx (j := 0) (f := N) 0 rfl rfl (by omega) (by decide) dL_isTold_14 ?_
      refine J_top (v' := .int (nI (κ.2.2.1 0))) (congrArg Value.int hN.n0) ?_
      refine J_icmp_ge cx (tgt := 89) dL_isTold_15 (by decide) (fun c_1 => ?_) (fun c_1 => ?_)
      · have c_1 := (nat_ic_ge (by omega) (by omega)).mp c_1
        have c_1d := decide_eq_true c_1
        have hke : k = κ.2.2.1 0 := by omega
        have hcs := cnt_le (sndB κ) (κ.2.2.1 0)
        have hcw := cnt_le (wiB κ) (κ.2.2.1 0)
        have hsu := sumN_le hI (κ.2.2.1 0)
        refine J_Le (L' := [(5, .int (nI (κ.2.2.1 0))), (4, .int (nI (cnt (wiB κ) (κ.2.2.1 0)))), (3, .int (nI (sumN κ (κ.2.2.1 0)))), (2, .int (nI (cnt (sndB κ) (κ.2.2.1 0)))), (0, .ref b), (1, .ref an)]) (by rw [hke]) ?_
        refine J_L [3, 2, 1, 4, 5] rfl ?_
        refine J_widen (k := 80) (n := 960) (by first | decide | omega) (by first | decide | omega) ?_
        exact tt_c htr hv hb hd hN h1n h7 hcs hcw hsu cx
      · have c_1 := (nat_ic_ge_f (by omega) (by omega)).mp c_1
        have c_1d := decide_eq_false (Nat.not_le.mpr c_1)
        refine J_aload_n cx dL_isTold_18 rfl 5 rfl ?_
        refine J_iload cx dL_isTold_19 0 rfl ?_
        refine J_aload_n cx dL_isTold_21 rfl 5 rfl ?_
        refine J_iconst cx (v := nI 2) dL_isTold_22 (by decide) ?_
        refine J_iald cx (j := 2) (f := N) 0 rfl rfl (by omega) (by decide) dL_isTold_23 ?_
        refine J_top (v' := .int (nI (κ.2.2.1 2))) (congrArg Value.int hN.n2) ?_
        refine J_callSr cx kL_217 (As := [.ref an, .int (nI k), .int (nI (κ.2.2.1 2))]) (tL_found l D g A an N κ (wT g κ u) k (nI (κ.2.2.1 2)) hN hI (by omega)) ⟨rfl, rfl, by first | decide | (simp only [rmK]; omega), by first | decide | (simp only [rmK]; omega)⟩ ⟨by first | decide | (show _ ≤ _; dsimp only; omega), by first | decide | (show _ ≤ _; dsimp only; omega)⟩ rfl rfl (Nat.le_of_ble_eq_true rfl) dL_isTold_24 ?_
        intro _ qf24 _
        refine J_iconst cx (v := nI 1) dL_isTold_27 (by decide) ?_
        refine J_iald cx (j := 1) (f := fun i => nI ((foF κ k (nI (κ.2.2.1 2))) i)) 1 rfl rfl (by omega) (by decide) dL_isTold_28 ?_
        refine J_top (v' := .int (nI (foF κ k (nI (κ.2.2.1 2)) 1))) (congrArg (fun z => Value.int (nI z)) rfl) ?_
        refine J_istore cx (L' := [(6, .int (nI (foF κ k (nI (κ.2.2.1 2)) 1))), (5, .int (nI k)), (4, .int (nI (cnt (wiB κ) k))), (3, .int (nI (sumN κ k))), (2, .int (nI (cnt (sndB κ) k))), (0, .ref b), (1, .ref an)]) dL_isTold_29 (by decide) rfl ?_
        refine J_drop ?_
        have hf7 := fo_7 hI (i := k) (on := nI (κ.2.2.1 2))
        refine J_iload_n cx dL_isTold_31 rfl 4 rfl ?_
        refine J_aload_n cx dL_isTold_32 rfl 6 rfl ?_
        refine J_iload cx dL_isTold_33 1 rfl ?_
        refine J_aload_n cx dL_isTold_35 rfl 6 rfl ?_
        refine J_iconst cx (v := nI 2) dL_isTold_36 (by decide) ?_
        refine J_iald cx (j := 2) (f := N) 0 rfl rfl (by omega) (by decide) dL_isTold_37 ?_
        refine J_top (v' := .int (nI (κ.2.2.1 2))) (congrArg Value.int hN.n2) ?_
        refine J_callSi cx kL_120 (As := [.ref an, .int (nI k), .int (nI (κ.2.2.1 2))]) (tL_isValid l D g A an N κ (wT g κ u) k (nI (κ.2.2.1 2)) hN (by omega) hn) ⟨rfl, rfl, by first | decide | (simp only [rmK]; omega), by first | decide | (simp only [rmK]; omega)⟩ ⟨by first | decide | (show _ ≤ _; dsimp only; omega), by first | decide | (show _ ≤ _; dsimp only; omega)⟩ rfl rfl (Nat.le_of_ble_eq_true rfl) dL_isTold_38 ?_
        intro _ _ hr; cases hr
        refine J_ifz_eq cx (tgt := 60) dL_isTold_41 (by decide) (fun c_2 => ?_) (fun c_2 => ?_)
        · refine J_iconst cx (v := nI 0) dL_isTold_60 (by decide) ?_
          refine J_iadd cx dL_isTold_61 ?_
          refine J_top (v' := .int (nI ((cnt (sndB κ) k) + 0))) (congrArg Value.int (nI_add (cnt (sndB κ) k) 0)) ?_
          refine J_top (v' := .int (nI (cnt (sndB κ) (k + 1)))) (congrArg (fun z => Value.int (nI z)) (cnt_f (by simp [sndB, beginB, c_1, c_1d, c_2]))) ?_
          refine J_istore_n cx (L' := [(2, .int (nI (cnt (sndB κ) (k + 1)))), (6, .int (nI (foF κ k (nI (κ.2.2.1 2)) 1))), (5, .int (nI k)), (4, .int (nI (cnt (wiB κ) k))), (3, .int (nI (sumN κ k))), (0, .ref b), (1, .ref an)]) dL_isTold_62 rfl (by decide) rfl ?_
          refine J_iload_n cx dL_isTold_63 rfl 4 rfl ?_
          refine J_iload cx dL_isTold_64 1 rfl ?_
          refine J_iadd cx dL_isTold_66 ?_
          refine J_top (v' := .int (nI ((sumN κ k) + (foF κ k (nI (κ.2.2.1 2)) 1)))) (congrArg Value.int (nI_add (sumN κ k) (foF κ k (nI (κ.2.2.1 2)) 1))) ?_
          refine J_top (v' := .int (nI (sumN κ (k + 1)))) rfl ?_
          refine J_istore_n cx (L' := [(3, .int (nI (sumN κ (k + 1)))), (2, .int (nI (cnt (sndB κ) (k + 1)))), (6, .int (nI (foF κ k (nI (κ.2.2.1 2)) 1))), (5, .int (nI k)), (4, .int (nI (cnt (wiB κ) k))), (0, .ref b), (1, .ref an)]) dL_isTold_67 rfl (by decide) rfl ?_
          refine J_iload cx dL_isTold_68 4 rfl ?_
          refine J_iload cx dL_isTold_70 2 rfl ?_
          refine J_if_le cx (tgt := 79) dL_isTold_72 (by decide) (fun c_3 => ?_) (fun c_3 => ?_)
          · have c_3 := (nat_if_le (by omega)).mp c_3
            refine J_iconst cx (v := nI 0) dL_isTold_79 (by decide) ?_
            refine J_iadd cx dL_isTold_80 ?_
            refine J_top (v' := .int (nI ((cnt (wiB κ) k) + 0))) (congrArg Value.int (nI_add (cnt (wiB κ) k) 0)) ?_
            refine J_top (v' := .int (nI (cnt (wiB κ) (k + 1)))) (congrArg (fun z => Value.int (nI z)) (cnt_f (by simp [wiB, c_1, c_1d, c_2, c_3]))) ?_
            refine J_istore cx (L' := [(4, .int (nI (cnt (wiB κ) (k + 1)))), (3, .int (nI (sumN κ (k + 1)))), (2, .int (nI (cnt (sndB κ) (k + 1)))), (6, .int (nI (foF κ k (nI (κ.2.2.1 2)) 1))), (5, .int (nI k)), (0, .ref b), (1, .ref an)]) dL_isTold_81 (by decide) rfl ?_
            refine J_iinc cx (v := (nI (k + 1))) (L' := [(5, .int (nI (k + 1))), (4, .int (nI (cnt (wiB κ) (k + 1)))), (3, .int (nI (sumN κ (k + 1)))), (2, .int (nI (cnt (sndB κ) (k + 1)))), (6, .int (nI (foF κ k (nI (κ.2.2.1 2)) 1))), (0, .ref b), (1, .ref an)]) dL_isTold_83 4 rfl (by exact nI_add k 1) (by decide) rfl ?_
            refine J_goto cx (tgt := 10) dL_isTold_86 (by decide) ?_
            refine J_L [0, 1, 2, 3, 5, 6] rfl ?_
            refine J_widen (k := 2 * (k + 1)) (n := 24 * (k + 1)) (by omega) (by omega) ?_
            exact ih (k + 1) (by omega) (by omega)
          · have c_3 := (nat_if_le_f (by omega)).mp c_3
            refine J_iconst cx (v := nI 1) dL_isTold_75 (by decide) ?_
            refine J_goto cx (tgt := 80) dL_isTold_76 (by decide) ?_
            refine J_iadd cx dL_isTold_80 ?_
            refine J_top (v' := .int (nI ((cnt (wiB κ) k) + 1))) (congrArg Value.int (nI_add (cnt (wiB κ) k) 1)) ?_
            refine J_top (v' := .int (nI (cnt (wiB κ) (k + 1)))) (congrArg (fun z => Value.int (nI z)) (cnt_t (by simp [wiB, c_1, c_1d, c_2, c_3]))) ?_
            refine J_istore cx (L' := [(4, .int (nI (cnt (wiB κ) (k + 1)))), (3, .int (nI (sumN κ (k + 1)))), (2, .int (nI (cnt (sndB κ) (k + 1)))), (6, .int (nI (foF κ k (nI (κ.2.2.1 2)) 1))), (5, .int (nI k)), (0, .ref b), (1, .ref an)]) dL_isTold_81 (by decide) rfl ?_
            refine J_iinc cx (v := (nI (k + 1))) (L' := [(5, .int (nI (k + 1))), (4, .int (nI (cnt (wiB κ) (k + 1)))), (3, .int (nI (sumN κ (k + 1)))), (2, .int (nI (cnt (sndB κ) (k + 1)))), (6, .int (nI (foF κ k (nI (κ.2.2.1 2)) 1))), (0, .ref b), (1, .ref an)]) dL_isTold_83 4 rfl (by exact nI_add k 1) (by decide) rfl ?_
            refine J_goto cx (tgt := 10) dL_isTold_86 (by decide) ?_
            refine J_L [0, 1, 2, 3, 5, 6] rfl ?_
            refine J_widen (k := 2 * (k + 1)) (n := 24 * (k + 1)) (by omega) (by omega) ?_
            exact ih (k + 1) (by omega) (by omega)
        · refine J_aload_n cx dL_isTold_44 rfl 6 rfl ?_
          refine J_iload cx dL_isTold_45 1 rfl ?_
          refine J_aload_n cx dL_isTold_47 rfl 6 rfl ?_
          refine J_iconst cx (v := nI 2) dL_isTold_48 (by decide) ?_
          refine J_iald cx (j := 2) (f := N) 0 rfl rfl (by omega) (by decide) dL_isTold_49 ?_
          refine J_top (v' := .int (nI (κ.2.2.1 2))) (congrArg Value.int hN.n2) ?_
          refine J_callSi cx kL_123 (As := [.ref an, .int (nI k), .int (nI (κ.2.2.1 2))]) (tL_isOff l D g A an N κ (wT g κ u) k (nI (κ.2.2.1 2)) hN (by omega) hn) ⟨rfl, rfl, by first | decide | (simp only [rmK]; omega), by first | decide | (simp only [rmK]; omega)⟩ ⟨by first | decide | (show _ ≤ _; dsimp only; omega), by first | decide | (show _ ≤ _; dsimp only; omega)⟩ rfl rfl (Nat.le_of_ble_eq_true rfl) dL_isTold_50 ?_
          intro _ _ hr; cases hr
          refine J_ifz_ne cx (tgt := 60) dL_isTold_53 (by decide) (fun c_4 => ?_) (fun c_4 => ?_)
          · refine J_iconst cx (v := nI 0) dL_isTold_60 (by decide) ?_
            refine J_iadd cx dL_isTold_61 ?_
            refine J_top (v' := .int (nI ((cnt (sndB κ) k) + 0))) (congrArg Value.int (nI_add (cnt (sndB κ) k) 0)) ?_
            refine J_top (v' := .int (nI (cnt (sndB κ) (k + 1)))) (congrArg (fun z => Value.int (nI z)) (cnt_f (by simp [sndB, beginB, c_1, c_1d, c_2, c_4]))) ?_
            refine J_istore_n cx (L' := [(2, .int (nI (cnt (sndB κ) (k + 1)))), (6, .int (nI (foF κ k (nI (κ.2.2.1 2)) 1))), (5, .int (nI k)), (4, .int (nI (cnt (wiB κ) k))), (3, .int (nI (sumN κ k))), (0, .ref b), (1, .ref an)]) dL_isTold_62 rfl (by decide) rfl ?_
            refine J_iload_n cx dL_isTold_63 rfl 4 rfl ?_
            refine J_iload cx dL_isTold_64 1 rfl ?_
            refine J_iadd cx dL_isTold_66 ?_
            refine J_top (v' := .int (nI ((sumN κ k) + (foF κ k (nI (κ.2.2.1 2)) 1)))) (congrArg Value.int (nI_add (sumN κ k) (foF κ k (nI (κ.2.2.1 2)) 1))) ?_
            refine J_top (v' := .int (nI (sumN κ (k + 1)))) rfl ?_
            refine J_istore_n cx (L' := [(3, .int (nI (sumN κ (k + 1)))), (2, .int (nI (cnt (sndB κ) (k + 1)))), (6, .int (nI (foF κ k (nI (κ.2.2.1 2)) 1))), (5, .int (nI k)), (4, .int (nI (cnt (wiB κ) k))), (0, .ref b), (1, .ref an)]) dL_isTold_67 rfl (by decide) rfl ?_
            refine J_iload cx dL_isTold_68 4 rfl ?_
            refine J_iload cx dL_isTold_70 2 rfl ?_
            refine J_if_le cx (tgt := 79) dL_isTold_72 (by decide) (fun c_5 => ?_) (fun c_5 => ?_)
            · have c_5 := (nat_if_le (by omega)).mp c_5
              refine J_iconst cx (v := nI 0) dL_isTold_79 (by decide) ?_
              refine J_iadd cx dL_isTold_80 ?_
              refine J_top (v' := .int (nI ((cnt (wiB κ) k) + 0))) (congrArg Value.int (nI_add (cnt (wiB κ) k) 0)) ?_
              refine J_top (v' := .int (nI (cnt (wiB κ) (k + 1)))) (congrArg (fun z => Value.int (nI z)) (cnt_f (by simp [wiB, c_1, c_1d, c_2, c_4, c_5]))) ?_
              refine J_istore cx (L' := [(4, .int (nI (cnt (wiB κ) (k + 1)))), (3, .int (nI (sumN κ (k + 1)))), (2, .int (nI (cnt (sndB κ) (k + 1)))), (6, .int (nI (foF κ k (nI (κ.2.2.1 2)) 1))), (5, .int (nI k)), (0, .ref b), (1, .ref an)]) dL_isTold_81 (by decide) rfl ?_
              refine J_iinc cx (v := (nI (k + 1))) (L' := [(5, .int (nI (k + 1))), (4, .int (nI (cnt (wiB κ) (k + 1)))), (3, .int (nI (sumN κ (k + 1)))), (2, .int (nI (cnt (sndB κ) (k + 1)))), (6, .int (nI (foF κ k (nI (κ.2.2.1 2)) 1))), (0, .ref b), (1, .ref an)]) dL_isTold_83 4 rfl (by exact nI_add k 1) (by decide) rfl ?_
              refine J_goto cx (tgt := 10) dL_isTold_86 (by decide) ?_
              refine J_L [0, 1, 2, 3, 5, 6] rfl ?_
              refine J_widen (k := 2 * (k + 1)) (n := 24 * (k + 1)) (by omega) (by omega) ?_
              exact ih (k + 1) (by omega) (by omega)
            · have c_5 := (nat_if_le_f (by omega)).mp c_5
              refine J_iconst cx (v := nI 1) dL_isTold_75 (by decide) ?_
              refine J_goto cx (tgt := 80) dL_isTold_76 (by decide) ?_
              refine J_iadd cx dL_isTold_80 ?_
              refine J_top (v' := .int (nI ((cnt (wiB κ) k) + 1))) (congrArg Value.int (nI_add (cnt (wiB κ) k) 1)) ?_
              refine J_top (v' := .int (nI (cnt (wiB κ) (k + 1)))) (congrArg (fun z => Value.int (nI z)) (cnt_t (by simp [wiB, c_1, c_1d, c_2, c_4, c_5]))) ?_
              refine J_istore cx (L' := [(4, .int (nI (cnt (wiB κ) (k + 1)))), (3, .int (nI (sumN κ (k + 1)))), (2, .int (nI (cnt (sndB κ) (k + 1)))), (6, .int (nI (foF κ k (nI (κ.2.2.1 2)) 1))), (5, .int (nI k)), (0, .ref b), (1, .ref an)]) dL_isTold_81 (by decide) rfl ?_
              refine J_iinc cx (v := (nI (k + 1))) (L' := [(5, .int (nI (k + 1))), (4, .int (nI (cnt (wiB κ) (k + 1)))), (3, .int (nI (sumN κ (k + 1)))), (2, .int (nI (cnt (sndB κ) (k + 1)))), (6, .int (nI (foF κ k (nI (κ.2.2.1 2)) 1))), (0, .ref b), (1, .ref an)]) dL_isTold_83 4 rfl (by exact nI_add k 1) (by decide) rfl ?_
              refine J_goto cx (tgt := 10) dL_isTold_86 (by decide) ?_
              refine J_L [0, 1, 2, 3, 5, 6] rfl ?_
              refine J_widen (k := 2 * (k + 1)) (n := 24 * (k + 1)) (by omega) (by omega) ?_
              exact ih (k + 1) (by omega) (by omega)
          · refine J_iconst cx (v := nI 1) dL_isTold_56 (by decide) ?_
            refine J_goto cx (tgt := 61) dL_isTold_57 (by decide) ?_
            refine J_iadd cx dL_isTold_61 ?_
            refine J_top (v' := .int (nI ((cnt (sndB κ) k) + 1))) (congrArg Value.int (nI_add (cnt (sndB κ) k) 1)) ?_
            refine J_top (v' := .int (nI (cnt (sndB κ) (k + 1)))) (congrArg (fun z => Value.int (nI z)) (cnt_t (by simp [sndB, beginB, c_1, c_1d, c_2, c_4]))) ?_
            refine J_istore_n cx (L' := [(2, .int (nI (cnt (sndB κ) (k + 1)))), (6, .int (nI (foF κ k (nI (κ.2.2.1 2)) 1))), (5, .int (nI k)), (4, .int (nI (cnt (wiB κ) k))), (3, .int (nI (sumN κ k))), (0, .ref b), (1, .ref an)]) dL_isTold_62 rfl (by decide) rfl ?_
            refine J_iload_n cx dL_isTold_63 rfl 4 rfl ?_
            refine J_iload cx dL_isTold_64 1 rfl ?_
            refine J_iadd cx dL_isTold_66 ?_
            refine J_top (v' := .int (nI ((sumN κ k) + (foF κ k (nI (κ.2.2.1 2)) 1)))) (congrArg Value.int (nI_add (sumN κ k) (foF κ k (nI (κ.2.2.1 2)) 1))) ?_
            refine J_top (v' := .int (nI (sumN κ (k + 1)))) rfl ?_
            refine J_istore_n cx (L' := [(3, .int (nI (sumN κ (k + 1)))), (2, .int (nI (cnt (sndB κ) (k + 1)))), (6, .int (nI (foF κ k (nI (κ.2.2.1 2)) 1))), (5, .int (nI k)), (4, .int (nI (cnt (wiB κ) k))), (0, .ref b), (1, .ref an)]) dL_isTold_67 rfl (by decide) rfl ?_
            refine J_iload cx dL_isTold_68 4 rfl ?_
            refine J_iload cx dL_isTold_70 2 rfl ?_
            refine J_if_le cx (tgt := 79) dL_isTold_72 (by decide) (fun c_6 => ?_) (fun c_6 => ?_)
            · have c_6 := (nat_if_le (by omega)).mp c_6
              refine J_iconst cx (v := nI 0) dL_isTold_79 (by decide) ?_
              refine J_iadd cx dL_isTold_80 ?_
              refine J_top (v' := .int (nI ((cnt (wiB κ) k) + 0))) (congrArg Value.int (nI_add (cnt (wiB κ) k) 0)) ?_
              refine J_top (v' := .int (nI (cnt (wiB κ) (k + 1)))) (congrArg (fun z => Value.int (nI z)) (cnt_f (by simp [wiB, c_1, c_1d, c_2, c_4, c_6]))) ?_
              refine J_istore cx (L' := [(4, .int (nI (cnt (wiB κ) (k + 1)))), (3, .int (nI (sumN κ (k + 1)))), (2, .int (nI (cnt (sndB κ) (k + 1)))), (6, .int (nI (foF κ k (nI (κ.2.2.1 2)) 1))), (5, .int (nI k)), (0, .ref b), (1, .ref an)]) dL_isTold_81 (by decide) rfl ?_
              refine J_iinc cx (v := (nI (k + 1))) (L' := [(5, .int (nI (k + 1))), (4, .int (nI (cnt (wiB κ) (k + 1)))), (3, .int (nI (sumN κ (k + 1)))), (2, .int (nI (cnt (sndB κ) (k + 1)))), (6, .int (nI (foF κ k (nI (κ.2.2.1 2)) 1))), (0, .ref b), (1, .ref an)]) dL_isTold_83 4 rfl (by exact nI_add k 1) (by decide) rfl ?_
              refine J_goto cx (tgt := 10) dL_isTold_86 (by decide) ?_
              refine J_L [0, 1, 2, 3, 5, 6] rfl ?_
              refine J_widen (k := 2 * (k + 1)) (n := 24 * (k + 1)) (by omega) (by omega) ?_
              exact ih (k + 1) (by omega) (by omega)
            · have c_6 := (nat_if_le_f (by omega)).mp c_6
              refine J_iconst cx (v := nI 1) dL_isTold_75 (by decide) ?_
              refine J_goto cx (tgt := 80) dL_isTold_76 (by decide) ?_
              refine J_iadd cx dL_isTold_80 ?_
              refine J_top (v' := .int (nI ((cnt (wiB κ) k) + 1))) (congrArg Value.int (nI_add (cnt (wiB κ) k) 1)) ?_
              refine J_top (v' := .int (nI (cnt (wiB κ) (k + 1)))) (congrArg (fun z => Value.int (nI z)) (cnt_t (by simp [wiB, c_1, c_1d, c_2, c_4, c_6]))) ?_
              refine J_istore cx (L' := [(4, .int (nI (cnt (wiB κ) (k + 1)))), (3, .int (nI (sumN κ (k + 1)))), (2, .int (nI (cnt (sndB κ) (k + 1)))), (6, .int (nI (foF κ k (nI (κ.2.2.1 2)) 1))), (5, .int (nI k)), (0, .ref b), (1, .ref an)]) dL_isTold_81 (by decide) rfl ?_
              refine J_iinc cx (v := (nI (k + 1))) (L' := [(5, .int (nI (k + 1))), (4, .int (nI (cnt (wiB κ) (k + 1)))), (3, .int (nI (sumN κ (k + 1)))), (2, .int (nI (cnt (sndB κ) (k + 1)))), (6, .int (nI (foF κ k (nI (κ.2.2.1 2)) 1))), (0, .ref b), (1, .ref an)]) dL_isTold_83 4 rfl (by exact nI_add k 1) (by decide) rfl ?_
              refine J_goto cx (tgt := 10) dL_isTold_86 (by decide) ?_
              refine J_L [0, 1, 2, 3, 5, 6] rfl ?_
              refine J_widen (k := 2 * (k + 1)) (n := 24 * (k + 1)) (by omega) (by omega) ?_
              exact ih (k + 1) (by omega) (by omega)
  refine J_L [0, 1, 2, 3, 4, 5] rfl ?_
  refine J_widen (k := 2 * 0) (n := 24 * 0) (by omega) (by omega) ?_
  exact LP _ 0 (Nat.zero_le _) (Nat.lt_succ_self _)
