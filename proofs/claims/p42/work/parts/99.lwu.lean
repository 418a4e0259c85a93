set_option maxHeartbeats 4000000 in
set_option maxRecDepth 100000 in
theorem bg_c {p : Program} {l : Launch} {e : Env} {s : State} {m : MethodId} {args : Array Value} {below : List Frame} {meth : Method} {c : Code} {D : va_G} {g : Nat → ClassId} {A : Nat → Prop} {an : Nat} {N : Nat → Int32} {ad : Nat → Nat → Nat} {κ : CS} {X : XT} {cs : Nat → CT} {lf : Nat → Int64} {pr : PT} (htr : l.stackTraces = false) (hV : IV κ X) (hw : WV κ cs) (hk : κ.2.2.1 1 ≤ κ.2.2.1 0) (hL : LAW N κ) (hd : κ.2.2.1 2 ≤ 4000) (cx : CX p l s m args meth c yL_begun.cls cL_begun (some (.object "Certhold")) 8 D g A) : J p l e ({ frames := 11, cells := 120, slots := 900, locals := 211 } : Room) s m args below meth c D A 8 (MQ below (va_Qr (fun (u : LT) => LI u ∧ u.2.1.2.2.1 2 ≤ 20000) (fun u v => PO D A (wL g an (rb u v))) A) args s 120 900 A) 40 360 (iA g an 700 N :: iW ad g κ X cs lf pr) [(4, .int (nI 1)), (3, .ref (ad 0 0)), (0, .ref (g 10)), (1, .ref an), (2, .int (nI 8))] 118 [] := by
  refine J_iconst cx (v := nI 0) dL_begun_118 (by decide) ?_
  refine J_istore cx (L' := [(5, .int (nI 0)), (4, .int (nI 1)), (3, .ref (ad 0 0)), (0, .ref (g 10)), (1, .ref an), (2, .int (nI 8))]) dL_begun_119 (by decide) rfl ?_
  have LD : ∀ (fu : Nat) (k : Nat) (M : Nat → Int32) (a9 : Nat → Nat → Nat) (K9 : CS) (X9 : XT) (c9 : Nat → CT) (l9 : Nat → Int64) (p9 : PT), (k ≤ 8) → (IV K9 X9) → (WV K9 c9) → (K9.2.2.1 1 ≤ K9.2.2.1 0) → (LAW M K9) → (K9.2.2.1 2 ≤ 4000 + 1000 * k) → 8 - k < fu → J p l e ({ frames := 11, cells := 120, slots := 900, locals := 211 } : Room) s m args below meth c D A 8 (MQ below (va_Qr (fun (u : LT) => LI u ∧ u.2.1.2.2.1 2 ≤ 20000) (fun u v => PO D A (wL g an (rb u v))) A) args s 120 900 A) (40 + 9 * k) (360 + 59 * k) (iA g an 700 M :: iW a9 g K9 X9 c9 l9 p9) [(5, .int (nI k)), (4, .int (nI 1)), (3, .ref (a9 0 0)), (0, .ref (g 10)), (1, .ref an), (2, .int (nI 8))] 121 [] := by
    intro fu; induction fu with
    | zero => intro k M a9 K9 X9 c9 l9 p9 hkk hV9 hw9 hk9 hL9 hd9 hfu; exact absurd hfu (Nat.not_lt_zero _)
    | succ fu ih =>
      intro k M a9 K9 X9 c9 l9 p9 hkk hV9 hw9 hk9 hL9 hd9 hfu
      refine J_iload cx dL_begun_121 0 rfl ?_
      refine J_iload_n cx dL_begun_123 rfl 5 rfl ?_
      refine J_icmp_ge cx (tgt := 187) dL_begun_124 (by decide) (fun c_1 => ?_) (fun c_1 => ?_)
      · have c_1 := (nat_ic_ge (by omega) (by omega)).mp c_1
        have c_1d := decide_eq_true c_1
        refine J_iload cx dL_begun_187 1 rfl ?_
        refine J_if_eq cx (tgt := 196) dL_begun_189 (by decide) (fun h => absurd h (by decide)) (fun _ => ?_)
        refine J_aload_n cx dL_begun_192 rfl 2 rfl ?_
        refine J_goto cx (tgt := 197) dL_begun_193 (by decide) ?_
        exact J_rret cx rfl (u := ((M, K9, a9, X9, c9, l9, p9) : LT)) ⟨⟨⟨hV9, hw9, hk9⟩, hL9⟩, (show K9.2.2.1 2 ≤ 20000 by omega)⟩ (congrArg (wL g an) (rb_id (M, K9, a9, X9, c9, l9, p9)).symm) (by omega) (by omega) dL_begun_197
      · have c_1 := (nat_ic_ge_f (by omega) (by omega)).mp c_1
        have c_1d := decide_eq_false (Nat.not_le.mpr c_1)
        refine J_iload cx dL_begun_127 1 rfl ?_
        refine J_if_eq cx (tgt := 187) dL_begun_129 (by decide) (fun h => absurd h (by decide)) (fun _ => ?_)
        refine J_aload_n cx dL_begun_132 rfl 3 rfl ?_
        refine J_bipush cx (v := nI 9) dL_begun_133 (by decide) ?_
        refine J_bipush cx (v := nI 12) dL_begun_135 (by decide) ?_
        refine J_iload cx dL_begun_137 0 rfl ?_
        refine J_imul cx dL_begun_139 ?_
        refine J_top (v' := .int (nI (12 * k))) (congrArg Value.int (pk_mul 12 k)) ?_
        refine J_iadd cx dL_begun_140 ?_
        refine J_top (v' := .int (nI (9 + (12 * k)))) (congrArg Value.int (nI_add 9 (12 * k))) ?_
        refine J_iconst cx (v := nI 4) dL_begun_141 (by decide) ?_
        refine J_callSi cx kL_101 (As := [.ref (g 10), .int (nI (9 + (12 * k))), .int (nI 4)]) (tL_in l D g A (iA g an 700 M :: iW a9 g K9 X9 c9 l9 p9) (9 + (12 * k)) 4 (by omega) (by omega) (by omega)) ⟨rfl, rfl, by first | decide | (simp only [rmK]; omega), by first | decide | (simp only [rmK]; omega)⟩ ⟨by first | decide | (show _ ≤ _; dsimp only; omega), by first | decide | (show _ ≤ _; dsimp only; omega)⟩ rfl rfl (Nat.le_of_ble_eq_true rfl) dL_begun_142 ?_
        intro _ _ hr; cases hr
        have hin_4 := inN_lt (g := g) (i := (9 + (12 * k))) (n := 4) (by omega)
        generalize hg_q4 : inN g (9 + 12 * k) 4 = q4 at *
        have hq4 : q4 < 4 := by assumption
        refine J_if_le cx (tgt := 165) dL_begun_145 (by decide) (fun c_5 => ?_) (fun c_5 => ?_)
        · have c_5 := (nat_if_le (by omega)).mp c_5
          refine J_aload_n cx dL_begun_165 rfl 2 rfl ?_
          refine J_aload_n cx dL_begun_166 rfl 4 rfl ?_
          refine J_aload_n cx dL_begun_167 rfl 3 rfl ?_
          refine J_bipush cx (v := nI 10) dL_begun_168 (by decide) ?_
          refine J_bipush cx (v := nI 12) dL_begun_170 (by decide) ?_
          refine J_iload cx dL_begun_172 0 rfl ?_
          refine J_imul cx dL_begun_174 ?_
          refine J_top (v' := .int (nI (12 * k))) (congrArg Value.int (pk_mul 12 k)) ?_
          refine J_iadd cx dL_begun_175 ?_
          refine J_top (v' := .int (nI (10 + (12 * k)))) (congrArg Value.int (nI_add 10 (12 * k))) ?_
          refine J_callSi cx kL_183 (As := [.ref (a9 0 0), .ref an, .ref (g 10), .int (nI (10 + (12 * k)))]) (tL_isKept l D g A an M a9 K9 X9 c9 l9 p9 (10 + (12 * k)) htr hV9 hw9 hk9 (by omega) hL9 (by omega)) ⟨rfl, rfl, by first | decide | (simp only [rmK]; omega), by first | decide | (simp only [rmK]; omega)⟩ ⟨by first | decide | (show _ ≤ _; dsimp only; omega), by first | decide | (show _ ≤ _; dsimp only; omega)⟩ rfl rfl (Nat.le_of_ble_eq_true rfl) dL_begun_176 ?_
          intro r176 ut176 hu176
          obtain ⟨M176, K176, a176, X176, c176, l176, p176⟩ := ut176
          obtain ⟨hr176, hz176, ⟨⟨hV176, hw176, hk176⟩, hL176⟩, hdy176⟩ := hu176
          subst hr176
          have hz176 : a176 0 = a9 0 := hz176
          have hdy176 : K176.2.2.1 2 ≤ K9.2.2.1 2 + 999 := hdy176
          refine J_ws (ws' := (iA g an 700 M176 :: iW a176 g K176 X176 c176 l176 p176)) rfl ?_
          refine J_Le (L' := [(5, .int (nI k)), (4, .int (nI 1)), (3, .ref (a176 0 0)), (0, .ref (g 10)), (1, .ref an), (2, .int (nI 8))]) (by rw [hz176]) ?_
          refine J_istore cx (L' := [(4, .int (nI 1)), (5, .int (nI k)), (3, .ref (a176 0 0)), (0, .ref (g 10)), (1, .ref an), (2, .int (nI 8))]) dL_begun_179 (by decide) rfl ?_
          refine J_iinc cx (v := (nI (k + 1))) (L' := [(5, .int (nI (k + 1))), (4, .int (nI 1)), (3, .ref (a176 0 0)), (0, .ref (g 10)), (1, .ref an), (2, .int (nI 8))]) dL_begun_181 1 rfl (by exact nI_add k 1) (by decide) rfl ?_
          refine J_goto cx (tgt := 121) dL_begun_184 (by decide) ?_
          refine J_L [0, 1, 2, 3, 4, 5] rfl ?_
          refine J_widen (k := 40 + 9 * (k + 1)) (n := 360 + 59 * (k + 1)) (by omega) (by omega) ?_
          exact ih (k + 1) M176 a176 K176 X176 c176 l176 p176 (by omega) hV176 hw176 hk176 hL176 (by omega) (by omega)
        · have c_5 := (nat_if_le_f (by omega)).mp c_5
          refine J_aload_n cx dL_begun_148 rfl 2 rfl ?_
          refine J_aload_n cx dL_begun_149 rfl 4 rfl ?_
          refine J_aload_n cx dL_begun_150 rfl 3 rfl ?_
          refine J_bipush cx (v := nI 10) dL_begun_151 (by decide) ?_
          refine J_bipush cx (v := nI 12) dL_begun_153 (by decide) ?_
          refine J_iload cx dL_begun_155 0 rfl ?_
          refine J_imul cx dL_begun_157 ?_
          refine J_top (v' := .int (nI (12 * k))) (congrArg Value.int (pk_mul 12 k)) ?_
          refine J_iadd cx dL_begun_158 ?_
          refine J_top (v' := .int (nI (10 + (12 * k)))) (congrArg Value.int (nI_add 10 (12 * k))) ?_
          refine J_callSi cx kL_179 (As := [.ref (a9 0 0), .ref an, .ref (g 10), .int (nI (10 + (12 * k)))]) (tL_isMade l D g A an M a9 K9 X9 c9 l9 p9 (10 + (12 * k)) htr hV9 hw9 hk9 (by omega) hL9 (by omega)) ⟨rfl, rfl, by first | decide | (simp only [rmK]; omega), by first | decide | (simp only [rmK]; omega)⟩ ⟨by first | decide | (show _ ≤ _; dsimp only; omega), by first | decide | (show _ ≤ _; dsimp only; omega)⟩ rfl rfl (Nat.le_of_ble_eq_true rfl) dL_begun_159 ?_
          intro r159 ut159 hu159
          obtain ⟨M159, K159, a159, X159, c159, l159, p159⟩ := ut159
          obtain ⟨hr159, hz159, ⟨⟨hV159, hw159, hk159⟩, hL159⟩, hdy159⟩ := hu159
          subst hr159
          have hz159 : a159 0 = a9 0 := hz159
          have hdy159 : K159.2.2.1 2 ≤ K9.2.2.1 2 + 999 := hdy159
          refine J_ws (ws' := (iA g an 700 M159 :: iW a159 g K159 X159 c159 l159 p159)) rfl ?_
          refine J_goto cx (tgt := 179) dL_begun_162 (by decide) ?_
          refine J_Le (L' := [(5, .int (nI k)), (4, .int (nI 1)), (3, .ref (a159 0 0)), (0, .ref (g 10)), (1, .ref an), (2, .int (nI 8))]) (by rw [hz159]) ?_
          refine J_istore cx (L' := [(4, .int (nI 1)), (5, .int (nI k)), (3, .ref (a159 0 0)), (0, .ref (g 10)), (1, .ref an), (2, .int (nI 8))]) dL_begun_179 (by decide) rfl ?_
          refine J_iinc cx (v := (nI (k + 1))) (L' := [(5, .int (nI (k + 1))), (4, .int (nI 1)), (3, .ref (a159 0 0)), (0, .ref (g 10)), (1, .ref an), (2, .int (nI 8))]) dL_begun_181 1 rfl (by exact nI_add k 1) (by decide) rfl ?_
          refine J_goto cx (tgt := 121) dL_begun_184 (by decide) ?_
          refine J_L [0, 1, 2, 3, 4, 5] rfl ?_
          refine J_widen (k := 40 + 9 * (k + 1)) (n := 360 + 59 * (k + 1)) (by omega) (by omega) ?_
          exact ih (k + 1) M159 a159 K159 X159 c159 l159 p159 (by omega) hV159 hw159 hk159 hL159 (by omega) (by omega)
  refine J_L [0, 1, 2, 3, 4, 5] rfl ?_
  refine J_widen (k := 40 + 9 * 0) (n := 360 + 59 * 0) (by omega) (by omega) ?_
  exact LD _ 0 _ _ _ _ _ _ _ (Nat.zero_le _) hV hw hk hL (by omega) (Nat.lt_succ_self _)
set_option maxHeartbeats 4000000 in
set_option maxRecDepth 100000 in
theorem tL_begun (l : Launch) (D : va_G) (g : Nat → ClassId) (A : Nat → Prop) (an : Nat) (htr : l.stackTraces = false) : Met l yL_begun (wsA yL_begun cL_begun 8 (some (.object "Certhold"))) ({ frames := 11, cells := 120, slots := 900, locals := 211 } : Room) (va_Pc [.ref (g 10), .ref an, .int (nI 8)] (PRE D g A (iA g an 700 N00 :: []))) (va_Qr (fun (u : LT) => LI u ∧ u.2.1.2.2.1 2 ≤ 20000) (fun u v => PO D A (wL g an (rb u v))) A) 120 900 A := by
  refine metJ (by decide) (Nat.le_of_ble_eq_true rfl) ?_
  intro p e s m args below meth c _ _ cx
  refine J_new cx (ci := 8) (fs := [.null, .null, .null, .null, .null, .null, .int (nI 0), .int (nI 0), .int (nI 0)]) iwX6 tyX6_ok lL_10 nX6 zX6 rfl dfX6 ⟨by decide, by decide⟩ dL_begun_0 (fun q0 => ?_)
  refine J_dup cx dL_begun_3 rfl ?_
  refine J_callCv cx kL_178 (As := []) (frV (w := [(q0, .inr (8, [.null, .null, .null, .null, .null, .null, .int (nI 0), .int (nI 0), .int (nI 0)]))]) (wr := [iA g an 700 N00]) (W2 := fun (u : Nat → Nat) => iA g an 700 N00 :: iW (fun _ => u) g kap0 X00 cs00 lf00 pr00) List.perm_append_comm (fun _ => List.perm_append_comm) (tX6_init l D g _ q0)) ⟨rfl, rfl, by decide, by decide⟩ ⟨by decide, by decide⟩ rfl rfl (Nat.le_of_ble_eq_true rfl) dL_begun_4 ?_
  intro u0 hu0; subst hu0
  refine J_astore_n cx (L' := [(3, .ref (u0 0)), (0, .ref (g 10)), (1, .ref an), (2, .int (nI 8))]) dL_begun_7 rfl (by decide) rfl ?_
  refine J_iconst cx (v := nI 1) dL_begun_8 (by decide) ?_
  refine J_istore cx (L' := [(4, .int (nI 1)), (3, .ref (u0 0)), (0, .ref (g 10)), (1, .ref an), (2, .int (nI 8))]) dL_begun_9 (by decide) rfl ?_
  refine J_iconst cx (v := nI 0) dL_begun_11 (by decide) ?_
  refine J_istore cx (L' := [(5, .int (nI 0)), (4, .int (nI 1)), (3, .ref (u0 0)), (0, .ref (g 10)), (1, .ref an), (2, .int (nI 8))]) dL_begun_12 (by decide) rfl ?_
  have LB : ∀ (fu : Nat) (k : Nat) (M : Nat → Int32) (a9 : Nat → Nat → Nat) (K9 : CS) (X9 : XT) (c9 : Nat → CT) (l9 : Nat → Int64) (p9 : PT), (k ≤ 2) → (IV K9 X9) → (WV K9 c9) → (K9.2.2.1 1 ≤ K9.2.2.1 0) → (BG M K9 k) → (K9.2.2.1 2 ≤ 2000 * k) → 2 - k < fu → J p l e ({ frames := 11, cells := 120, slots := 900, locals := 211 } : Room) s m args below meth c D A 8 (MQ below (va_Qr (fun (u : LT) => LI u ∧ u.2.1.2.2.1 2 ≤ 20000) (fun u v => PO D A (wL g an (rb u v))) A) args s 120 900 A) (17 + 10 * k) (233 + 60 * k) (iA g an 700 M :: iW a9 g K9 X9 c9 l9 p9) [(5, .int (nI k)), (4, .int (nI 1)), (3, .ref (a9 0 0)), (0, .ref (g 10)), (1, .ref an), (2, .int (nI 8))] 14 [] := by
    intro fu; induction fu with
    | zero => intro k M a9 K9 X9 c9 l9 p9 hkk hV9 hw9 hk9 hB9 hd9 hfu; exact absurd hfu (Nat.not_lt_zero _)
    | succ fu ih =>
      intro k M a9 K9 X9 c9 l9 p9 hkk hV9 hw9 hk9 hB9 hd9 hfu
      have hn9 := hV9.1.1
      have hF9 := hV9.2.2.2.2.1
      have e9 := hB9.2.1
      refine J_iload cx dL_begun_14 0 rfl ?_
      refine J_iconst cx (v := nI 2) dL_begun_16 (by decide) ?_
      refine J_icmp_ge cx (tgt := 118) dL_begun_17 (by decide) (fun c_1 => ?_) (fun c_1 => ?_)
      · have c_1 := (nat_ic_ge (by omega) (by omega)).mp c_1
        have c_1d := decide_eq_true c_1
        have hk2 : k = 2 := by omega
        refine J_L [1, 2, 3, 4, 5] rfl ?_
        refine J_widen (k := 40) (n := 360) (by omega) (by omega) ?_
        exact bg_c htr hV9 hw9 hk9 (bg_law (hk2 ▸ hB9)) (by omega) cx
      · have c_1 := (nat_ic_ge_f (by omega) (by omega)).mp c_1
        have c_1d := decide_eq_false (Nat.not_le.mpr c_1)
        refine J_iconst cx (v := nI 1) dL_begun_20 (by decide) ?_
        refine J_aload_n cx dL_begun_21 rfl 3 rfl ?_
        refine J_iload cx dL_begun_22 0 rfl ?_
        refine J_iconst cx (v := nI 2) dL_begun_24 (by decide) ?_
        refine J_callSi cx kL_101 (As := [.ref (g 10), .int (nI k), .int (nI 2)]) (tL_in l D g A (iA g an 700 M :: iW a9 g K9 X9 c9 l9 p9) k 2 (by omega) (by omega) (by omega)) ⟨rfl, rfl, by first | decide | (simp only [rmK]; omega), by first | decide | (simp only [rmK]; omega)⟩ ⟨by first | decide | (show _ ≤ _; dsimp only; omega), by first | decide | (show _ ≤ _; dsimp only; omega)⟩ rfl rfl (Nat.le_of_ble_eq_true rfl) dL_begun_25 ?_
        intro _ _ hr; cases hr
        have hin_2 := inN_lt (g := g) (i := k) (n := 2) (by omega)
        generalize hg_q2 : inN g k 2 = q2 at *
        have hq2 : q2 < 2 := by assumption
        refine J_iadd cx dL_begun_28 ?_
        refine J_top (v' := .int (nI (1 + q2))) (congrArg Value.int (nI_add 1 q2)) ?_
        have hnm := nm_12 hq2
        refine J_istore cx (L' := [(6, .int (nI (1 + q2))), (5, .int (nI k)), (4, .int (nI 1)), (3, .ref (a9 0 0)), (0, .ref (g 10)), (1, .ref an), (2, .int (nI 8))]) dL_begun_29 (by decide) rfl ?_
        refine J_iconst cx (v := nI 1) dL_begun_31 (by decide) ?_
        refine J_aload_n cx dL_begun_32 rfl 4 rfl ?_
        refine J_iconst cx (v := nI 2) dL_begun_33 (by decide) ?_
        refine J_iload cx dL_begun_34 1 rfl ?_
        refine J_iadd cx dL_begun_36 ?_
        refine J_top (v' := .int (nI (2 + k))) (congrArg Value.int (nI_add 2 k)) ?_
        refine J_iconst cx (v := nI 5) dL_begun_37 (by decide) ?_
        refine J_callSi cx kL_101 (As := [.ref (g 10), .int (nI (2 + k)), .int (nI 5)]) (tL_in l D g A (iA g an 700 M :: iW a9 g K9 X9 c9 l9 p9) (2 + k) 5 (by omega) (by omega) (by omega)) ⟨rfl, rfl, by first | decide | (simp only [rmK]; omega), by first | decide | (simp only [rmK]; omega)⟩ ⟨by first | decide | (show _ ≤ _; dsimp only; omega), by first | decide | (show _ ≤ _; dsimp only; omega)⟩ rfl rfl (Nat.le_of_ble_eq_true rfl) dL_begun_38 ?_
        intro _ _ hr; cases hr
        have hin_3 := inN_lt (g := g) (i := (2 + k)) (n := 5) (by omega)
        generalize hg_q5 : inN g (2 + k) 5 = q5 at *
        have hq5 : q5 < 5 := by assumption
        refine J_iadd cx dL_begun_41 ?_
        refine J_top (v' := .int (nI (1 + q5))) (congrArg Value.int (nI_add 1 q5)) ?_
        have hln := ln_15 hq5
        refine J_istore cx (L' := [(7, .int (nI (1 + q5))), (6, .int (nI (1 + q2))), (5, .int (nI k)), (4, .int (nI 1)), (3, .ref (a9 0 0)), (0, .ref (g 10)), (1, .ref an), (2, .int (nI 8))]) dL_begun_42 (by decide) rfl ?_
        refine J_iload cx dL_begun_44 3 rfl ?_
        refine J_aload_n cx dL_begun_46 rfl 4 rfl ?_
        refine J_iload cx dL_begun_47 1 rfl ?_
        refine J_bipush cx (v := nI 60) dL_begun_49 (by decide) ?_
        refine J_iload cx dL_begun_51 0 rfl ?_
        refine J_callHi cx kL_141 (As := [.ref (a9 0 0), .int (nI (1 + q2)), .int (nI 60), .int (nI (1 + q5))]) (frI (w := iW a9 g K9 X9 c9 l9 p9) (wr := [iA g an 700 M]) (W' := fun (u : UT) => wT g ((opMakeRoot K9 (nI (1 + q2)) (nI 60) (nI (1 + q5))).2.2) u) (W2 := fun (u : UT) => iA g an 700 M :: wT g ((opMakeRoot K9 (nI (1 + q2)) (nI 60) (nI (1 + q5))).2.2) u) (pm_1 _ _) (fun u => (pm_1 _ _).symm) (tL_makeRoot l D g _ a9 K9 X9 c9 l9 p9 (nI (1 + q2)) (nI 60) (nI (1 + q5)) htr hV9 hw9 hk9 (by omega))) ⟨rfl, rfl, by first | decide | (simp only [rmK]; omega), by first | decide | (simp only [rmK]; omega)⟩ ⟨by first | decide | (show _ ≤ _; dsimp only; omega), by first | decide | (show _ ≤ _; dsimp only; omega)⟩ rfl rfl (Nat.le_of_ble_eq_true rfl) dL_begun_53 ?_
        intro r53 u53 hu53; obtain ⟨hr53, hz53, hv53⟩ := hu53
        generalize hK53 : (opMakeRoot K9 (nI (1 + q2)) (nI 60) (nI (1 + q5))).2.2 = K53 at *
        have E53 := op_root_ok hnm dy_60 hln (show K9.2.2.1 0 ≠ 40 by omega)
        have hL53 : LAW (rtN M (K9.2.2.1 0) (K9.2.2.1 1) (nI (1 + q2)) (nI 60) (nI (1 + q5))) K53 := by rw [← hK53, E53]; exact bg_root hB9 hF9 (by omega) _ _ hnm (by omega)
        have hn53 : K53.2.2.1 0 = k + 1 := by rw [← hK53, E53]; exact RK_n.trans (by omega)
        have hr53k : K53.2.1 1 k = true := by rw [← hK53, E53]; exact (congrArg ((RK K9 (nI (1 + q2)) (nI 60) (1 + q5)).2.1 1) e9.symm).trans RK_r
        have hd53 : K53.2.2.1 2 ≤ 2000 * k + 999 := by rw [← hK53]; exact Nat.le_trans (dy_root hV9 hw9 hk9 (by omega)) (by omega)
        have h253 : ∀ i, i < k → K53.2.1 2 i = true := fun i hi => by rw [← hK53, E53]; exact RK_2.trans (hB9.2.2.2 i hi)
        have hn4_53 : K53.2.2.1 0 ≤ 40 := hv53.1.1.1
        refine J_Le (L' := [(7, .int (nI (1 + q5))), (6, .int (nI (1 + q2))), (5, .int (nI k)), (4, .int (nI 1)), (3, .ref (u53.1 0 0)), (0, .ref (g 10)), (1, .ref an), (2, .int (nI 8))]) (by rw [hz53]) ?_
        refine J_aload_n cx dL_begun_56 rfl 6 rfl ?_
        refine J_iload cx dL_begun_57 1 rfl ?_
        refine J_bipush cx (v := nI 60) dL_begun_59 (by decide) ?_
        refine J_iload cx dL_begun_61 0 rfl ?_
        refine J_callSi cx kL_144 (As := [.ref an, .int (nI (1 + q2)), .int (nI 60), .int (nI (1 + q5))]) (tL_root l D g A an M (iW u53.1 g K53 u53.2.1 u53.2.2.1 u53.2.2.2.1 u53.2.2.2.2) (K9.2.2.1 0) (K9.2.2.1 1) (nI (1 + q2)) (nI 60) (nI (1 + q5)) hB9.1.n0 hB9.1.n1 (by omega)) ⟨rfl, rfl, by first | decide | (simp only [rmK]; omega), by first | decide | (simp only [rmK]; omega)⟩ ⟨by first | decide | (show _ ≤ _; dsimp only; omega), by first | decide | (show _ ≤ _; dsimp only; omega)⟩ rfl rfl (Nat.le_of_ble_eq_true rfl) dL_begun_63 ?_
        intro _ _ hr; cases hr
        refine J_icmp_ne cx (tgt := 73) dL_begun_66 (by decide) (fun c_4 => ?_) (fun c_4 => ?_)
        · have c_4d := decide_eq_false c_4
          exact absurd (hr53.trans (by rw [E53]; exact adI_0 _)) c_4
        · have c_4d := decide_eq_true c_4
          refine J_iconst cx (v := nI 1) dL_begun_69 (by decide) ?_
          refine J_goto cx (tgt := 74) dL_begun_70 (by decide) ?_
          refine J_iand cx dL_begun_74 ?_
          refine J_top (v' := .int (zb (true && true))) (congrArg Value.int (zb_and true true)) ?_
          refine J_top (v' := .int (nI 1)) rfl ?_
          refine J_istore cx (L' := [(4, .int (nI 1)), (7, .int (nI (1 + q5))), (6, .int (nI (1 + q2))), (5, .int (nI k)), (3, .ref (u53.1 0 0)), (0, .ref (g 10)), (1, .ref an), (2, .int (nI 8))]) dL_begun_75 (by decide) rfl ?_
          refine J_iload cx dL_begun_77 0 rfl ?_
          refine J_aload_n cx dL_begun_79 rfl 4 rfl ?_
          refine J_iload cx dL_begun_80 3 rfl ?_
          refine J_iconst cx (v := nI 1) dL_begun_82 (by decide) ?_
          refine J_callHi cx kL_165 (As := [.ref (u53.1 0 0), .int (nI k), .int (nI 1)]) (frI (w := iW u53.1 g K53 u53.2.1 u53.2.2.1 u53.2.2.2.1 u53.2.2.2.2) (wr := [iA g an 700 (rtN M (K9.2.2.1 0) (K9.2.2.1 1) (nI (1 + q2)) (nI 60) (nI (1 + q5)))]) (W' := fun (u : UT) => wT g ((opTrust K53 (nI k) true).2.2) u) (W2 := fun (u : UT) => iA g an 700 (rtN M (K9.2.2.1 0) (K9.2.2.1 1) (nI (1 + q2)) (nI 60) (nI (1 + q5))) :: wT g ((opTrust K53 (nI k) true).2.2) u) (pm_1 _ _) (fun u => (pm_1 _ _).symm) (tL_trust l D g _ u53.1 K53 u53.2.1 u53.2.2.1 u53.2.2.2.1 u53.2.2.2.2 (nI k) true htr hv53.1 hv53.2.1 hv53.2.2 (by omega))) ⟨rfl, rfl, by first | decide | (simp only [rmK]; omega), by first | decide | (simp only [rmK]; omega)⟩ ⟨by first | decide | (show _ ≤ _; dsimp only; omega), by first | decide | (show _ ≤ _; dsimp only; omega)⟩ rfl rfl (Nat.le_of_ble_eq_true rfl) dL_begun_83 ?_
          intro r83 u83 hu83; obtain ⟨hr83, hz83, hv83⟩ := hu83
          generalize hK83 : (opTrust K53 (nI k) true).2.2 = K83 at *
          have E83 := op_trust_ok (κ := K53) (ci := k) (b := true) (by omega) hn4_53 hr53k
          obtain ⟨hB83, hc83⟩ := bg_next hL53 hn4_53 hn53 hr53k h253
          have hB83 : BG (upd (rtN M (K9.2.2.1 0) (K9.2.2.1 1) (nI (1 + q2)) (nI 60) (nI (1 + q5))) (10 + 14 * k + 12) (nI 1)) K83 (k + 1) := by rw [← hK83, E83]; exact hB83
          have hd83 : K83.2.2.1 2 ≤ 2000 * (k + 1) := by rw [← hK83]; exact Nat.le_trans dy_trust (by omega)
          refine J_Le (L' := [(4, .int (nI 1)), (7, .int (nI (1 + q5))), (6, .int (nI (1 + q2))), (5, .int (nI k)), (3, .ref (u83.1 0 0)), (0, .ref (g 10)), (1, .ref an), (2, .int (nI 8))]) (by rw [hz83]) ?_
          refine J_iload cx dL_begun_86 3 rfl ?_
          refine J_iconst cx (v := nI 1) dL_begun_88 (by decide) ?_
          refine J_iadd cx dL_begun_89 ?_
          refine J_top (v' := .int (nI (k + 1))) (congrArg Value.int (nI_add k 1)) ?_
          refine J_icmp_ne cx (tgt := 97) dL_begun_90 (by decide) (fun c_5 => ?_) (fun c_5 => ?_)
          · have c_5d := decide_eq_false c_5
            exact absurd (hr83.trans (by rw [E83]; exact (adI_0 _).trans (congrArg nI hc83))) c_5
          · have c_5d := decide_eq_true c_5
            refine J_iconst cx (v := nI 1) dL_begun_93 (by decide) ?_
            refine J_goto cx (tgt := 98) dL_begun_94 (by decide) ?_
            refine J_iand cx dL_begun_98 ?_
            refine J_top (v' := .int (zb (true && true))) (congrArg Value.int (zb_and true true)) ?_
            refine J_top (v' := .int (nI 1)) rfl ?_
            refine J_istore cx (L' := [(4, .int (nI 1)), (7, .int (nI (1 + q5))), (6, .int (nI (1 + q2))), (5, .int (nI k)), (3, .ref (u83.1 0 0)), (0, .ref (g 10)), (1, .ref an), (2, .int (nI 8))]) dL_begun_99 (by decide) rfl ?_
            refine J_aload_n cx dL_begun_101 rfl 6 rfl ?_
            refine J_bipush cx (v := nI 22) dL_begun_102 (by decide) ?_
            refine J_bipush cx (v := nI 14) dL_begun_104 (by decide) ?_
            refine J_iload cx dL_begun_106 3 rfl ?_
            refine J_imul cx dL_begun_108 ?_
            refine J_top (v' := .int (nI (14 * k))) (congrArg Value.int (pk_mul 14 k)) ?_
            refine J_iadd cx dL_begun_109 ?_
            refine J_top (v' := .int (nI (22 + (14 * k)))) (congrArg Value.int (nI_add 22 (14 * k))) ?_
            refine J_iconst cx (v := nI 1) dL_begun_110 (by decide) ?_
            refine J_iast cx (ws' := (iA g an 700 (upd (rtN M (K9.2.2.1 0) (K9.2.2.1 1) (nI (1 + q2)) (nI 60) (nI (1 + q5))) (10 + 14 * k + 12) (nI 1)) :: iW u83.1 g K83 u83.2.1 u83.2.2.1 u83.2.2.2.1 u83.2.2.2.2)) (j := (10 + 14 * k + 12)) 0 rfl (congrArg nI (by omega)) (by omega) (by decide) rfl dL_begun_111 ?_
            refine J_iinc cx (v := (nI (k + 1))) (L' := [(5, .int (nI (k + 1))), (4, .int (nI 1)), (7, .int (nI (1 + q5))), (6, .int (nI (1 + q2))), (3, .ref (u83.1 0 0)), (0, .ref (g 10)), (1, .ref an), (2, .int (nI 8))]) dL_begun_112 3 rfl (by exact nI_add k 1) (by decide) rfl ?_
            refine J_goto cx (tgt := 14) dL_begun_115 (by decide) ?_
            refine J_L [0, 1, 4, 5, 6, 7] rfl ?_
            refine J_widen (k := 17 + 10 * (k + 1)) (n := 233 + 60 * (k + 1)) (by omega) (by omega) ?_
            exact ih (k + 1) _ _ _ _ _ _ _ (by omega) hv83.1 hv83.2.1 hv83.2.2 hB83 hd83 (by omega)
  refine J_L [0, 1, 2, 3, 4, 5] rfl ?_
  refine J_widen (k := 17 + 10 * 0) (n := 233 + 60 * 0) (by omega) (by omega) ?_
  exact LB _ 0 N00 (fun _ => u0) kap0 X00 cs00 lf00 pr00 (by decide) IV_0 WV_0 (Nat.le_refl 0) bg_0 (Nat.zero_le _) (Nat.lt_succ_self _)
