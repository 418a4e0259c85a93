set_option maxHeartbeats 4000000 in
set_option maxRecDepth 100000 in
theorem kp_a {p : Program} {l : Launch} {e : Env} {s : State} {m : MethodId} {args : Array Value} {below : List Frame} {meth : Method} {c : Code} {D : va_G} {g : Nat → ClassId} {A : Nat → Prop} {an : Nat} {N : Nat → Int32} {ad : Nat → Nat → Nat} {κ : CS} {X : XT} {cs : Nat → CT} {lf : Nat → Int64} {pr : PT} {i : Nat} {ci : Nat} (htr : l.stackTraces = false) (hV : IV κ X) (hw : WV κ cs) (hk : κ.2.2.1 1 ≤ κ.2.2.1 0) (hd : κ.2.2.1 2 + 999 < 2147483648) (hL : LAW N κ) (hi : i < 50000) (hci : ci < κ.2.2.1 0) (hA : κ.2.1 0 ci = true) (hpc : cnt (pendB κ (κ.1 1 ci)) (κ.2.2.1 0) ≤ κ.2.2.1 0) (cx : CX p l s m args meth c yL_isKept.cls cL_isKept (some .boolean) 9 D g A) : J p l e ({ frames := 9, cells := 2, slots := 12, locals := 157 } : Room) s m args below meth c D A 9 (MQ below (va_Qi (fun (r : Int32) (u : LT) => r = nI 1 ∧ u.2.2.1 0 = ad 0 ∧ LI u ∧ u.2.1.2.2.1 2 ≤ κ.2.2.1 2 + 999) (fun u => PO D A (wL g an u)) A) args s 2 12 A) 0 0 (iA g an 700 N :: iW ad g κ X cs lf pr) [(6, .int (nI (cnt (pendB κ (κ.1 1 ci)) (κ.2.2.1 0)))), (0, .ref (ad 0 0)), (1, .ref an), (2, .ref (g 10)), (3, .int (nI i)), (4, .int (nI ci)), (5, .int (nI (10 + 14 * ci)))] 154 [] := by
  have hN := hL.1
  have hI := hV.2.2.2.1
  have hn := hV.1.1
  have hF := hV.2.2.2.2.1
  have h1n := hL.2.1
  refine J_iconst cx (v := nI 0) dL_isKept_154 (by decide) ?_
  refine J_istore cx (L' := [(7, .int (nI 0)), (6, .int (nI (cnt (pendB κ (κ.1 1 ci)) (κ.2.2.1 0)))), (0, .ref (ad 0 0)), (1, .ref an), (2, .ref (g 10)), (3, .int (nI i)), (4, .int (nI ci)), (5, .int (nI (10 + 14 * ci)))]) dL_isKept_155 (by decide) rfl ?_
  have LP : ∀ (fu : Nat) (k : Nat) (M : Nat → Int32), (k ≤ κ.2.2.1 0) → (LAW M (pubI κ (κ.1 1 ci) k, κ.2)) → κ.2.2.1 0 - k < fu → J p l e ({ frames := 9, cells := 2, slots := 12, locals := 157 } : Room) s m args below meth c D A 9 (MQ below (va_Qi (fun (r : Int32) (u : LT) => r = nI 1 ∧ u.2.2.1 0 = ad 0 ∧ LI u ∧ u.2.1.2.2.1 2 ≤ κ.2.2.1 2 + 999) (fun u => PO D A (wL g an u)) A) args s 2 12 A) 0 0 (iA g an 700 M :: iW ad g κ X cs lf pr) [(7, .int (nI k)), (6, .int (nI (cnt (pendB κ (κ.1 1 ci)) (κ.2.2.1 0)))), (0, .ref (ad 0 0)), (1, .ref an), (2, .ref (g 10)), (3, .int (nI i)), (4, .int (nI ci)), (5, .int (nI (10 + 14 * ci)))] 157 [] := by
    intro fu; induction fu with
    | zero => intro k M hkk hM hfu; exact absurd hfu (Nat.not_lt_zero _)
    | succ fu ih =>
      intro k M hkk hM hfu
      refine J_iload cx dL_isKept_157 0 rfl ?_
      refine J_aload_n cx dL_isKept_159 rfl 3 rfl ?_
      refine J_iconst cx (v := nI 0) dL_isKept_160 (by decide) ?_
      refine J_iald cx (j := 0) (f := M) 0 rfl rfl (by omega) (by decide) dL_isKept_161 ?_
      refine J_top (v' := .int (nI (κ.2.2.1 0))) (congrArg Value.int hM.1.n0) ?_
      refine J_icmp_ge cx (tgt := 242) dL_isKept_162 (by decide) (fun c_1 => ?_) (fun c_1 => ?_)
      · have c_1 := (nat_ic_ge (by omega) (by omega)).mp c_1
        have c_1d := decide_eq_true c_1
        have hLp : LAW M (pubI κ (κ.1 1 ci) (κ.2.2.1 0), κ.2) := by first | exact pub_any c_1 hM | (have e9 : k = κ.2.2.1 0 := (by omega); rw [← e9]; exact hM)
        refine J_aload_n cx dL_isKept_242 rfl 2 rfl ?_
        refine J_iload cx dL_isKept_243 6 rfl ?_
        refine J_callHi cx kL_174 (As := [.ref (ad 0 0), .int (nI ci)]) (frI (w := iW ad g κ X cs lf pr) (wr := [iA g an 700 M]) (W' := fun (u : UT) => wT g ((opPublish κ (nI ci)).2.2) u) (W2 := fun (u : UT) => iA g an 700 M :: wT g ((opPublish κ (nI ci)).2.2) u) (pm_1 _ _) (fun u => (pm_1 _ _).symm) (tL_publish l D g _ ad κ X cs lf pr (nI ci) htr hV hw hk hd)) ⟨rfl, rfl, by decide, by decide⟩ ⟨by decide, by decide⟩ rfl rfl (Nat.le_of_ble_eq_true rfl) dL_isKept_245 ?_
        intro r245 u245 hu245; obtain ⟨hr245, hz245, hv245⟩ := hu245
        generalize hK245 : (opPublish κ (nI ci)).2.2 = K245 at *
        refine J_iload cx dL_isKept_248 1 rfl ?_
        refine J_icmp_ne cx (tgt := 257) dL_isKept_250 (by decide) (fun c_2 => ?_) (fun c_2 => ?_)
        · have c_2d := decide_eq_false c_2
          exact absurd (hr245.trans (by rw [op_publish_ok hci hn hA]; exact adI_0 _)) c_2
        · have c_2d := decide_eq_true c_2
          refine J_iconst cx (v := nI 1) dL_isKept_253 (by decide) ?_
          refine J_goto cx (tgt := 258) dL_isKept_254 (by decide) ?_
          have LAWf : LAW M K245 := (by rw [← hK245, op_publish_ok hci hn hA]; exact hLp)
          have DYf : K245.2.2.1 2 ≤ κ.2.2.1 2 + 999 := (by rw [← hK245]; exact dy_publish)
          exact J_end cx rfl hz245 hv245 LAWf DYf (Nat.le_of_ble_eq_true rfl) (Nat.le_of_ble_eq_true rfl) dL_isKept_258
      · have c_1 := (nat_ic_ge_f (by omega) (by omega)).mp c_1
        have c_1d := decide_eq_false (Nat.not_le.mpr c_1)
        refine J_iload cx dL_isKept_165 1 rfl ?_
        refine J_if_le cx (tgt := 242) dL_isKept_167 (by decide) (fun c_3 => ?_) (fun c_3 => ?_)
        · have c_3 := (nat_if_le (by omega)).mp c_3
          have hLp : LAW M (pubI κ (κ.1 1 ci) (κ.2.2.1 0), κ.2) := by first | exact pub_any c_3 hM | (have e9 : k = κ.2.2.1 0 := (by omega); rw [← e9]; exact hM)
          refine J_aload_n cx dL_isKept_242 rfl 2 rfl ?_
          refine J_iload cx dL_isKept_243 6 rfl ?_
          refine J_callHi cx kL_174 (As := [.ref (ad 0 0), .int (nI ci)]) (frI (w := iW ad g κ X cs lf pr) (wr := [iA g an 700 M]) (W' := fun (u : UT) => wT g ((opPublish κ (nI ci)).2.2) u) (W2 := fun (u : UT) => iA g an 700 M :: wT g ((opPublish κ (nI ci)).2.2) u) (pm_1 _ _) (fun u => (pm_1 _ _).symm) (tL_publish l D g _ ad κ X cs lf pr (nI ci) htr hV hw hk hd)) ⟨rfl, rfl, by decide, by decide⟩ ⟨by decide, by decide⟩ rfl rfl (Nat.le_of_ble_eq_true rfl) dL_isKept_245 ?_
          intro r245 u245 hu245; obtain ⟨hr245, hz245, hv245⟩ := hu245
          generalize hK245 : (opPublish κ (nI ci)).2.2 = K245 at *
          refine J_iload cx dL_isKept_248 1 rfl ?_
          refine J_icmp_ne cx (tgt := 257) dL_isKept_250 (by decide) (fun c_4 => ?_) (fun c_4 => ?_)
          · have c_4d := decide_eq_false c_4
            exact absurd (hr245.trans (by rw [op_publish_ok hci hn hA]; exact adI_0 _)) c_4
          · have c_4d := decide_eq_true c_4
            refine J_iconst cx (v := nI 1) dL_isKept_253 (by decide) ?_
            refine J_goto cx (tgt := 258) dL_isKept_254 (by decide) ?_
            have LAWf : LAW M K245 := (by rw [← hK245, op_publish_ok hci hn hA]; exact hLp)
            have DYf : K245.2.2.1 2 ≤ κ.2.2.1 2 + 999 := (by rw [← hK245]; exact dy_publish)
            exact J_end cx rfl hz245 hv245 LAWf DYf (Nat.le_of_ble_eq_true rfl) (Nat.le_of_ble_eq_true rfl) dL_isKept_258
        · have c_3 := (nat_if_le_f (by omega)).mp c_3
          refine J_bipush cx (v := nI 10) dL_isKept_170 (by decide) ?_
          refine J_bipush cx (v := nI 14) dL_isKept_172 (by decide) ?_
          refine J_iload cx dL_isKept_174 0 rfl ?_
          refine J_imul cx dL_isKept_176 ?_
          refine J_top (v' := .int (nI (14 * k))) (congrArg Value.int (pk_mul 14 k)) ?_
          refine J_iadd cx dL_isKept_177 ?_
          refine J_top (v' := .int (nI (10 + (14 * k)))) (congrArg Value.int (nI_add 10 (14 * k))) ?_
          refine J_istore cx (L' := [(8, .int (nI (10 + (14 * k)))), (7, .int (nI k)), (6, .int (nI (cnt (pendB κ (κ.1 1 ci)) (κ.2.2.1 0)))), (0, .ref (ad 0 0)), (1, .ref an), (2, .ref (g 10)), (3, .int (nI i)), (4, .int (nI ci)), (5, .int (nI (10 + 14 * ci)))]) dL_isKept_178 (by decide) rfl ?_
          refine J_aload_n cx dL_isKept_180 rfl 4 rfl ?_
          refine J_iload cx dL_isKept_181 0 rfl ?_
          refine J_bipush cx (v := nI 10) dL_isKept_183 (by decide) ?_
          refine J_iadd cx dL_isKept_185 ?_
          refine J_top (v' := .int (nI ((10 + (14 * k)) + 10))) (congrArg Value.int (nI_add (10 + (14 * k)) 10)) ?_
          refine J_aload_n cx dL_isKept_186 rfl 4 rfl ?_
          refine J_iload cx dL_isKept_187 0 rfl ?_
          refine J_iconst cx (v := nI 3) dL_isKept_189 (by decide) ?_
          refine J_iadd cx dL_isKept_190 ?_
          refine J_top (v' := .int (nI ((10 + (14 * k)) + 3))) (congrArg Value.int (nI_add (10 + (14 * k)) 3)) ?_
          refine J_iald cx (j := (10 + 14 * k + 3)) (f := M) 0 rfl (congrArg nI (by omega)) (by omega) (by decide) dL_isKept_191 ?_
          refine J_top (v' := .int (κ.1 5 k)) (congrArg Value.int ((hM.1.c3 (by omega)).trans (congrFun (pubI_ne κ _ 5 (by decide) k) k))) ?_
          refine J_aload_n cx dL_isKept_192 rfl 4 rfl ?_
          refine J_iload cx dL_isKept_193 8 rfl ?_
          refine J_iconst cx (v := nI 1) dL_isKept_195 (by decide) ?_
          refine J_iadd cx dL_isKept_196 ?_
          refine J_top (v' := .int (nI ((10 + 14 * ci) + 1))) (congrArg Value.int (nI_add (10 + 14 * ci) 1)) ?_
          refine J_iald cx (j := (10 + 14 * ci + 1)) (f := M) 0 rfl (congrArg nI (by omega)) (by omega) (by decide) dL_isKept_197 ?_
          refine J_top (v' := .int (κ.1 1 ci)) (congrArg Value.int ((hM.1.c1 hci).trans (congrFun (pubI_ne κ _ 1 (by decide) k) ci))) ?_
          refine J_icmp_ne cx (tgt := 228) dL_isKept_198 (by decide) (fun c_5 => ?_) (fun c_5 => ?_)
          · have c_5d := decide_eq_false c_5
            refine J_aload_n cx dL_isKept_228 rfl 4 rfl ?_
            refine J_iload cx dL_isKept_229 0 rfl ?_
            refine J_bipush cx (v := nI 10) dL_isKept_231 (by decide) ?_
            refine J_iadd cx dL_isKept_233 ?_
            refine J_top (v' := .int (nI ((10 + (14 * k)) + 10))) (congrArg Value.int (nI_add (10 + (14 * k)) 10)) ?_
            refine J_iald cx (j := (10 + 14 * k + 10)) (f := M) 0 rfl (congrArg nI (by omega)) (by omega) (by decide) dL_isKept_234 ?_
            refine J_top (v' := .int (κ.1 9 k)) (congrArg Value.int ((hM.1.c10 (by omega)).trans (pubI_ge κ _ k k (Nat.le_refl _) 9))) ?_
            refine J_iast cx (ws' := (iA g an 700 (upd M (10 + 14 * k + 10) (κ.1 9 k)) :: iW ad g κ X cs lf pr)) (j := (10 + 14 * k + 10)) 0 rfl (congrArg nI (by omega)) (by omega) (by decide) rfl dL_isKept_235 ?_
            refine J_iinc cx (v := (nI (k + 1))) (L' := [(7, .int (nI (k + 1))), (8, .int (nI (10 + (14 * k)))), (6, .int (nI (cnt (pendB κ (κ.1 1 ci)) (κ.2.2.1 0)))), (0, .ref (ad 0 0)), (1, .ref an), (2, .ref (g 10)), (3, .int (nI i)), (4, .int (nI ci)), (5, .int (nI (10 + 14 * ci)))]) dL_isKept_236 1 rfl (by exact nI_add k 1) (by decide) rfl ?_
            refine J_goto cx (tgt := 157) dL_isKept_239 (by decide) ?_
            refine J_L [0, 2, 3, 4, 5, 6, 7, 8] rfl ?_
            exact ih (k + 1) _ (by omega) (law_pub hM (by omega) hn (by rw [show pendB κ (κ.1 1 ci) k = false from by simp [pendB, pendF, c_1, c_1d, c_3, c_5, c_5d]]; rfl)) (by omega)
          · have c_5d := decide_eq_true c_5
            refine J_aload_n cx dL_isKept_201 rfl 4 rfl ?_
            refine J_iload cx dL_isKept_202 0 rfl ?_
            refine J_bipush cx (v := nI 11) dL_isKept_204 (by decide) ?_
            refine J_iadd cx dL_isKept_206 ?_
            refine J_top (v' := .int (nI ((10 + (14 * k)) + 11))) (congrArg Value.int (nI_add (10 + (14 * k)) 11)) ?_
            refine J_iald cx (j := (10 + 14 * k + 11)) (f := M) 0 rfl (congrArg nI (by omega)) (by omega) (by decide) dL_isKept_207 ?_
            refine J_top (v' := .int (zb (κ.2.1 3 k))) (congrArg Value.int (hM.1.c11 (by omega))) ?_
            refine J_iconst cx (v := nI 1) dL_isKept_208 (by decide) ?_
            refine J_icmp_ne cx (tgt := 228) dL_isKept_209 (by decide) (fun c_6 => ?_) (fun c_6 => ?_)
            · have c_6 := (zb1n _).mp c_6
              refine J_aload_n cx dL_isKept_228 rfl 4 rfl ?_
              refine J_iload cx dL_isKept_229 0 rfl ?_
              refine J_bipush cx (v := nI 10) dL_isKept_231 (by decide) ?_
              refine J_iadd cx dL_isKept_233 ?_
              refine J_top (v' := .int (nI ((10 + (14 * k)) + 10))) (congrArg Value.int (nI_add (10 + (14 * k)) 10)) ?_
              refine J_iald cx (j := (10 + 14 * k + 10)) (f := M) 0 rfl (congrArg nI (by omega)) (by omega) (by decide) dL_isKept_234 ?_
              refine J_top (v' := .int (κ.1 9 k)) (congrArg Value.int ((hM.1.c10 (by omega)).trans (pubI_ge κ _ k k (Nat.le_refl _) 9))) ?_
              refine J_iast cx (ws' := (iA g an 700 (upd M (10 + 14 * k + 10) (κ.1 9 k)) :: iW ad g κ X cs lf pr)) (j := (10 + 14 * k + 10)) 0 rfl (congrArg nI (by omega)) (by omega) (by decide) rfl dL_isKept_235 ?_
              refine J_iinc cx (v := (nI (k + 1))) (L' := [(7, .int (nI (k + 1))), (8, .int (nI (10 + (14 * k)))), (6, .int (nI (cnt (pendB κ (κ.1 1 ci)) (κ.2.2.1 0)))), (0, .ref (ad 0 0)), (1, .ref an), (2, .ref (g 10)), (3, .int (nI i)), (4, .int (nI ci)), (5, .int (nI (10 + 14 * ci)))]) dL_isKept_236 1 rfl (by exact nI_add k 1) (by decide) rfl ?_
              refine J_goto cx (tgt := 157) dL_isKept_239 (by decide) ?_
              refine J_L [0, 2, 3, 4, 5, 6, 7, 8] rfl ?_
              exact ih (k + 1) _ (by omega) (law_pub hM (by omega) hn (by rw [show pendB κ (κ.1 1 ci) k = false from by simp [pendB, pendF, c_1, c_1d, c_3, c_5d, c_6]]; rfl)) (by omega)
            · have c_6 := (zb1 _).mp c_6
              refine J_aload_n cx dL_isKept_212 rfl 4 rfl ?_
              refine J_iload cx dL_isKept_213 0 rfl ?_
              refine J_bipush cx (v := nI 10) dL_isKept_215 (by decide) ?_
              refine J_iadd cx dL_isKept_217 ?_
              refine J_top (v' := .int (nI ((10 + (14 * k)) + 10))) (congrArg Value.int (nI_add (10 + (14 * k)) 10)) ?_
              refine J_iald cx (j := (10 + 14 * k + 10)) (f := M) 0 rfl (congrArg nI (by omega)) (by omega) (by decide) dL_isKept_218 ?_
              refine J_top (v' := .int (κ.1 9 k)) (congrArg Value.int ((hM.1.c10 (by omega)).trans (pubI_ge κ _ k k (Nat.le_refl _) 9))) ?_
              refine J_if_ge cx (tgt := 228) dL_isKept_219 (by decide) (fun c_7 => ?_) (fun c_7 => ?_)
              · have c_7d := decide_eq_true c_7
                have c_7c := decide_eq_false (Int32.not_lt.mpr c_7)
                refine J_aload_n cx dL_isKept_228 rfl 4 rfl ?_
                refine J_iload cx dL_isKept_229 0 rfl ?_
                refine J_bipush cx (v := nI 10) dL_isKept_231 (by decide) ?_
                refine J_iadd cx dL_isKept_233 ?_
                refine J_top (v' := .int (nI ((10 + (14 * k)) + 10))) (congrArg Value.int (nI_add (10 + (14 * k)) 10)) ?_
                refine J_iald cx (j := (10 + 14 * k + 10)) (f := M) 0 rfl (congrArg nI (by omega)) (by omega) (by decide) dL_isKept_234 ?_
                refine J_top (v' := .int (κ.1 9 k)) (congrArg Value.int ((hM.1.c10 (by omega)).trans (pubI_ge κ _ k k (Nat.le_refl _) 9))) ?_
                refine J_iast cx (ws' := (iA g an 700 (upd M (10 + 14 * k + 10) (κ.1 9 k)) :: iW ad g κ X cs lf pr)) (j := (10 + 14 * k + 10)) 0 rfl (congrArg nI (by omega)) (by omega) (by decide) rfl dL_isKept_235 ?_
                refine J_iinc cx (v := (nI (k + 1))) (L' := [(7, .int (nI (k + 1))), (8, .int (nI (10 + (14 * k)))), (6, .int (nI (cnt (pendB κ (κ.1 1 ci)) (κ.2.2.1 0)))), (0, .ref (ad 0 0)), (1, .ref an), (2, .ref (g 10)), (3, .int (nI i)), (4, .int (nI ci)), (5, .int (nI (10 + 14 * ci)))]) dL_isKept_236 1 rfl (by exact nI_add k 1) (by decide) rfl ?_
                refine J_goto cx (tgt := 157) dL_isKept_239 (by decide) ?_
                refine J_L [0, 2, 3, 4, 5, 6, 7, 8] rfl ?_
                exact ih (k + 1) _ (by omega) (law_pub hM (by omega) hn (by rw [show pendB κ (κ.1 1 ci) k = false from by simp [pendB, pendF, c_1, c_1d, c_3, c_5d, c_6, c_7, c_7d, c_7c]]; rfl)) (by omega)
              · have c_7d := decide_eq_false c_7
                have c_7c := decide_eq_true (Int32.not_le.mp c_7)
                refine J_aload_n cx dL_isKept_222 rfl 4 rfl ?_
                refine J_iconst cx (v := nI 2) dL_isKept_223 (by decide) ?_
                refine J_iald cx (j := 2) (f := M) 0 rfl rfl (by omega) (by decide) dL_isKept_224 ?_
                refine J_top (v' := .int (nI (κ.2.2.1 2))) (congrArg Value.int hM.1.n2) ?_
                refine J_goto cx (tgt := 235) dL_isKept_225 (by decide) ?_
                refine J_iast cx (ws' := (iA g an 700 (upd M (10 + 14 * k + 10) (nI (κ.2.2.1 2))) :: iW ad g κ X cs lf pr)) (j := (10 + 14 * k + 10)) 0 rfl (congrArg nI (by omega)) (by omega) (by decide) rfl dL_isKept_235 ?_
                refine J_iinc cx (v := (nI (k + 1))) (L' := [(7, .int (nI (k + 1))), (8, .int (nI (10 + (14 * k)))), (6, .int (nI (cnt (pendB κ (κ.1 1 ci)) (κ.2.2.1 0)))), (0, .ref (ad 0 0)), (1, .ref an), (2, .ref (g 10)), (3, .int (nI i)), (4, .int (nI ci)), (5, .int (nI (10 + 14 * ci)))]) dL_isKept_236 1 rfl (by exact nI_add k 1) (by decide) rfl ?_
                refine J_goto cx (tgt := 157) dL_isKept_239 (by decide) ?_
                refine J_L [0, 2, 3, 4, 5, 6, 7, 8] rfl ?_
                exact ih (k + 1) _ (by omega) (law_pub hM (by omega) hn (by rw [show pendB κ (κ.1 1 ci) k = true from by simp [pendB, pendF, c_1, c_1d, c_3, c_5d, c_6, c_7, c_7d, c_7c]]; rfl)) (by omega)
  refine J_L [0, 1, 2, 3, 4, 5, 6, 7] rfl ?_
  exact LP _ 0 N (Nat.zero_le _) hL (Nat.lt_succ_self _)
set_option maxHeartbeats 4000000 in
set_option maxRecDepth 100000 in
theorem kp_n {p : Program} {l : Launch} {e : Env} {s : State} {m : MethodId} {args : Array Value} {below : List Frame} {meth : Method} {c : Code} {D : va_G} {g : Nat → ClassId} {A : Nat → Prop} {an : Nat} {N : Nat → Int32} {ad : Nat → Nat → Nat} {κ : CS} {X : XT} {cs : Nat → CT} {lf : Nat → Int64} {pr : PT} {i : Nat} {ci : Nat} (htr : l.stackTraces = false) (hV : IV κ X) (hw : WV κ cs) (hk : κ.2.2.1 1 ≤ κ.2.2.1 0) (hd : κ.2.2.1 2 + 999 < 2147483648) (hL : LAW N κ) (hi : i < 50000) (hci : ci < κ.2.2.1 0) (hA : κ.2.1 0 ci = false) (cx : CX p l s m args meth c yL_isKept.cls cL_isKept (some .boolean) 9 D g A) : J p l e ({ frames := 9, cells := 2, slots := 12, locals := 157 } : Room) s m args below meth c D A 9 (MQ below (va_Qi (fun (r : Int32) (u : LT) => r = nI 1 ∧ u.2.2.1 0 = ad 0 ∧ LI u ∧ u.2.1.2.2.1 2 ≤ κ.2.2.1 2 + 999) (fun u => PO D A (wL g an u)) A) args s 2 12 A) 0 0 (iA g an 700 N :: iW ad g κ X cs lf pr) [(6, .int (-900002)), (0, .ref (ad 0 0)), (1, .ref an), (2, .ref (g 10)), (3, .int (nI i)), (4, .int (nI ci)), (5, .int (nI (10 + 14 * ci)))] 154 [] := by
  have hN := hL.1
  have hI := hV.2.2.2.1
  have hn := hV.1.1
  have hF := hV.2.2.2.2.1
  have h1n := hL.2.1
  refine J_iconst cx (v := nI 0) dL_isKept_154 (by decide) ?_
  refine J_istore cx (L' := [(7, .int (nI 0)), (6, .int (-900002)), (0, .ref (ad 0 0)), (1, .ref an), (2, .ref (g 10)), (3, .int (nI i)), (4, .int (nI ci)), (5, .int (nI (10 + 14 * ci)))]) dL_isKept_155 (by decide) rfl ?_
  refine J_iload cx dL_isKept_157 0 rfl ?_
  refine J_aload_n cx dL_isKept_159 rfl 3 rfl ?_
  refine J_iconst cx (v := nI 0) dL_isKept_160 (by decide) ?_
  refine J_iald cx (j := 0) (f := N) 0 rfl rfl (by omega) (by decide) dL_isKept_161 ?_
  refine J_top (v' := .int (nI (κ.2.2.1 0))) (congrArg Value.int hN.n0) ?_
  refine J_icmp_ge cx (tgt := 242) dL_isKept_162 (by decide) (fun c_1 => ?_) (fun c_1 => ?_)
  · have c_1d := decide_eq_true c_1
    have c_1c := decide_eq_false (Int32.not_lt.mpr c_1)
    refine J_aload_n cx dL_isKept_242 rfl 2 rfl ?_
    refine J_iload cx dL_isKept_243 6 rfl ?_
    refine J_callHi cx kL_174 (As := [.ref (ad 0 0), .int (nI ci)]) (frI (w := iW ad g κ X cs lf pr) (wr := [iA g an 700 N]) (W' := fun (u : UT) => wT g ((opPublish κ (nI ci)).2.2) u) (W2 := fun (u : UT) => iA g an 700 N :: wT g ((opPublish κ (nI ci)).2.2) u) (pm_1 _ _) (fun u => (pm_1 _ _).symm) (tL_publish l D g _ ad κ X cs lf pr (nI ci) htr hV hw hk hd)) ⟨rfl, rfl, by decide, by decide⟩ ⟨by decide, by decide⟩ rfl rfl (Nat.le_of_ble_eq_true rfl) dL_isKept_245 ?_
    intro r245 u245 hu245; obtain ⟨hr245, hz245, hv245⟩ := hu245
    generalize hK245 : (opPublish κ (nI ci)).2.2 = K245 at *
    refine J_iload cx dL_isKept_248 1 rfl ?_
    refine J_icmp_ne cx (tgt := 257) dL_isKept_250 (by decide) (fun c_2 => ?_) (fun c_2 => ?_)
    · have c_2d := decide_eq_false c_2
      exact absurd (hr245.trans (by rw [op_publish_no hci hn hA]; rfl)) c_2
    · have c_2d := decide_eq_true c_2
      refine J_iconst cx (v := nI 1) dL_isKept_253 (by decide) ?_
      refine J_goto cx (tgt := 258) dL_isKept_254 (by decide) ?_
      have LAWf : LAW N K245 := (by rw [← hK245, op_publish_no hci hn hA]; exact hL)
      have DYf : K245.2.2.1 2 ≤ κ.2.2.1 2 + 999 := (by rw [← hK245]; exact dy_publish)
      exact J_end cx rfl hz245 hv245 LAWf DYf (Nat.le_of_ble_eq_true rfl) (Nat.le_of_ble_eq_true rfl) dL_isKept_258
  · have c_1d := decide_eq_false c_1
    have c_1c := decide_eq_true (Int32.not_le.mp c_1)
    refine J_iload cx dL_isKept_165 1 rfl ?_
    refine J_if_le cx (tgt := 242) dL_isKept_167 (by decide) (fun _ => ?_) (fun h => absurd h (by decide))
    refine J_aload_n cx dL_isKept_242 rfl 2 rfl ?_
    refine J_iload cx dL_isKept_243 6 rfl ?_
    refine J_callHi cx kL_174 (As := [.ref (ad 0 0), .int (nI ci)]) (frI (w := iW ad g κ X cs lf pr) (wr := [iA g an 700 N]) (W' := fun (u : UT) => wT g ((opPublish κ (nI ci)).2.2) u) (W2 := fun (u : UT) => iA g an 700 N :: wT g ((opPublish κ (nI ci)).2.2) u) (pm_1 _ _) (fun u => (pm_1 _ _).symm) (tL_publish l D g _ ad κ X cs lf pr (nI ci) htr hV hw hk hd)) ⟨rfl, rfl, by decide, by decide⟩ ⟨by decide, by decide⟩ rfl rfl (Nat.le_of_ble_eq_true rfl) dL_isKept_245 ?_
    intro r245 u245 hu245; obtain ⟨hr245, hz245, hv245⟩ := hu245
    generalize hK245 : (opPublish κ (nI ci)).2.2 = K245 at *
    refine J_iload cx dL_isKept_248 1 rfl ?_
    refine J_icmp_ne cx (tgt := 257) dL_isKept_250 (by decide) (fun c_4 => ?_) (fun c_4 => ?_)
    · have c_4d := decide_eq_false c_4
      exact absurd (hr245.trans (by rw [op_publish_no hci hn hA]; rfl)) c_4
    · have c_4d := decide_eq_true c_4
      refine J_iconst cx (v := nI 1) dL_isKept_253 (by decide) ?_
      refine J_goto cx (tgt := 258) dL_isKept_254 (by decide) ?_
      have LAWf : LAW N K245 := (by rw [← hK245, op_publish_no hci hn hA]; exact hL)
      have DYf : K245.2.2.1 2 ≤ κ.2.2.1 2 + 999 := (by rw [← hK245]; exact dy_publish)
      exact J_end cx rfl hz245 hv245 LAWf DYf (Nat.le_of_ble_eq_true rfl) (Nat.le_of_ble_eq_true rfl) dL_isKept_258
set_option maxHeartbeats 4000000 in
set_option maxRecDepth 100000 in
theorem kp_31 {p : Program} {l : Launch} {e : Env} {s : State} {m : MethodId} {args : Array Value} {below : List Frame} {meth : Method} {c : Code} {D : va_G} {g : Nat → ClassId} {A : Nat → Prop} {an : Nat} {N : Nat → Int32} {ad : Nat → Nat → Nat} {κ : CS} {X : XT} {cs : Nat → CT} {lf : Nat → Int64} {pr : PT} {i : Nat} {ci : Nat} (htr : l.stackTraces = false) (hV : IV κ X) (hw : WV κ cs) (hk : κ.2.2.1 1 ≤ κ.2.2.1 0) (hd : κ.2.2.1 2 + 999 < 2147483648) (hL : LAW N κ) (hi : i < 50000) (hci : ci < κ.2.2.1 0) (cx : CX p l s m args meth c yL_isKept.cls cL_isKept (some .boolean) 9 D g A) : J p l e ({ frames := 9, cells := 2, slots := 12, locals := 157 } : Room) s m args below meth c D A 9 (MQ below (va_Qi (fun (r : Int32) (u : LT) => r = nI 1 ∧ u.2.2.1 0 = ad 0 ∧ LI u ∧ u.2.1.2.2.1 2 ≤ κ.2.2.1 2 + 999) (fun u => PO D A (wL g an u)) A) args s 2 12 A) 0 0 (iA g an 700 N :: iW ad g κ X cs lf pr) [(0, .ref (ad 0 0)), (1, .ref an), (2, .ref (g 10)), (3, .int (nI i)), (4, .int (nI ci)), (5, .int (nI (10 + 14 * ci)))] 31 [] := by
  have hN := hL.1
  have hI := hV.2.2.2.1
  have hn := hV.1.1
  have hF := hV.2.2.2.2.1
  have h1n := hL.2.1
  refine J_aload_n cx dL_isKept_31 rfl 1 rfl ?_
  refine J_iload cx dL_isKept_32 5 rfl ?_
  refine J_bipush cx (v := nI 13) dL_isKept_34 (by decide) ?_
  refine J_iadd cx dL_isKept_36 ?_
  refine J_top (v' := .int (nI ((10 + 14 * ci) + 13))) (congrArg Value.int (nI_add (10 + 14 * ci) 13)) ?_
  refine J_iald cx (j := (10 + 14 * ci + 13)) (f := N) 0 rfl (congrArg nI (by omega)) (by omega) (by decide) dL_isKept_37 ?_
  refine J_top (v' := .int (zb (κ.2.1 1 ci))) (congrArg Value.int (hN.c13 (by omega))) ?_
  refine J_ifz_ne cx (tgt := 55) dL_isKept_38 (by decide) (fun c_1 => ?_) (fun c_1 => ?_)
  · refine J_iconst cx (v := nI 0) dL_isKept_55 (by decide) ?_
    refine J_istore cx (L' := [(6, .int (nI 0)), (0, .ref (ad 0 0)), (1, .ref an), (2, .ref (g 10)), (3, .int (nI i)), (4, .int (nI ci)), (5, .int (nI (10 + 14 * ci)))]) dL_isKept_56 (by decide) rfl ?_
    refine J_aload_n cx dL_isKept_58 rfl 2 rfl ?_
    refine J_iload cx dL_isKept_59 6 rfl ?_
    refine J_bipush cx (v := nI 11) dL_isKept_61 (by decide) ?_
    refine J_iadd cx dL_isKept_63 ?_
    refine J_top (v' := .int (nI ((10 + 14 * ci) + 11))) (congrArg Value.int (nI_add (10 + 14 * ci) 11)) ?_
    refine J_iload cx dL_isKept_64 0 rfl ?_
    refine J_if_eq cx (tgt := 73) dL_isKept_66 (by decide) (fun _ => ?_) (fun h => absurd h (by decide))
    refine J_aload_n cx dL_isKept_73 rfl 2 rfl ?_
    refine J_iload cx dL_isKept_74 6 rfl ?_
    refine J_bipush cx (v := nI 11) dL_isKept_76 (by decide) ?_
    refine J_iadd cx dL_isKept_78 ?_
    refine J_top (v' := .int (nI ((10 + 14 * ci) + 11))) (congrArg Value.int (nI_add (10 + 14 * ci) 11)) ?_
    refine J_iald cx (j := (10 + 14 * ci + 11)) (f := N) 0 rfl (congrArg nI (by omega)) (by omega) (by decide) dL_isKept_79 ?_
    refine J_top (v' := .int (zb (κ.2.1 3 ci))) (congrArg Value.int (hN.c11 (by omega))) ?_
    refine J_iast cx (ws' := (iA g an 700 (upd N (10 + 14 * ci + 11) (zb (κ.2.1 3 ci))) :: iW ad g κ X cs lf pr)) (j := (10 + 14 * ci + 11)) 0 rfl (congrArg nI (by omega)) (by omega) (by decide) rfl dL_isKept_80 ?_
    refine J_ws (ws' := (iA g an 700 N :: iW ad g κ X cs lf pr)) (by rw [show upd N (10 + 14 * ci + 11) (zb (κ.2.1 3 ci)) = N from (upd_id (hN.c11 hci))]) ?_
    refine J_aload_n cx dL_isKept_81 rfl 1 rfl ?_
    refine J_iload cx dL_isKept_82 5 rfl ?_
    refine J_callHi cx kL_168 (As := [.ref (ad 0 0), .int (nI ci)]) (frI (w := iW ad g κ X cs lf pr) (wr := [iA g an 700 N]) (W' := fun (u : UT) => wT g ((opRevoke κ (nI ci)).2.2) u) (W2 := fun (u : UT) => iA g an 700 N :: wT g ((opRevoke κ (nI ci)).2.2) u) (pm_1 _ _) (fun u => (pm_1 _ _).symm) (tL_revoke l D g _ ad κ X cs lf pr (nI ci) htr hV hw hk hd)) ⟨rfl, rfl, by decide, by decide⟩ ⟨by decide, by decide⟩ rfl rfl (Nat.le_of_ble_eq_true rfl) dL_isKept_84 ?_
    intro r84 u84 hu84; obtain ⟨hr84, hz84, hv84⟩ := hu84
    generalize hK84 : (opRevoke κ (nI ci)).2.2 = K84 at *
    refine J_iload cx dL_isKept_87 0 rfl ?_
    refine J_if_eq cx (tgt := 105) dL_isKept_89 (by decide) (fun _ => ?_) (fun h => absurd h (by decide))
    refine J_ldc cx (v := (-900002)) dL_isKept_105 cL_33 ?_
    refine J_icmp_ne cx (tgt := 114) dL_isKept_107 (by decide) (fun c_4 => ?_) (fun c_4 => ?_)
    · have c_4d := decide_eq_false c_4
      exact absurd (hr84.trans (by rw [op_revoke_no hci hn (by simp [c_1])]; rfl)) c_4
    · have c_4d := decide_eq_true c_4
      refine J_iconst cx (v := nI 1) dL_isKept_110 (by decide) ?_
      refine J_goto cx (tgt := 115) dL_isKept_111 (by decide) ?_
      have LAWf : LAW N K84 := (by rw [← hK84, op_revoke_no hci hn (by simp [c_1])]; exact hL)
      have DYf : K84.2.2.1 2 ≤ κ.2.2.1 2 + 999 := (by rw [← hK84]; exact dy_revoke)
      exact J_end cx rfl hz84 hv84 LAWf DYf (Nat.le_of_ble_eq_true rfl) (Nat.le_of_ble_eq_true rfl) dL_isKept_115
  · refine J_aload_n cx dL_isKept_41 rfl 1 rfl ?_
    refine J_iload cx dL_isKept_42 5 rfl ?_
    refine J_bipush cx (v := nI 11) dL_isKept_44 (by decide) ?_
    refine J_iadd cx dL_isKept_46 ?_
    refine J_top (v' := .int (nI ((10 + 14 * ci) + 11))) (congrArg Value.int (nI_add (10 + 14 * ci) 11)) ?_
    refine J_iald cx (j := (10 + 14 * ci + 11)) (f := N) 0 rfl (congrArg nI (by omega)) (by omega) (by decide) dL_isKept_47 ?_
    refine J_top (v' := .int (zb (κ.2.1 3 ci))) (congrArg Value.int (hN.c11 (by omega))) ?_
    refine J_ifz_ne cx (tgt := 55) dL_isKept_48 (by decide) (fun c_5 => ?_) (fun c_5 => ?_)
    · refine J_iconst cx (v := nI 0) dL_isKept_55 (by decide) ?_
      refine J_istore cx (L' := [(6, .int (nI 0)), (0, .ref (ad 0 0)), (1, .ref an), (2, .ref (g 10)), (3, .int (nI i)), (4, .int (nI ci)), (5, .int (nI (10 + 14 * ci)))]) dL_isKept_56 (by decide) rfl ?_
      refine J_aload_n cx dL_isKept_58 rfl 2 rfl ?_
      refine J_iload cx dL_isKept_59 6 rfl ?_
      refine J_bipush cx (v := nI 11) dL_isKept_61 (by decide) ?_
      refine J_iadd cx dL_isKept_63 ?_
      refine J_top (v' := .int (nI ((10 + 14 * ci) + 11))) (congrArg Value.int (nI_add (10 + 14 * ci) 11)) ?_
      refine J_iload cx dL_isKept_64 0 rfl ?_
      refine J_if_eq cx (tgt := 73) dL_isKept_66 (by decide) (fun _ => ?_) (fun h => absurd h (by decide))
      refine J_aload_n cx dL_isKept_73 rfl 2 rfl ?_
      refine J_iload cx dL_isKept_74 6 rfl ?_
      refine J_bipush cx (v := nI 11) dL_isKept_76 (by decide) ?_
      refine J_iadd cx dL_isKept_78 ?_
      refine J_top (v' := .int (nI ((10 + 14 * ci) + 11))) (congrArg Value.int (nI_add (10 + 14 * ci) 11)) ?_
      refine J_iald cx (j := (10 + 14 * ci + 11)) (f := N) 0 rfl (congrArg nI (by omega)) (by omega) (by decide) dL_isKept_79 ?_
      refine J_top (v' := .int (zb (κ.2.1 3 ci))) (congrArg Value.int (hN.c11 (by omega))) ?_
      refine J_iast cx (ws' := (iA g an 700 (upd N (10 + 14 * ci + 11) (zb (κ.2.1 3 ci))) :: iW ad g κ X cs lf pr)) (j := (10 + 14 * ci + 11)) 0 rfl (congrArg nI (by omega)) (by omega) (by decide) rfl dL_isKept_80 ?_
      refine J_ws (ws' := (iA g an 700 N :: iW ad g κ X cs lf pr)) (by rw [show upd N (10 + 14 * ci + 11) (zb (κ.2.1 3 ci)) = N from (upd_id (hN.c11 hci))]) ?_
      refine J_aload_n cx dL_isKept_81 rfl 1 rfl ?_
      refine J_iload cx dL_isKept_82 5 rfl ?_
      refine J_callHi cx kL_168 (As := [.ref (ad 0 0), .int (nI ci)]) (frI (w := iW ad g κ X cs lf pr) (wr := [iA g an 700 N]) (W' := fun (u : UT) => wT g ((opRevoke κ (nI ci)).2.2) u) (W2 := fun (u : UT) => iA g an 700 N :: wT g ((opRevoke κ (nI ci)).2.2) u) (pm_1 _ _) (fun u => (pm_1 _ _).symm) (tL_revoke l D g _ ad κ X cs lf pr (nI ci) htr hV hw hk hd)) ⟨rfl, rfl, by decide, by decide⟩ ⟨by decide, by decide⟩ rfl rfl (Nat.le_of_ble_eq_true rfl) dL_isKept_84 ?_
      intro r84 u84 hu84; obtain ⟨hr84, hz84, hv84⟩ := hu84
      generalize hK84 : (opRevoke κ (nI ci)).2.2 = K84 at *
      refine J_iload cx dL_isKept_87 0 rfl ?_
      refine J_if_eq cx (tgt := 105) dL_isKept_89 (by decide) (fun _ => ?_) (fun h => absurd h (by decide))
      refine J_ldc cx (v := (-900002)) dL_isKept_105 cL_33 ?_
      refine J_icmp_ne cx (tgt := 114) dL_isKept_107 (by decide) (fun c_8 => ?_) (fun c_8 => ?_)
      · have c_8d := decide_eq_false c_8
        exact absurd (hr84.trans (by rw [op_revoke_no hci hn (by simp [c_1, c_5])]; rfl)) c_8
      · have c_8d := decide_eq_true c_8
        refine J_iconst cx (v := nI 1) dL_isKept_110 (by decide) ?_
        refine J_goto cx (tgt := 115) dL_isKept_111 (by decide) ?_
        have LAWf : LAW N K84 := (by rw [← hK84, op_revoke_no hci hn (by simp [c_1, c_5])]; exact hL)
        have DYf : K84.2.2.1 2 ≤ κ.2.2.1 2 + 999 := (by rw [← hK84]; exact dy_revoke)
        exact J_end cx rfl hz84 hv84 LAWf DYf (Nat.le_of_ble_eq_true rfl) (Nat.le_of_ble_eq_true rfl) dL_isKept_115
    · refine J_iconst cx (v := nI 1) dL_isKept_51 (by decide) ?_
      refine J_goto cx (tgt := 56) dL_isKept_52 (by decide) ?_
      refine J_istore cx (L' := [(6, .int (nI 1)), (0, .ref (ad 0 0)), (1, .ref an), (2, .ref (g 10)), (3, .int (nI i)), (4, .int (nI ci)), (5, .int (nI (10 + 14 * ci)))]) dL_isKept_56 (by decide) rfl ?_
      refine J_aload_n cx dL_isKept_58 rfl 2 rfl ?_
      refine J_iload cx dL_isKept_59 6 rfl ?_
      refine J_bipush cx (v := nI 11) dL_isKept_61 (by decide) ?_
      refine J_iadd cx dL_isKept_63 ?_
      refine J_top (v' := .int (nI ((10 + 14 * ci) + 11))) (congrArg Value.int (nI_add (10 + 14 * ci) 11)) ?_
      refine J_iload cx dL_isKept_64 0 rfl ?_
      refine J_if_eq cx (tgt := 73) dL_isKept_66 (by decide) (fun h => absurd h (by decide)) (fun _ => ?_)
      refine J_iconst cx (v := nI 1) dL_isKept_69 (by decide) ?_
      refine J_goto cx (tgt := 80) dL_isKept_70 (by decide) ?_
      refine J_iast cx (ws' := (iA g an 700 (upd N (10 + 14 * ci + 11) (nI 1)) :: iW ad g κ X cs lf pr)) (j := (10 + 14 * ci + 11)) 0 rfl (congrArg nI (by omega)) (by omega) (by decide) rfl dL_isKept_80 ?_
      have hLm := law_mark hL hci hn
      refine J_aload_n cx dL_isKept_81 rfl 1 rfl ?_
      refine J_iload cx dL_isKept_82 5 rfl ?_
      refine J_callHi cx kL_168 (As := [.ref (ad 0 0), .int (nI ci)]) (frI (w := iW ad g κ X cs lf pr) (wr := [iA g an 700 (upd N (10 + 14 * ci + 11) (nI 1))]) (W' := fun (u : UT) => wT g ((opRevoke κ (nI ci)).2.2) u) (W2 := fun (u : UT) => iA g an 700 (upd N (10 + 14 * ci + 11) (nI 1)) :: wT g ((opRevoke κ (nI ci)).2.2) u) (pm_1 _ _) (fun u => (pm_1 _ _).symm) (tL_revoke l D g _ ad κ X cs lf pr (nI ci) htr hV hw hk hd)) ⟨rfl, rfl, by decide, by decide⟩ ⟨by decide, by decide⟩ rfl rfl (Nat.le_of_ble_eq_true rfl) dL_isKept_84 ?_
      intro r84 u84 hu84; obtain ⟨hr84, hz84, hv84⟩ := hu84
      generalize hK84 : (opRevoke κ (nI ci)).2.2 = K84 at *
      refine J_iload cx dL_isKept_87 0 rfl ?_
      refine J_if_eq cx (tgt := 105) dL_isKept_89 (by decide) (fun h => absurd h (by decide)) (fun _ => ?_)
      refine J_aload_n cx dL_isKept_92 rfl 2 rfl ?_
      refine J_aload_n cx dL_isKept_93 rfl 2 rfl ?_
      refine J_iload cx dL_isKept_94 6 rfl ?_
      refine J_iconst cx (v := nI 3) dL_isKept_96 (by decide) ?_
      refine J_iadd cx dL_isKept_97 ?_
      refine J_top (v' := .int (nI ((10 + 14 * ci) + 3))) (congrArg Value.int (nI_add (10 + 14 * ci) 3)) ?_
      refine J_iald cx (j := (10 + 14 * ci + 3)) (f := upd N (10 + 14 * ci + 11) (nI 1)) 0 rfl (congrArg nI (by omega)) (by omega) (by decide) dL_isKept_98 ?_
      refine J_top (v' := .int (κ.1 5 ci)) (congrArg Value.int ((pk_un (by omega)).trans (hN.c3 (by omega)))) ?_
      refine J_callSi cx kL_171 (As := [.ref an, .int (κ.1 5 ci)]) (tL_pending l D g A an (upd N (10 + 14 * ci + 11) (nI 1)) (setB κ 3 ci true) (iW u84.1 g K84 u84.2.1 u84.2.2.1 u84.2.2.2.1 u84.2.2.2.2) (κ.1 5 ci) hLm.1 hn) ⟨rfl, rfl, by decide, by decide⟩ ⟨by decide, by decide⟩ rfl rfl (Nat.le_of_ble_eq_true rfl) dL_isKept_99 ?_
      intro _ _ hr; cases hr
      refine J_goto cx (tgt := 107) dL_isKept_102 (by decide) ?_
      refine J_icmp_ne cx (tgt := 114) dL_isKept_107 (by decide) (fun c_11 => ?_) (fun c_11 => ?_)
      · have c_11d := decide_eq_false c_11
        exact absurd (hr84.trans (by rw [op_revoke_ok hci hn (by simp [c_1, c_5])]; exact adI_0 _)) c_11
      · have c_11d := decide_eq_true c_11
        refine J_iconst cx (v := nI 1) dL_isKept_110 (by decide) ?_
        refine J_goto cx (tgt := 115) dL_isKept_111 (by decide) ?_
        generalize hNN : upd N (10 + 14 * ci + 11) (nI 1) = NN
        have LAWf : LAW NN K84 := (by rw [← hNN, ← hK84, op_revoke_ok hci hn (by simp [c_1, c_5])]; exact hLm)
        have DYf : K84.2.2.1 2 ≤ κ.2.2.1 2 + 999 := (by rw [← hK84]; exact dy_revoke)
        exact J_end cx rfl hz84 hv84 LAWf DYf (Nat.le_of_ble_eq_true rfl) (Nat.le_of_ble_eq_true rfl) dL_isKept_115
set_option maxHeartbeats 4000000 in
set_option maxRecDepth 100000 in
theorem kp_126 {p : Program} {l : Launch} {e : Env} {s : State} {m : MethodId} {args : Array Value} {below : List Frame} {meth : Method} {c : Code} {D : va_G} {g : Nat → ClassId} {A : Nat → Prop} {an : Nat} {N : Nat → Int32} {ad : Nat → Nat → Nat} {κ : CS} {X : XT} {cs : Nat → CT} {lf : Nat → Int64} {pr : PT} {i : Nat} {ci : Nat} (htr : l.stackTraces = false) (hV : IV κ X) (hw : WV κ cs) (hk : κ.2.2.1 1 ≤ κ.2.2.1 0) (hd : κ.2.2.1 2 + 999 < 2147483648) (hL : LAW N κ) (hi : i < 50000) (hci : ci < κ.2.2.1 0) (cx : CX p l s m args meth c yL_isKept.cls cL_isKept (some .boolean) 9 D g A) : J p l e ({ frames := 9, cells := 2, slots := 12, locals := 157 } : Room) s m args below meth c D A 9 (MQ below (va_Qi (fun (r : Int32) (u : LT) => r = nI 1 ∧ u.2.2.1 0 = ad 0 ∧ LI u ∧ u.2.1.2.2.1 2 ≤ κ.2.2.1 2 + 999) (fun u => PO D A (wL g an u)) A) args s 2 12 A) 0 0 (iA g an 700 N :: iW ad g κ X cs lf pr) [(0, .ref (ad 0 0)), (1, .ref an), (2, .ref (g 10)), (3, .int (nI i)), (4, .int (nI ci)), (5, .int (nI (10 + 14 * ci)))] 126 [] := by
  have hN := hL.1
  have hI := hV.2.2.2.1
  have hn := hV.1.1
  have hF := hV.2.2.2.2.1
  have h1n := hL.2.1
  refine J_aload_n cx dL_isKept_126 rfl 1 rfl ?_
  refine J_iload cx dL_isKept_127 5 rfl ?_
  refine J_bipush cx (v := nI 6) dL_isKept_129 (by decide) ?_
  refine J_iadd cx dL_isKept_131 ?_
  refine J_top (v' := .int (nI ((10 + 14 * ci) + 6))) (congrArg Value.int (nI_add (10 + 14 * ci) 6)) ?_
  refine J_iald cx (j := (10 + 14 * ci + 6)) (f := N) 0 rfl (congrArg nI (by omega)) (by omega) (by decide) dL_isKept_132 ?_
  refine J_top (v' := .int (zb (κ.2.1 0 ci))) (congrArg Value.int (hN.c6 (by omega))) ?_
  refine J_iconst cx (v := nI 1) dL_isKept_133 (by decide) ?_
  refine J_icmp_ne cx (tgt := 150) dL_isKept_134 (by decide) (fun c_1 => ?_) (fun c_1 => ?_)
  · have c_1 := (zb1n _).mp c_1
    refine J_ldc cx (v := (-900002)) dL_isKept_150 cL_33 ?_
    refine J_istore cx (L' := [(6, .int (-900002)), (0, .ref (ad 0 0)), (1, .ref an), (2, .ref (g 10)), (3, .int (nI i)), (4, .int (nI ci)), (5, .int (nI (10 + 14 * ci)))]) dL_isKept_152 (by decide) rfl ?_
    have hA := c_1
    refine J_L [0, 1, 2, 3, 4, 5, 6] rfl ?_
    exact kp_n htr hV hw hk hd hL hi hci hA cx
  · have c_1 := (zb1 _).mp c_1
    refine J_aload_n cx dL_isKept_137 rfl 1 rfl ?_
    refine J_aload_n cx dL_isKept_138 rfl 1 rfl ?_
    refine J_iload cx dL_isKept_139 5 rfl ?_
    refine J_iconst cx (v := nI 1) dL_isKept_141 (by decide) ?_
    refine J_iadd cx dL_isKept_142 ?_
    refine J_top (v' := .int (nI ((10 + 14 * ci) + 1))) (congrArg Value.int (nI_add (10 + 14 * ci) 1)) ?_
    refine J_iald cx (j := (10 + 14 * ci + 1)) (f := N) 0 rfl (congrArg nI (by omega)) (by omega) (by decide) dL_isKept_143 ?_
    refine J_top (v' := .int (κ.1 1 ci)) (congrArg Value.int (hN.c1 (by omega))) ?_
    refine J_callSi cx kL_171 (As := [.ref an, .int (κ.1 1 ci)]) (tL_pending l D g A an N κ (iW ad g κ X cs lf pr) (κ.1 1 ci) hN hn) ⟨rfl, rfl, by decide, by decide⟩ ⟨by decide, by decide⟩ rfl rfl (Nat.le_of_ble_eq_true rfl) dL_isKept_144 ?_
    intro _ _ hr; cases hr
    refine J_goto cx (tgt := 152) dL_isKept_147 (by decide) ?_
    refine J_istore cx (L' := [(6, .int (nI (cnt (pendB κ (κ.1 1 ci)) (κ.2.2.1 0)))), (0, .ref (ad 0 0)), (1, .ref an), (2, .ref (g 10)), (3, .int (nI i)), (4, .int (nI ci)), (5, .int (nI (10 + 14 * ci)))]) dL_isKept_152 (by decide) rfl ?_
    have hA := c_1
    have hpc := cnt_le (pendB κ (κ.1 1 ci)) (κ.2.2.1 0)
    refine J_L [0, 1, 2, 3, 4, 5, 6] rfl ?_
    exact kp_a htr hV hw hk hd hL hi hci hA hpc cx
set_option maxHeartbeats 4000000 in
set_option maxRecDepth 100000 in
theorem kp_259 {p : Program} {l : Launch} {e : Env} {s : State} {m : MethodId} {args : Array Value} {below : List Frame} {meth : Method} {c : Code} {D : va_G} {g : Nat → ClassId} {A : Nat → Prop} {an : Nat} {N : Nat → Int32} {ad : Nat → Nat → Nat} {κ : CS} {X : XT} {cs : Nat → CT} {lf : Nat → Int64} {pr : PT} {i : Nat} {ci : Nat} (htr : l.stackTraces = false) (hV : IV κ X) (hw : WV κ cs) (hk : κ.2.2.1 1 ≤ κ.2.2.1 0) (hd : κ.2.2.1 2 + 999 < 2147483648) (hL : LAW N κ) (hi : i < 50000) (hci : ci < κ.2.2.1 0) (cx : CX p l s m args meth c yL_isKept.cls cL_isKept (some .boolean) 9 D g A) : J p l e ({ frames := 9, cells := 2, slots := 12, locals := 157 } : Room) s m args below meth c D A 9 (MQ below (va_Qi (fun (r : Int32) (u : LT) => r = nI 1 ∧ u.2.2.1 0 = ad 0 ∧ LI u ∧ u.2.1.2.2.1 2 ≤ κ.2.2.1 2 + 999) (fun u => PO D A (wL g an u)) A) args s 2 12 A) 0 0 (iA g an 700 N :: iW ad g κ X cs lf pr) [(0, .ref (ad 0 0)), (1, .ref an), (2, .ref (g 10)), (3, .int (nI i)), (4, .int (nI ci)), (5, .int (nI (10 + 14 * ci)))] 259 [] := by
  have hN := hL.1
  have hI := hV.2.2.2.1
  have hn := hV.1.1
  have hF := hV.2.2.2.2.1
  have h1n := hL.2.1
  refine J_iconst cx (v := nI 1) dL_isKept_259 (by decide) ?_
  refine J_aload_n cx dL_isKept_260 rfl 2 rfl ?_
  refine J_iload_n cx dL_isKept_261 rfl 3 rfl ?_
  refine J_iconst cx (v := nI 2) dL_isKept_262 (by decide) ?_
  refine J_iadd cx dL_isKept_263 ?_
  refine J_top (v' := .int (nI (i + 2))) (congrArg Value.int (nI_add i 2)) ?_
  refine J_bipush cx (v := nI 6) dL_isKept_264 (by decide) ?_
  refine J_callSi cx kL_101 (As := [.ref (g 10), .int (nI (i + 2)), .int (nI 6)]) (tL_in l D g A (iA g an 700 N :: iW ad g κ X cs lf pr) (i + 2) 6 (by omega) (by omega) (by omega)) ⟨rfl, rfl, by decide, by decide⟩ ⟨by decide, by decide⟩ rfl rfl (Nat.le_of_ble_eq_true rfl) dL_isKept_266 ?_
  intro _ _ hr; cases hr
  have hin_1 := inN_lt (g := g) (i := (i + 2)) (n := 6) (by omega)
  refine J_iadd cx dL_isKept_269 ?_
  refine J_top (v' := .int (nI (1 + (inN g (i + 2) 6)))) (congrArg Value.int (nI_add 1 (inN g (i + 2) 6))) ?_
  generalize hg_dq : inN g (i + 2) 6 = dq at *
  have hdq : dq < 6 := by assumption
  obtain ⟨j9, hj9⟩ : ∃ j9, 1 + dq = j9 := ⟨_, rfl⟩
  rw [hj9]
  refine J_istore cx (L' := [(6, .int (nI j9)), (0, .ref (ad 0 0)), (1, .ref an), (2, .ref (g 10)), (3, .int (nI i)), (4, .int (nI ci)), (5, .int (nI (10 + 14 * ci)))]) dL_isKept_270 (by decide) rfl ?_
  refine J_aload_n cx dL_isKept_272 rfl 2 rfl ?_
  refine J_iconst cx (v := nI 2) dL_isKept_273 (by decide) ?_
  refine J_dup2 cx dL_isKept_274 rfl rfl ?_
  refine J_iald cx (j := 2) (f := N) 0 rfl rfl (by omega) (by decide) dL_isKept_275 ?_
  refine J_top (v' := .int (nI (κ.2.2.1 2))) (congrArg Value.int hN.n2) ?_
  refine J_iload cx dL_isKept_276 0 rfl ?_
  refine J_iadd cx dL_isKept_278 ?_
  refine J_top (v' := .int (nI ((κ.2.2.1 2) + j9))) (congrArg Value.int (nI_add (κ.2.2.1 2) j9)) ?_
  obtain ⟨s9, hs9⟩ : ∃ s9, κ.2.2.1 2 + j9 = s9 := ⟨_, rfl⟩
  rw [hs9]
  refine J_iast cx (ws' := (iA g an 700 (upd N 2 (nI s9)) :: iW ad g κ X cs lf pr)) (j := 2) 0 rfl rfl (by omega) (by decide) rfl dL_isKept_279 ?_
  refine J_aload_n cx dL_isKept_280 rfl 1 rfl ?_
  refine J_iload cx dL_isKept_281 0 rfl ?_
  refine J_callHi cx kL_176 (As := [.ref (ad 0 0), .int (nI j9)]) (frI (w := iW ad g κ X cs lf pr) (wr := [iA g an 700 (upd N 2 (nI s9))]) (W' := fun (u : UT) => wT g ((opPass κ (nI j9)).2.2) u) (W2 := fun (u : UT) => iA g an 700 (upd N 2 (nI s9)) :: wT g ((opPass κ (nI j9)).2.2) u) (pm_1 _ _) (fun u => (pm_1 _ _).symm) (tL_pass l D g _ ad κ X cs lf pr (nI j9) htr hV hw hk hd)) ⟨rfl, rfl, by decide, by decide⟩ ⟨by decide, by decide⟩ rfl rfl (Nat.le_of_ble_eq_true rfl) dL_isKept_283 ?_
  intro r283 u283 hu283; obtain ⟨hr283, hz283, hv283⟩ := hu283
  generalize hK283 : (opPass κ (nI j9)).2.2 = K283 at *
  refine J_aload_n cx dL_isKept_286 rfl 2 rfl ?_
  refine J_iconst cx (v := nI 2) dL_isKept_287 (by decide) ?_
  refine J_iald cx (j := 2) (f := upd N 2 (nI s9)) 0 rfl rfl (by omega) (by decide) dL_isKept_288 ?_
  refine J_top (v' := .int (nI s9)) (congrArg Value.int up_eq) ?_
  refine J_icmp_ne cx (tgt := 296) dL_isKept_289 (by decide) (fun c_2 => ?_) (fun c_2 => ?_)
  · have c_2d := decide_eq_false c_2
    exact absurd (hr283.trans (by rw [op_pass_s (show 1 ≤ j9 by omega) (show j9 ≤ 999 by omega) hs9]; exact adI_0 _)) c_2
  · have c_2d := decide_eq_true c_2
    refine J_iconst cx (v := nI 1) dL_isKept_292 (by decide) ?_
    refine J_goto cx (tgt := 297) dL_isKept_293 (by decide) ?_
    generalize hNN : upd N 2 (nI s9) = NN
    have LAWf : LAW NN K283 := (by rw [← hNN, ← hK283, op_pass_s (show 1 ≤ j9 by omega) (show j9 ≤ 999 by omega) hs9]; exact law_day hL _)
    have DYf : K283.2.2.1 2 ≤ κ.2.2.1 2 + 999 := (by rw [← hK283]; exact (day_pass _))
    exact J_end cx rfl hz283 hv283 LAWf DYf (Nat.le_of_ble_eq_true rfl) (Nat.le_of_ble_eq_true rfl) dL_isKept_297
set_option maxHeartbeats 8000000 in
set_option maxRecDepth 100000 in
theorem tL_isKept (l : Launch) (D : va_G) (g : Nat → ClassId) (A : Nat → Prop) (an : Nat) (N : Nat → Int32) (ad : Nat → Nat → Nat) (κ : CS) (X : XT) (cs : Nat → CT) (lf : Nat → Int64) (pr : PT) (i : Nat) (htr : l.stackTraces = false) (hV : IV κ X) (hw : WV κ cs) (hk : κ.2.2.1 1 ≤ κ.2.2.1 0) (hd : κ.2.2.1 2 + 999 < 2147483648) (hL : LAW N κ) (hi : i < 50000) : Met l yL_isKept (wsA yL_isKept cL_isKept 9 (some .boolean)) ({ frames := 9, cells := 2, slots := 12, locals := 157 } : Room) (va_Pc [.ref (ad 0 0), .ref an, .ref (g 10), .int (nI i)] (PRE D g A (iA g an 700 N :: iW ad g κ X cs lf pr))) (va_Qi (fun (r : Int32) (u : LT) => r = nI 1 ∧ u.2.2.1 0 = ad 0 ∧ LI u ∧ u.2.1.2.2.1 2 ≤ κ.2.2.1 2 + 999) (fun u => PO D A (wL g an u)) A) 2 12 A := by
  have hN := hL.1
  have hI := hV.2.2.2.1
  have hn := hV.1.1
  have hF := hV.2.2.2.2.1
  have h1n := hL.2.1
  refine metJ (by decide) (Nat.le_of_ble_eq_true rfl) ?_
  intro p e s m args below meth c _ _ cx
  refine J_aload_n cx dL_isKept_0 rfl 2 rfl ?_
  refine J_iload_n cx dL_isKept_1 rfl 3 rfl ?_
  refine J_iconst cx (v := nI 1) dL_isKept_2 (by decide) ?_
  refine J_iadd cx dL_isKept_3 ?_
  refine J_top (v' := .int (nI (i + 1))) (congrArg Value.int (nI_add i 1)) ?_
  refine J_aload_n cx dL_isKept_4 rfl 1 rfl ?_
  refine J_iconst cx (v := nI 0) dL_isKept_5 (by decide) ?_
  refine J_iald cx (j := 0) (f := N) 0 rfl rfl (by omega) (by decide) dL_isKept_6 ?_
  refine J_top (v' := .int (nI (κ.2.2.1 0))) (congrArg Value.int hN.n0) ?_
  refine J_callSi cx kL_101 (As := [.ref (g 10), .int (nI (i + 1)), .int (nI (κ.2.2.1 0))]) (tL_in l D g A (iA g an 700 N :: iW ad g κ X cs lf pr) (i + 1) (κ.2.2.1 0) (by omega) (by omega) (by omega)) ⟨rfl, rfl, by decide, by decide⟩ ⟨by decide, by decide⟩ rfl rfl (Nat.le_of_ble_eq_true rfl) dL_isKept_7 ?_
  intro _ _ hr; cases hr
  have hin_1 := inN_lt (g := g) (i := (i + 1)) (n := (κ.2.2.1 0)) (by omega)
  generalize hg_ci : inN g (i + 1) (κ.2.2.1 0) = ci at *
  have hci : ci < κ.2.2.1 0 := by assumption
  refine J_istore cx (L' := [(4, .int (nI ci)), (0, .ref (ad 0 0)), (1, .ref an), (2, .ref (g 10)), (3, .int (nI i))]) dL_isKept_10 (by decide) rfl ?_
  refine J_bipush cx (v := nI 10) dL_isKept_12 (by decide) ?_
  refine J_bipush cx (v := nI 14) dL_isKept_14 (by decide) ?_
  refine J_iload cx dL_isKept_16 0 rfl ?_
  refine J_imul cx dL_isKept_18 ?_
  refine J_top (v' := .int (nI (14 * ci))) (congrArg Value.int (pk_mul 14 ci)) ?_
  refine J_iadd cx dL_isKept_19 ?_
  refine J_top (v' := .int (nI (10 + (14 * ci)))) (congrArg Value.int (nI_add 10 (14 * ci))) ?_
  refine J_istore cx (L' := [(5, .int (nI (10 + (14 * ci)))), (4, .int (nI ci)), (0, .ref (ad 0 0)), (1, .ref an), (2, .ref (g 10)), (3, .int (nI i))]) dL_isKept_20 (by decide) rfl ?_
  refine J_aload_n cx dL_isKept_22 rfl 4 rfl ?_
  refine J_iload_n cx dL_isKept_23 rfl 5 rfl ?_
  refine J_iconst cx (v := nI 3) dL_isKept_24 (by decide) ?_
  refine J_callSi cx kL_101 (As := [.ref (g 10), .int (nI i), .int (nI 3)]) (tL_in l D g A (iA g an 700 N :: iW ad g κ X cs lf pr) i 3 (by omega) (by omega) (by omega)) ⟨rfl, rfl, by decide, by decide⟩ ⟨by decide, by decide⟩ rfl rfl (Nat.le_of_ble_eq_true rfl) dL_isKept_25 ?_
  intro _ _ hr; cases hr
  have hin_2 := inN_lt (g := g) (i := i) (n := 3) (by omega)
  refine J_if_ne cx (tgt := 116) dL_isKept_28 (by decide) (fun c_3 => ?_) (fun c_3 => ?_)
  · have c_3 := (nat_if_ne (by omega)).mp c_3
    have c_3d := decide_eq_false c_3
    refine J_aload_n cx dL_isKept_116 rfl 4 rfl ?_
    refine J_iload_n cx dL_isKept_117 rfl 5 rfl ?_
    refine J_iconst cx (v := nI 3) dL_isKept_118 (by decide) ?_
    refine J_callSi cx kL_101 (As := [.ref (g 10), .int (nI i), .int (nI 3)]) (tL_in l D g A (iA g an 700 N :: iW ad g κ X cs lf pr) i 3 (by omega) (by omega) (by omega)) ⟨rfl, rfl, by decide, by decide⟩ ⟨by decide, by decide⟩ rfl rfl (Nat.le_of_ble_eq_true rfl) dL_isKept_119 ?_
    intro _ _ hr; cases hr
    have hin_4 := inN_lt (g := g) (i := i) (n := 3) (by omega)
    refine J_iconst cx (v := nI 1) dL_isKept_122 (by decide) ?_
    refine J_icmp_ne cx (tgt := 259) dL_isKept_123 (by decide) (fun c_5 => ?_) (fun c_5 => ?_)
    · have c_5 := (nat_ic_ne (by omega) (by omega)).mp c_5
      have c_5d := decide_eq_false c_5
      refine J_L [2, 3, 4, 5, 1, 0] rfl ?_
      exact kp_259 htr hV hw hk hd hL hi hci cx
    · have c_5 := (nat_ic_ne_f (by omega) (by omega)).mp c_5
      have c_5d := decide_eq_true c_5
      refine J_L [2, 3, 4, 5, 1, 0] rfl ?_
      exact kp_126 htr hV hw hk hd hL hi hci cx
  · have c_3 := (nat_if_ne_f (by omega)).mp c_3
    have c_3d := decide_eq_true c_3
    refine J_L [2, 3, 4, 5, 1, 0] rfl ?_
    exact kp_31 htr hV hw hk hd hL hi hci cx
set_option maxHeartbeats 4000000 in
set_option maxRecDepth 100000 in
theorem wk_b {p : Program} {l : Launch} {e : Env} {s : State} {m : MethodId} {args : Array Value} {below : List Frame} {meth : Method} {c : Code} {D : va_G} {g : Nat → ClassId} {A : Nat → Prop} {an : Nat} {N : Nat → Int32} {ad : Nat → Nat → Nat} {κ : CS} {X : XT} {cs : Nat → CT} {lf : Nat → Int64} {pr : PT} {i : Nat}  (htr : l.stackTraces = false) (hV : IV κ X) (hw : WV κ cs) (hk : κ.2.2.1 1 ≤ κ.2.2.1 0) (hd : κ.2.2.1 2 + 999 < 2147483648) (hL : LAW N κ) (hi : i < 50000) (cx : CX p l s m args meth c yL_isWalked.cls cL_isWalked (some .boolean) 8 D g A) : J p l e ({ frames := 9, cells := 3, slots := 19, locals := 233 } : Room) s m args below meth c D A 8 (MQ below (va_Qi (fun (r : Int32) (u : LT) => r = nI 1 ∧ u.2.2.1 0 = ad 0 ∧ LI u ∧ u.2.1.2.2.1 2 ≤ κ.2.2.1 2 + 999) (fun u => PO D A (wL g an u)) A) args s 3 19 A) 0 0 (iA g an 700 N :: iW ad g κ X cs lf pr) [(0, .ref (ad 0 0)), (1, .ref an), (2, .ref (g 10)), (3, .int (nI i))] 15 [] := by
  have hN := hL.1
  have hI := hV.2.2.2.1
  have hn := hV.1.1
  have hF := hV.2.2.2.2.1
  have h1n := hL.2.1
  refine J_aload_n cx dL_isWalked_15 rfl 2 rfl ?_
  refine J_iload_n cx dL_isWalked_16 rfl 3 rfl ?_
  refine J_iconst cx (v := nI 1) dL_isWalked_17 (by decide) ?_
  refine J_iadd cx dL_isWalked_18 ?_
  refine J_top (v' := .int (nI (i + 1))) (congrArg Value.int (nI_add i 1)) ?_
  refine J_aload_n cx dL_isWalked_19 rfl 1 rfl ?_
  refine J_iconst cx (v := nI 0) dL_isWalked_20 (by decide) ?_
  refine J_iald cx (j := 0) (f := N) 0 rfl rfl (by omega) (by decide) dL_isWalked_21 ?_
  refine J_top (v' := .int (nI (κ.2.2.1 0))) (congrArg Value.int hN.n0) ?_
  refine J_callSi cx kL_101 (As := [.ref (g 10), .int (nI (i + 1)), .int (nI (κ.2.2.1 0))]) (tL_in l D g A (iA g an 700 N :: iW ad g κ X cs lf pr) (i + 1) (κ.2.2.1 0) (by omega) (by omega) (by omega)) ⟨rfl, rfl, by decide, by decide⟩ ⟨by decide, by decide⟩ rfl rfl (Nat.le_of_ble_eq_true rfl) dL_isWalked_22 ?_
  intro _ _ hr; cases hr
  have hin_1 := inN_lt (g := g) (i := (i + 1)) (n := (κ.2.2.1 0)) (by omega)
  generalize hg_ci : inN g (i + 1) (κ.2.2.1 0) = ci at *
  have hci : ci < κ.2.2.1 0 := by assumption
  refine J_istore cx (L' := [(4, .int (nI ci)), (0, .ref (ad 0 0)), (1, .ref an), (2, .ref (g 10)), (3, .int (nI i))]) dL_isWalked_25 (by decide) rfl ?_
  refine J_aload_n cx dL_isWalked_27 rfl 2 rfl ?_
  refine J_iconst cx (v := nI 2) dL_isWalked_28 (by decide) ?_
  refine J_iald cx (j := 2) (f := N) 0 rfl rfl (by omega) (by decide) dL_isWalked_29 ?_
  refine J_top (v' := .int (nI (κ.2.2.1 2))) (congrArg Value.int hN.n2) ?_
  refine J_aload_n cx dL_isWalked_30 rfl 3 rfl ?_
  refine J_iload_n cx dL_isWalked_31 rfl 4 rfl ?_
  refine J_iconst cx (v := nI 2) dL_isWalked_32 (by decide) ?_
  refine J_iadd cx dL_isWalked_33 ?_
  refine J_top (v' := .int (nI (i + 2))) (congrArg Value.int (nI_add i 2)) ?_
  refine J_bipush cx (v := nI 9) dL_isWalked_34 (by decide) ?_
  refine J_callSi cx kL_101 (As := [.ref (g 10), .int (nI (i + 2)), .int (nI 9)]) (tL_in l D g A (iA g an 700 N :: iW ad g κ X cs lf pr) (i + 2) 9 (by omega) (by omega) (by omega)) ⟨rfl, rfl, by decide, by decide⟩ ⟨by decide, by decide⟩ rfl rfl (Nat.le_of_ble_eq_true rfl) dL_isWalked_36 ?_
  intro _ _ hr; cases hr
  have hin_2 := inN_lt (g := g) (i := (i + 2)) (n := 9) (by omega)
  generalize hg_oq : inN g (i + 2) 9 = oq at *
  have hoq : oq < 9 := by assumption
  refine J_iadd cx dL_isWalked_39 ?_
  refine J_top (v' := .int (nI ((κ.2.2.1 2) + oq))) (congrArg Value.int (nI_add (κ.2.2.1 2) oq)) ?_
  obtain ⟨a9, ha9⟩ : ∃ a9, κ.2.2.1 2 + oq = a9 := ⟨_, rfl⟩
  rw [ha9]
  refine J_iconst cx (v := nI 2) dL_isWalked_40 (by decide) ?_
  refine J_isub cx dL_isWalked_41 ?_
  rcases on_case3 (show a9 < 2147483648 by omega) with ⟨o9, ho9, ho⟩ | ⟨on, ho2, ho⟩
  · refine J_top (v' := .int (nI o9)) (congrArg Value.int ho) ?_
    have hon : ¬ nI o9 < 0 := nI_pos (by omega)
    refine J_istore cx (L' := [(5, .int (nI o9)), (4, .int (nI ci)), (0, .ref (ad 0 0)), (1, .ref an), (2, .ref (g 10)), (3, .int (nI i))]) dL_isWalked_42 (by decide) rfl ?_
    refine J_iload cx dL_isWalked_44 0 rfl ?_
    refine J_if_ge cx (tgt := 68) dL_isWalked_46 (by decide) (fun _ => ?_) (fun h => absurd (nI_pos' (by omega)) h)
    refine J_aload_n cx dL_isWalked_68 rfl 3 rfl ?_
    refine J_iload cx dL_isWalked_69 1 rfl ?_
    refine J_iload cx dL_isWalked_71 0 rfl ?_
    refine J_callSi cx kL_120 (As := [.ref an, .int (nI ci), .int (nI o9)]) (tL_isValid l D g A an N κ (iW ad g κ X cs lf pr) ci (nI o9) hN hci hn) ⟨rfl, rfl, by decide, by decide⟩ ⟨by decide, by decide⟩ rfl rfl (Nat.le_of_ble_eq_true rfl) dL_isWalked_73 ?_
    intro _ _ hr; cases hr
    refine J_ifz_ne cx (tgt := 84) dL_isWalked_76 (by decide) (fun c_4 => ?_) (fun c_4 => ?_)
    · refine J_aload_n cx dL_isWalked_84 rfl 3 rfl ?_
      refine J_iload cx dL_isWalked_85 1 rfl ?_
      refine J_iload cx dL_isWalked_87 0 rfl ?_
      refine J_callSi cx kL_123 (As := [.ref an, .int (nI ci), .int (nI o9)]) (tL_isOff l D g A an N κ (iW ad g κ X cs lf pr) ci (nI o9) hN hci hn) ⟨rfl, rfl, by decide, by decide⟩ ⟨by decide, by decide⟩ rfl rfl (Nat.le_of_ble_eq_true rfl) dL_isWalked_89 ?_
      intro _ _ hr; cases hr
      refine J_ifz_eq cx (tgt := 100) dL_isWalked_92 (by decide) (fun c_5 => ?_) (fun c_5 => ?_)
      · refine J_bipush cx (v := nI 111) dL_isWalked_100 (by decide) ?_
        refine J_istore cx (L' := [(6, .int (nI 111)), (5, .int (nI o9)), (4, .int (nI ci)), (0, .ref (ad 0 0)), (1, .ref an), (2, .ref (g 10)), (3, .int (nI i))]) dL_isWalked_102 (by decide) rfl ?_
        refine J_iload cx dL_isWalked_104 0 rfl ?_
        refine J_bipush cx (v := nI 111) dL_isWalked_106 (by decide) ?_
        refine J_icmp_ne cx (tgt := 127) dL_isWalked_108 (by decide) (fun h => absurd h (by decide)) (fun _ => ?_)
        refine J_aload_n cx dL_isWalked_111 rfl 4 rfl ?_
        refine J_sipush cx (v := nI 600) dL_isWalked_112 (by decide) ?_
        refine J_iload cx dL_isWalked_115 2 rfl ?_
        refine J_iast cx (ws' := (iA g an 700 (upd N (600 + 0) (nI ci)) :: iW ad g κ X cs lf pr)) (j := (600 + 0)) 0 rfl (congrArg nI (by omega)) (by omega) (by decide) rfl dL_isWalked_117 ?_
        refine J_aload_n cx dL_isWalked_118 rfl 4 rfl ?_
        refine J_iconst cx (v := nI 3) dL_isWalked_119 (by decide) ?_
        refine J_iconst cx (v := nI 1) dL_isWalked_120 (by decide) ?_
        refine J_iast cx (ws' := (iA g an 700 (upd (upd N (600 + 0) (nI ci)) 3 (nI 1)) :: iW ad g κ X cs lf pr)) (j := 3) 0 rfl rfl (by omega) (by decide) rfl dL_isWalked_121 ?_
        refine J_aload_n cx dL_isWalked_122 rfl 4 rfl ?_
        refine J_iconst cx (v := nI 4) dL_isWalked_123 (by decide) ?_
        refine J_iload cx dL_isWalked_124 1 rfl ?_
        refine J_iast cx (ws' := (iA g an 700 (upd (upd (upd N (600 + 0) (nI ci)) 3 (nI 1)) 4 (nI o9)) :: iW ad g κ X cs lf pr)) (j := 4) 0 rfl rfl (by omega) (by decide) rfl dL_isWalked_126 ?_
        refine J_aload_n cx dL_isWalked_127 rfl 3 rfl ?_
        refine J_iload cx dL_isWalked_128 2 rfl ?_
        refine J_iload cx dL_isWalked_130 1 rfl ?_
        refine J_callHi cx kL_186 (As := [.ref (ad 0 0), .int (nI ci), .int (nI o9)]) (frI (w := iW ad g κ X cs lf pr) (wr := [iA g an 700 (upd (upd (upd N (600 + 0) (nI ci)) 3 (nI 1)) 4 (nI o9))]) (W' := fun (u : UT) => wT g ((opBegin κ (nI ci) (nI o9)).2.2) u) (W2 := fun (u : UT) => iA g an 700 (upd (upd (upd N (600 + 0) (nI ci)) 3 (nI 1)) 4 (nI o9)) :: wT g ((opBegin κ (nI ci) (nI o9)).2.2) u) (pm_1 _ _) (fun u => (pm_1 _ _).symm) (tL_begin l D g _ ad κ X cs lf pr (nI ci) (nI o9) htr hV hw hk hd)) ⟨rfl, rfl, by decide, by decide⟩ ⟨by first | decide | (show _ ≤ _; simp only []; omega), by first | decide | (show _ ≤ _; simp only []; omega)⟩ rfl rfl (Nat.le_of_ble_eq_true rfl) dL_isWalked_132 ?_
        intro r132 u132 hu132; obtain ⟨hr132, hz132, hv132⟩ := hu132
        generalize hK132 : (opBegin κ (nI ci) (nI o9)).2.2 = K132 at *
        refine J_iload cx dL_isWalked_135 0 rfl ?_
        refine J_icmp_ne cx (tgt := 144) dL_isWalked_137 (by decide) (fun c_7 => ?_) (fun c_7 => ?_)
        · have c_7d := decide_eq_false c_7
          exact absurd (hr132.trans (by rw [op_begin_o hci hn hon c_4 c_5]; exact adI_0 _)) c_7
        · have c_7d := decide_eq_true c_7
          refine J_iconst cx (v := nI 1) dL_isWalked_140 (by decide) ?_
          refine J_goto cx (tgt := 145) dL_isWalked_141 (by decide) ?_
          generalize hNN : upd (upd (upd N (600 + 0) (nI ci)) 3 (nI 1)) 4 (nI o9) = NN
          have LAWf : LAW NN K132 := (by rw [← hNN, ← hK132, op_begin_o hci hn hon c_4 c_5]; exact law_begin hL hn ci _)
          have DYf : K132.2.2.1 2 ≤ κ.2.2.1 2 + 999 := (by rw [← hK132]; exact (dy_begin hn))
          exact J_end cx rfl hz132 hv132 LAWf DYf (Nat.le_of_ble_eq_true rfl) (Nat.le_of_ble_eq_true rfl) dL_isWalked_145
      · refine J_bipush cx (v := nI 114) dL_isWalked_95 (by decide) ?_
        refine J_goto cx (tgt := 102) dL_isWalked_97 (by decide) ?_
        refine J_istore cx (L' := [(6, .int (nI 114)), (5, .int (nI o9)), (4, .int (nI ci)), (0, .ref (ad 0 0)), (1, .ref an), (2, .ref (g 10)), (3, .int (nI i))]) dL_isWalked_102 (by decide) rfl ?_
        refine J_iload cx dL_isWalked_104 0 rfl ?_
        refine J_bipush cx (v := nI 111) dL_isWalked_106 (by decide) ?_
        refine J_icmp_ne cx (tgt := 127) dL_isWalked_108 (by decide) (fun _ => ?_) (fun h => absurd h (by decide))
        refine J_aload_n cx dL_isWalked_127 rfl 3 rfl ?_
        refine J_iload cx dL_isWalked_128 2 rfl ?_
        refine J_iload cx dL_isWalked_130 1 rfl ?_
        refine J_callHi cx kL_186 (As := [.ref (ad 0 0), .int (nI ci), .int (nI o9)]) (frI (w := iW ad g κ X cs lf pr) (wr := [iA g an 700 N]) (W' := fun (u : UT) => wT g ((opBegin κ (nI ci) (nI o9)).2.2) u) (W2 := fun (u : UT) => iA g an 700 N :: wT g ((opBegin κ (nI ci) (nI o9)).2.2) u) (pm_1 _ _) (fun u => (pm_1 _ _).symm) (tL_begin l D g _ ad κ X cs lf pr (nI ci) (nI o9) htr hV hw hk hd)) ⟨rfl, rfl, by decide, by decide⟩ ⟨by first | decide | (show _ ≤ _; simp only []; omega), by first | decide | (show _ ≤ _; simp only []; omega)⟩ rfl rfl (Nat.le_of_ble_eq_true rfl) dL_isWalked_132 ?_
        intro r132 u132 hu132; obtain ⟨hr132, hz132, hv132⟩ := hu132
        generalize hK132 : (opBegin κ (nI ci) (nI o9)).2.2 = K132 at *
        refine J_iload cx dL_isWalked_135 0 rfl ?_
        refine J_icmp_ne cx (tgt := 144) dL_isWalked_137 (by decide) (fun c_9 => ?_) (fun c_9 => ?_)
        · have c_9d := decide_eq_false c_9
          exact absurd (hr132.trans (by rw [op_begin_r hci hn hon c_4 c_5]; exact adI_0 _)) c_9
        · have c_9d := decide_eq_true c_9
          refine J_iconst cx (v := nI 1) dL_isWalked_140 (by decide) ?_
          refine J_goto cx (tgt := 145) dL_isWalked_141 (by decide) ?_
          have LAWf : LAW N K132 := (by rw [← hK132, op_begin_r hci hn hon c_4 c_5]; exact hL)
          have DYf : K132.2.2.1 2 ≤ κ.2.2.1 2 + 999 := (by rw [← hK132]; exact (dy_begin hn))
          exact J_end cx rfl hz132 hv132 LAWf DYf (Nat.le_of_ble_eq_true rfl) (Nat.le_of_ble_eq_true rfl) dL_isWalked_145
    · refine J_bipush cx (v := nI 116) dL_isWalked_79 (by decide) ?_
      refine J_goto cx (tgt := 102) dL_isWalked_81 (by decide) ?_
      refine J_istore cx (L' := [(6, .int (nI 116)), (5, .int (nI o9)), (4, .int (nI ci)), (0, .ref (ad 0 0)), (1, .ref an), (2, .ref (g 10)), (3, .int (nI i))]) dL_isWalked_102 (by decide) rfl ?_
      refine J_iload cx dL_isWalked_104 0 rfl ?_
      refine J_bipush cx (v := nI 111) dL_isWalked_106 (by decide) ?_
      refine J_icmp_ne cx (tgt := 127) dL_isWalked_108 (by decide) (fun _ => ?_) (fun h => absurd h (by decide))
      refine J_aload_n cx dL_isWalked_127 rfl 3 rfl ?_
      refine J_iload cx dL_isWalked_128 2 rfl ?_
      refine J_iload cx dL_isWalked_130 1 rfl ?_
      refine J_callHi cx kL_186 (As := [.ref (ad 0 0), .int (nI ci), .int (nI o9)]) (frI (w := iW ad g κ X cs lf pr) (wr := [iA g an 700 N]) (W' := fun (u : UT) => wT g ((opBegin κ (nI ci) (nI o9)).2.2) u) (W2 := fun (u : UT) => iA g an 700 N :: wT g ((opBegin κ (nI ci) (nI o9)).2.2) u) (pm_1 _ _) (fun u => (pm_1 _ _).symm) (tL_begin l D g _ ad κ X cs lf pr (nI ci) (nI o9) htr hV hw hk hd)) ⟨rfl, rfl, by decide, by decide⟩ ⟨by first | decide | (show _ ≤ _; simp only []; omega), by first | decide | (show _ ≤ _; simp only []; omega)⟩ rfl rfl (Nat.le_of_ble_eq_true rfl) dL_isWalked_132 ?_
      intro r132 u132 hu132; obtain ⟨hr132, hz132, hv132⟩ := hu132
      generalize hK132 : (opBegin κ (nI ci) (nI o9)).2.2 = K132 at *
      refine J_iload cx dL_isWalked_135 0 rfl ?_
      refine J_icmp_ne cx (tgt := 144) dL_isWalked_137 (by decide) (fun c_11 => ?_) (fun c_11 => ?_)
      · have c_11d := decide_eq_false c_11
        exact absurd (hr132.trans (by rw [op_begin_t hci hn hon c_4]; exact adI_0 _)) c_11
      · have c_11d := decide_eq_true c_11
        refine J_iconst cx (v := nI 1) dL_isWalked_140 (by decide) ?_
        refine J_goto cx (tgt := 145) dL_isWalked_141 (by decide) ?_
        have LAWf : LAW N K132 := (by rw [← hK132, op_begin_t hci hn hon c_4]; exact hL)
        have DYf : K132.2.2.1 2 ≤ κ.2.2.1 2 + 999 := (by rw [← hK132]; exact (dy_begin hn))
        exact J_end cx rfl hz132 hv132 LAWf DYf (Nat.le_of_ble_eq_true rfl) (Nat.le_of_ble_eq_true rfl) dL_isWalked_145
  · refine J_top (v' := .int on) (congrArg Value.int ho) ?_
    refine J_istore cx (L' := [(5, .int on), (4, .int (nI ci)), (0, .ref (ad 0 0)), (1, .ref an), (2, .ref (g 10)), (3, .int (nI i))]) dL_isWalked_42 (by decide) rfl ?_
    refine J_iload cx dL_isWalked_44 0 rfl ?_
    refine J_if_ge cx (tgt := 68) dL_isWalked_46 (by decide) (fun c_12 => ?_) (fun c_12 => ?_)
    · have c_12d := decide_eq_true c_12
      have c_12c := decide_eq_false (Int32.not_lt.mpr c_12)
      exact absurd ho2 (Int32.not_lt.mpr c_12)
    · have c_12d := decide_eq_false c_12
      have c_12c := decide_eq_true (Int32.not_le.mp c_12)
      refine J_aload_n cx dL_isWalked_49 rfl 2 rfl ?_
      refine J_iload cx dL_isWalked_50 1 rfl ?_
      refine J_iload cx dL_isWalked_52 0 rfl ?_
      refine J_callHi cx kL_186 (As := [.ref (ad 0 0), .int (nI ci), .int on]) (frI (w := iW ad g κ X cs lf pr) (wr := [iA g an 700 N]) (W' := fun (u : UT) => wT g ((opBegin κ (nI ci) on).2.2) u) (W2 := fun (u : UT) => iA g an 700 N :: wT g ((opBegin κ (nI ci) on).2.2) u) (pm_1 _ _) (fun u => (pm_1 _ _).symm) (tL_begin l D g _ ad κ X cs lf pr (nI ci) on htr hV hw hk hd)) ⟨rfl, rfl, by decide, by decide⟩ ⟨by first | decide | (show _ ≤ _; simp only []; omega), by first | decide | (show _ ≤ _; simp only []; omega)⟩ rfl rfl (Nat.le_of_ble_eq_true rfl) dL_isWalked_54 ?_
      intro r54 u54 hu54; obtain ⟨hr54, hz54, hv54⟩ := hu54
      generalize hK54 : (opBegin κ (nI ci) on).2.2 = K54 at *
      refine J_ldc cx (v := (-900002)) dL_isWalked_57 cL_33 ?_
      refine J_icmp_ne cx (tgt := 66) dL_isWalked_59 (by decide) (fun c_13 => ?_) (fun c_13 => ?_)
      · have c_13d := decide_eq_false c_13
        exact absurd (hr54.trans (by rw [op_begin_neg hci hn ho2]; rfl)) c_13
      · have c_13d := decide_eq_true c_13
        refine J_iconst cx (v := nI 1) dL_isWalked_62 (by decide) ?_
        refine J_goto cx (tgt := 67) dL_isWalked_63 (by decide) ?_
        have LAWf : LAW N K54 := (by rw [← hK54, op_begin_neg hci hn ho2]; exact hL)
        have DYf : K54.2.2.1 2 ≤ κ.2.2.1 2 + 999 := (by rw [← hK54]; exact (dy_begin hn))
        exact J_end cx rfl hz54 hv54 LAWf DYf (Nat.le_of_ble_eq_true rfl) (Nat.le_of_ble_eq_true rfl) dL_isWalked_67
set_option maxHeartbeats 4000000 in
set_option maxRecDepth 100000 in
theorem wk_s {p : Program} {l : Launch} {e : Env} {s : State} {m : MethodId} {args : Array Value} {below : List Frame} {meth : Method} {c : Code} {D : va_G} {g : Nat → ClassId} {A : Nat → Prop} {an : Nat} {N : Nat → Int32} {ad : Nat → Nat → Nat} {κ : CS} {X : XT} {cs : Nat → CT} {lf : Nat → Int64} {pr : PT} {i : Nat} {q149 : Nat} {wy : Nat → Nat} (htr : l.stackTraces = false) (hV : IV κ X) (hw : WV κ cs) (hk : κ.2.2.1 1 ≤ κ.2.2.1 0) (hd : κ.2.2.1 2 + 999 < 2147483648) (hL : LAW N κ) (hi : i < 50000) (h0 : κ.2.2.1 3 ≠ 0) (h7 : κ.2.2.1 3 ≤ 7) (hwy : ∀ z, z < κ.2.2.1 3 → wy z = κ.2.2.2.1 z) (cx : CX p l s m args meth c yL_isWalked.cls cL_isWalked (some .boolean) 8 D g A) : J p l e ({ frames := 9, cells := 3, slots := 19, locals := 233 } : Room) s m args below meth c D A 8 (MQ below (va_Qi (fun (r : Int32) (u : LT) => r = nI 1 ∧ u.2.2.1 0 = ad 0 ∧ LI u ∧ u.2.1.2.2.1 2 ≤ κ.2.2.1 2 + 999) (fun u => PO D A (wL g an u)) A) args s 3 19 A) 1 7 (iA g an 700 N :: iA g q149 (κ.2.2.1 3) (fun i => nI (wy i)) :: iW ad g κ X cs lf pr) [(0, .ref (ad 0 0)), (1, .ref an), (2, .ref (g 10)), (3, .int (nI i)), (4, .ref q149)] 183 [] := by
  have hN := hL.1
  have hI := hV.2.2.2.1
  have hn := hV.1.1
  have hF := hV.2.2.2.2.1
  have h1n := hL.2.1
  refine J_aload_n cx dL_isWalked_183 rfl 2 rfl ?_
  refine J_iload_n cx dL_isWalked_184 rfl 3 rfl ?_
  refine J_iconst cx (v := nI 1) dL_isWalked_185 (by decide) ?_
  refine J_iadd cx dL_isWalked_186 ?_
  refine J_top (v' := .int (nI (i + 1))) (congrArg Value.int (nI_add i 1)) ?_
  refine J_iconst cx (v := nI 3) dL_isWalked_187 (by decide) ?_
  refine J_callSi cx kL_101 (As := [.ref (g 10), .int (nI (i + 1)), .int (nI 3)]) (tL_in l D g A (iA g an 700 N :: iA g q149 (κ.2.2.1 3) (fun i => nI (wy i)) :: iW ad g κ X cs lf pr) (i + 1) 3 (by omega) (by omega) (by omega)) ⟨rfl, rfl, by decide, by decide⟩ ⟨by decide, by decide⟩ rfl rfl (Nat.le_of_ble_eq_true rfl) dL_isWalked_188 ?_
  intro _ _ hr; cases hr
  have hin_1 := inN_lt (g := g) (i := (i + 1)) (n := 3) (by omega)
  generalize hg_rk : inN g (i + 1) 3 = rk at *
  have hrk : rk < 3 := by assumption
  refine J_istore cx (L' := [(5, .int (nI rk)), (0, .ref (ad 0 0)), (1, .ref an), (2, .ref (g 10)), (3, .int (nI i)), (4, .ref q149)]) dL_isWalked_191 (by decide) rfl ?_
  refine J_aload_n cx dL_isWalked_193 rfl 2 rfl ?_
  refine J_aload cx dL_isWalked_194 5 rfl ?_
  refine J_aload_n cx dL_isWalked_196 rfl 2 rfl ?_
  refine J_iconst cx (v := nI 3) dL_isWalked_197 (by decide) ?_
  refine J_iald cx (j := 3) (f := N) 0 rfl rfl (by omega) (by decide) dL_isWalked_198 ?_
  refine J_top (v' := .int (nI (κ.2.2.1 3))) (congrArg Value.int hN.n3) ?_
  refine J_iconst cx (v := nI 1) dL_isWalked_199 (by decide) ?_
  refine J_isub cx dL_isWalked_200 ?_
  refine J_top (v' := .int (nI ((κ.2.2.1 3) - 1))) (congrArg Value.int (pk_sub (by omega))) ?_
  refine J_iald cx (j := ((κ.2.2.1 3) - 1)) (f := fun i => nI (wy i)) 1 rfl rfl (by omega) (show κ.2.2.1 3 < 2 ^ 31 by omega) dL_isWalked_201 ?_
  refine J_top (v' := .int (nI (κ.2.2.2.1 (κ.2.2.1 3 - 1)))) (congrArg (fun z => Value.int (nI z)) (hwy _ (by omega))) ?_
  refine J_iload cx dL_isWalked_202 0 rfl ?_
  refine J_callSi cx kL_189 (As := [.ref an, .int (nI (κ.2.2.2.1 (κ.2.2.1 3 - 1))), .int (nI rk)]) (tL_ranked l D g A an N κ (iA g q149 (κ.2.2.1 3) (fun i => nI (wy i)) :: iW ad g κ X cs lf pr) (κ.2.2.2.1 (κ.2.2.1 3 - 1)) rk hN (hI.2.2.2.2.2.2 _ (by omega)) (by omega) hn) ⟨rfl, rfl, by decide, by decide⟩ ⟨by decide, by decide⟩ rfl rfl (Nat.le_of_ble_eq_true rfl) dL_isWalked_204 ?_
  intro _ _ hr; cases hr
  cases hf : fstN (nthB κ (κ.2.2.2.1 (κ.2.2.1 3 - 1)) (nI rk)) (κ.2.2.1 0) with
  | none =>
    refine J_top (v' := .int (-1)) (congrArg Value.int (by unfold rkI; rw [hf]; rfl)) ?_
    refine J_istore cx (L' := [(6, .int (-1)), (5, .int (nI rk)), (0, .ref (ad 0 0)), (1, .ref an), (2, .ref (g 10)), (3, .int (nI i)), (4, .ref q149)]) dL_isWalked_207 (by decide) rfl ?_
    refine J_iload cx dL_isWalked_209 0 rfl ?_
    refine J_if_ge cx (tgt := 231) dL_isWalked_211 (by decide) (fun h => absurd h (by decide)) (fun _ => ?_)
    refine J_aload_n cx dL_isWalked_214 rfl 2 rfl ?_
    refine J_iload cx dL_isWalked_215 1 rfl ?_
    refine J_callHi cx kL_192 (As := [.ref (ad 0 0), .int (nI rk)]) (frI (w := iW ad g κ X cs lf pr) (wr := [iA g an 700 N, iA g q149 (κ.2.2.1 3) (fun i => nI (wy i))]) (W' := fun (u : UT) => wT g ((opStep κ (nI rk)).2.2) u) (W2 := fun (u : UT) => iA g an 700 N :: iA g q149 (κ.2.2.1 3) (fun i => nI (wy i)) :: wT g ((opStep κ (nI rk)).2.2) u) (pm_2 _ _ _) (fun u => (pm_2 _ _ _).symm) (tL_step l D g _ ad κ X cs lf pr (nI rk) htr hV hw hk hd)) ⟨rfl, rfl, by decide, by decide⟩ ⟨by first | decide | (show _ ≤ _; simp only []; omega), by first | decide | (show _ ≤ _; simp only []; omega)⟩ rfl rfl (Nat.le_of_ble_eq_true rfl) dL_isWalked_217 ?_
    intro r217 u217 hu217; obtain ⟨hr217, hz217, hv217⟩ := hu217
    generalize hK217 : (opStep κ (nI rk)).2.2 = K217 at *
    refine J_ldc cx (v := (-900002)) dL_isWalked_220 cL_33 ?_
    refine J_icmp_ne cx (tgt := 229) dL_isWalked_222 (by decide) (fun c_3 => ?_) (fun c_3 => ?_)
    · have c_3d := decide_eq_false c_3
      exact absurd (hr217.trans (by rw [opStep_n h0 hf]; rfl)) c_3
    · have c_3d := decide_eq_true c_3
      refine J_iconst cx (v := nI 1) dL_isWalked_225 (by decide) ?_
      refine J_goto cx (tgt := 230) dL_isWalked_226 (by decide) ?_
      refine J_drop ?_
      have LAWf : LAW N K217 := (by rw [← hK217, opStep_n h0 hf]; exact hL)
      have DYf : K217.2.2.1 2 ≤ κ.2.2.1 2 + 999 := (by rw [← hK217]; exact dy_step)
      exact J_end cx rfl hz217 hv217 LAWf DYf (Nat.le_of_ble_eq_true rfl) (Nat.le_of_ble_eq_true rfl) dL_isWalked_230
  | some nx =>
    refine J_top (v' := .int (nI nx)) (congrArg Value.int (by unfold rkI; rw [hf]; rfl)) ?_
    have hnx : nx < κ.2.2.1 0 := (fstN_spec hf).1
    refine J_istore cx (L' := [(6, .int (nI nx)), (5, .int (nI rk)), (0, .ref (ad 0 0)), (1, .ref an), (2, .ref (g 10)), (3, .int (nI i)), (4, .ref q149)]) dL_isWalked_207 (by decide) rfl ?_
    refine J_iload cx dL_isWalked_209 0 rfl ?_
    refine J_if_ge cx (tgt := 231) dL_isWalked_211 (by decide) (fun _ => ?_) (fun h => absurd (nI_pos' (by omega)) h)
    refine J_aload_n cx dL_isWalked_231 rfl 3 rfl ?_
    refine J_aload cx dL_isWalked_232 6 rfl ?_
    refine J_aload_n cx dL_isWalked_234 rfl 3 rfl ?_
    refine J_iconst cx (v := nI 3) dL_isWalked_235 (by decide) ?_
    refine J_iald cx (j := 3) (f := N) 0 rfl rfl (by omega) (by decide) dL_isWalked_236 ?_
    refine J_top (v' := .int (nI (κ.2.2.1 3))) (congrArg Value.int hN.n3) ?_
    refine J_iload cx dL_isWalked_237 0 rfl ?_
    refine J_aload_n cx dL_isWalked_239 rfl 3 rfl ?_
    refine J_iconst cx (v := nI 4) dL_isWalked_240 (by decide) ?_
    refine J_iald cx (j := 4) (f := N) 0 rfl rfl (by omega) (by decide) dL_isWalked_241 ?_
    refine J_top (v' := .int κ.2.2.2.2) (congrArg Value.int (hN.n4 (by omega))) ?_
    refine J_callSi cx kL_130 (As := [.ref an, .ref q149, .int (nI (κ.2.2.1 3)), .int (nI nx), .int κ.2.2.2.2]) (tL_why l D g A an N κ (iW ad g κ X cs lf pr) q149 (κ.2.2.1 3) wy (κ.2.2.1 3) nx κ.2.2.2.2 hN hI hnx (by omega) (Nat.le_refl _) (by omega) (fun z hz => by rw [hwy z hz]; exact hI.2.2.2.2.2.2 z hz)) ⟨rfl, rfl, by decide, by decide⟩ ⟨by decide, by decide⟩ rfl rfl (Nat.le_of_ble_eq_true rfl) dL_isWalked_242 ?_
    intro _ _ hr; cases hr
    refine J_top (v' := .int (nI (refC κ κ.2.2.2.1 (κ.2.2.1 3) nx κ.2.2.2.2))) (congrArg (fun z => Value.int (nI z)) (refC_congr hwy)) ?_
    have hrl := refC_le κ κ.2.2.2.1 (κ.2.2.1 3) nx κ.2.2.2.2
    refine J_istore cx (L' := [(7, .int (nI (refC κ κ.2.2.2.1 (κ.2.2.1 3) nx κ.2.2.2.2))), (6, .int (nI nx)), (5, .int (nI rk)), (0, .ref (ad 0 0)), (1, .ref an), (2, .ref (g 10)), (3, .int (nI i)), (4, .ref q149)]) dL_isWalked_245 (by decide) rfl ?_
    refine J_iload cx dL_isWalked_247 0 rfl ?_
    refine J_bipush cx (v := nI 111) dL_isWalked_249 (by decide) ?_
    refine J_icmp_ne cx (tgt := 272) dL_isWalked_251 (by decide) (fun c_5 => ?_) (fun c_5 => ?_)
    · have c_5 := (nat_ic_ne (by omega) (by omega)).mp c_5
      have c_5d := decide_eq_false c_5
      refine J_aload_n cx dL_isWalked_272 rfl 3 rfl ?_
      refine J_iload cx dL_isWalked_273 2 rfl ?_
      refine J_callHi cx kL_192 (As := [.ref (ad 0 0), .int (nI rk)]) (frI (w := iW ad g κ X cs lf pr) (wr := [iA g an 700 N, iA g q149 (κ.2.2.1 3) (fun i => nI (wy i))]) (W' := fun (u : UT) => wT g ((opStep κ (nI rk)).2.2) u) (W2 := fun (u : UT) => iA g an 700 N :: iA g q149 (κ.2.2.1 3) (fun i => nI (wy i)) :: wT g ((opStep κ (nI rk)).2.2) u) (pm_2 _ _ _) (fun u => (pm_2 _ _ _).symm) (tL_step l D g _ ad κ X cs lf pr (nI rk) htr hV hw hk hd)) ⟨rfl, rfl, by decide, by decide⟩ ⟨by first | decide | (show _ ≤ _; simp only []; omega), by first | decide | (show _ ≤ _; simp only []; omega)⟩ rfl rfl (Nat.le_of_ble_eq_true rfl) dL_isWalked_275 ?_
      intro r275 u275 hu275; obtain ⟨hr275, hz275, hv275⟩ := hu275
      generalize hK275 : (opStep κ (nI rk)).2.2 = K275 at *
      refine J_iload cx dL_isWalked_278 0 rfl ?_
      refine J_icmp_ne cx (tgt := 287) dL_isWalked_280 (by decide) (fun c_6 => ?_) (fun c_6 => ?_)
      · have c_6d := decide_eq_false c_6
        exact absurd (hr275.trans (by rw [op_step_f h0 hf c_5]; exact adI_0 _)) c_6
      · have c_6d := decide_eq_true c_6
        refine J_iconst cx (v := nI 1) dL_isWalked_283 (by decide) ?_
        refine J_goto cx (tgt := 288) dL_isWalked_284 (by decide) ?_
        refine J_drop ?_
        have LAWf : LAW N K275 := (by rw [← hK275, op_step_f h0 hf c_5]; exact hL)
        have DYf : K275.2.2.1 2 ≤ κ.2.2.1 2 + 999 := (by rw [← hK275]; exact dy_step)
        exact J_end cx rfl hz275 hv275 LAWf DYf (Nat.le_of_ble_eq_true rfl) (Nat.le_of_ble_eq_true rfl) dL_isWalked_288
    · have c_5 := (nat_ic_ne_f (by omega) (by omega)).mp c_5
      have c_5d := decide_eq_true c_5
      refine J_aload_n cx dL_isWalked_254 rfl 4 rfl ?_
      refine J_sipush cx (v := nI 600) dL_isWalked_255 (by decide) ?_
      refine J_aload_n cx dL_isWalked_258 rfl 4 rfl ?_
      refine J_iconst cx (v := nI 3) dL_isWalked_259 (by decide) ?_
      refine J_iald cx (j := 3) (f := N) 0 rfl rfl (by omega) (by decide) dL_isWalked_260 ?_
      refine J_top (v' := .int (nI (κ.2.2.1 3))) (congrArg Value.int hN.n3) ?_
      refine J_iadd cx dL_isWalked_261 ?_
      refine J_top (v' := .int (nI (600 + (κ.2.2.1 3)))) (congrArg Value.int (nI_add 600 (κ.2.2.1 3))) ?_
      refine J_iload cx dL_isWalked_262 1 rfl ?_
      refine J_iast cx (ws' := (iA g an 700 (upd N (600 + (κ.2.2.1 3)) (nI nx)) :: iA g q149 (κ.2.2.1 3) (fun i => nI (wy i)) :: iW ad g κ X cs lf pr)) (j := (600 + (κ.2.2.1 3))) 0 rfl rfl (by omega) (by decide) rfl dL_isWalked_264 ?_
      refine J_aload_n cx dL_isWalked_265 rfl 4 rfl ?_
      refine J_iconst cx (v := nI 3) dL_isWalked_266 (by decide) ?_
      refine J_dup2 cx dL_isWalked_267 rfl rfl ?_
      refine J_iald cx (j := 3) (f := upd N (600 + (κ.2.2.1 3)) (nI nx)) 0 rfl rfl (by omega) (by decide) dL_isWalked_268 ?_
      refine J_top (v' := .int (nI (κ.2.2.1 3))) (congrArg Value.int ((pk_un (by omega)).trans hN.n3)) ?_
      refine J_iconst cx (v := nI 1) dL_isWalked_269 (by decide) ?_
      refine J_iadd cx dL_isWalked_270 ?_
      refine J_top (v' := .int (nI ((κ.2.2.1 3) + 1))) (congrArg Value.int (nI_add (κ.2.2.1 3) 1)) ?_
      refine J_iast cx (ws' := (iA g an 700 (upd (upd N (600 + (κ.2.2.1 3)) (nI nx)) 3 (nI ((κ.2.2.1 3) + 1))) :: iA g q149 (κ.2.2.1 3) (fun i => nI (wy i)) :: iW ad g κ X cs lf pr)) (j := 3) 0 rfl rfl (by omega) (by decide) rfl dL_isWalked_271 ?_
      refine J_aload_n cx dL_isWalked_272 rfl 3 rfl ?_
      refine J_iload cx dL_isWalked_273 2 rfl ?_
      refine J_callHi cx kL_192 (As := [.ref (ad 0 0), .int (nI rk)]) (frI (w := iW ad g κ X cs lf pr) (wr := [iA g an 700 (upd (upd N (600 + (κ.2.2.1 3)) (nI nx)) 3 (nI ((κ.2.2.1 3) + 1))), iA g q149 (κ.2.2.1 3) (fun i => nI (wy i))]) (W' := fun (u : UT) => wT g ((opStep κ (nI rk)).2.2) u) (W2 := fun (u : UT) => iA g an 700 (upd (upd N (600 + (κ.2.2.1 3)) (nI nx)) 3 (nI ((κ.2.2.1 3) + 1))) :: iA g q149 (κ.2.2.1 3) (fun i => nI (wy i)) :: wT g ((opStep κ (nI rk)).2.2) u) (pm_2 _ _ _) (fun u => (pm_2 _ _ _).symm) (tL_step l D g _ ad κ X cs lf pr (nI rk) htr hV hw hk hd)) ⟨rfl, rfl, by decide, by decide⟩ ⟨by first | decide | (show _ ≤ _; simp only []; omega), by first | decide | (show _ ≤ _; simp only []; omega)⟩ rfl rfl (Nat.le_of_ble_eq_true rfl) dL_isWalked_275 ?_
      intro r275 u275 hu275; obtain ⟨hr275, hz275, hv275⟩ := hu275
      generalize hK275 : (opStep κ (nI rk)).2.2 = K275 at *
      refine J_iload cx dL_isWalked_278 0 rfl ?_
      refine J_icmp_ne cx (tgt := 287) dL_isWalked_280 (by decide) (fun c_7 => ?_) (fun c_7 => ?_)
      · have c_7d := decide_eq_false c_7
        exact absurd (hr275.trans (by rw [op_step_t h0 hf c_5]; exact (congrArg nI c_5).symm)) c_7
      · have c_7d := decide_eq_true c_7
        refine J_iconst cx (v := nI 1) dL_isWalked_283 (by decide) ?_
        refine J_goto cx (tgt := 288) dL_isWalked_284 (by decide) ?_
        refine J_drop ?_
        generalize hNN : upd (upd N (600 + (κ.2.2.1 3)) (nI nx)) 3 (nI ((κ.2.2.1 3) + 1)) = NN
        have LAWf : LAW NN K275 := (by rw [← hNN, ← hK275, op_step_t h0 hf c_5]; exact law_step hL hn h7 h0 nx)
        have DYf : K275.2.2.1 2 ≤ κ.2.2.1 2 + 999 := (by rw [← hK275]; exact dy_step)
        exact J_end cx rfl hz275 hv275 LAWf DYf (Nat.le_of_ble_eq_true rfl) (Nat.le_of_ble_eq_true rfl) dL_isWalked_288
set_option maxHeartbeats 8000000 in
set_option maxRecDepth 100000 in
theorem tL_isWalked (l : Launch) (D : va_G) (g : Nat → ClassId) (A : Nat → Prop) (an : Nat) (N : Nat → Int32) (ad : Nat → Nat → Nat) (κ : CS) (X : XT) (cs : Nat → CT) (lf : Nat → Int64) (pr : PT) (i : Nat) (htr : l.stackTraces = false) (hV : IV κ X) (hw : WV κ cs) (hk : κ.2.2.1 1 ≤ κ.2.2.1 0) (hd : κ.2.2.1 2 + 999 < 2147483648) (hL : LAW N κ) (hi : i < 50000) : Met l yL_isWalked (wsA yL_isWalked cL_isWalked 8 (some .boolean)) ({ frames := 9, cells := 3, slots := 19, locals := 233 } : Room) (va_Pc [.ref (ad 0 0), .ref an, .ref (g 10), .int (nI i)] (PRE D g A (iA g an 700 N :: iW ad g κ X cs lf pr))) (va_Qi (fun (r : Int32) (u : LT) => r = nI 1 ∧ u.2.2.1 0 = ad 0 ∧ LI u ∧ u.2.1.2.2.1 2 ≤ κ.2.2.1 2 + 999) (fun u => PO D A (wL g an u)) A) 3 19 A := by
  have hN := hL.1
  have hI := hV.2.2.2.1
  have hn := hV.1.1
  have hF := hV.2.2.2.2.1
  have h1n := hL.2.1
  have h7 : κ.2.2.1 3 ≤ 7 := hI.2.2.2.2.2.1
  refine metJ (by decide) (Nat.le_of_ble_eq_true rfl) ?_
  intro p e s m args below meth c _ _ cx
  refine J_aload_n cx dL_isWalked_0 rfl 2 rfl ?_
  refine J_iload_n cx dL_isWalked_1 rfl 3 rfl ?_
  refine J_iconst cx (v := nI 3) dL_isWalked_2 (by decide) ?_
  refine J_callSi cx kL_101 (As := [.ref (g 10), .int (nI i), .int (nI 3)]) (tL_in l D g A (iA g an 700 N :: iW ad g κ X cs lf pr) i 3 (by omega) (by omega) (by omega)) ⟨rfl, rfl, by decide, by decide⟩ ⟨by decide, by decide⟩ rfl rfl (Nat.le_of_ble_eq_true rfl) dL_isWalked_3 ?_
  intro _ _ hr; cases hr
  have hin_1 := inN_lt (g := g) (i := i) (n := 3) (by omega)
  refine J_if_eq cx (tgt := 15) dL_isWalked_6 (by decide) (fun c_2 => ?_) (fun c_2 => ?_)
  · have c_2 := (nat_if_eq (by omega)).mp c_2
    have c_2d := decide_eq_true c_2
    refine J_L [0, 1, 2, 3] rfl ?_
    exact wk_b htr hV hw hk hd hL hi cx
  · have c_2 := (nat_if_eq_f (by omega)).mp c_2
    have c_2d := decide_eq_false c_2
    refine J_aload_n cx dL_isWalked_9 rfl 1 rfl ?_
    refine J_iconst cx (v := nI 3) dL_isWalked_10 (by decide) ?_
    refine J_iald cx (j := 3) (f := N) 0 rfl rfl (by omega) (by decide) dL_isWalked_11 ?_
    refine J_top (v' := .int (nI (κ.2.2.1 3))) (congrArg Value.int hN.n3) ?_
    refine J_if_ne cx (tgt := 146) dL_isWalked_12 (by decide) (fun c_3 => ?_) (fun c_3 => ?_)
    · have c_3 := (nat_if_ne (by omega)).mp c_3
      have c_3d := decide_eq_false c_3
      have h0 : κ.2.2.1 3 ≠ 0 := c_3
      have h7 : κ.2.2.1 3 ≤ 7 := hI.2.2.2.2.2.1
      refine J_aload_n cx dL_isWalked_146 rfl 1 rfl ?_
      refine J_iconst cx (v := nI 3) dL_isWalked_147 (by decide) ?_
      refine J_iald cx (j := 3) (f := N) 0 rfl rfl (by omega) (by decide) dL_isWalked_148 ?_
      refine J_top (v' := .int (nI (κ.2.2.1 3))) (congrArg Value.int hN.n3) ?_
      refine J_newa cx (atype := .int) ac45 rfl 0 rfl (fun C h => by cases h) (N' := (κ.2.2.1 3)) (a0 := ((κ.2.2.1 3), .inl (fun _ => nI 0))) (fun cA => rfl) (nI_pos (by omega)) (nI_clamp (by omega)) (by show κ.2.2.1 3 * 4 ≤ 536870912; omega) ⟨by first | decide | (show _ ≤ _; simp only []; omega), by first | decide | (show _ ≤ _; simp only []; omega)⟩ dL_isWalked_149 (fun q149 => ?_)
      refine J_ws (ws' := iA g an 700 N :: ((iW ad g κ X cs lf pr) ++ [iA g q149 (κ.2.2.1 3) (fun i => nI ((fun _ => 0) i))])) rfl ?_
      refine J_perm (pm_a _ _ _) ?_
      refine J_widen (k := 1) (n := 7) (by decide) (by omega) ?_
      refine J_astore cx (L' := [(4, .ref q149), (0, .ref (ad 0 0)), (1, .ref an), (2, .ref (g 10)), (3, .int (nI i))]) dL_isWalked_151 (by decide) rfl ?_
      refine J_iconst cx (v := nI 0) dL_isWalked_153 (by decide) ?_
      refine J_istore cx (L' := [(5, .int (nI 0)), (4, .ref q149), (0, .ref (ad 0 0)), (1, .ref an), (2, .ref (g 10)), (3, .int (nI i))]) dL_isWalked_154 (by decide) rfl ?_
      have LP : ∀ (fu : Nat) (k : Nat) (wy : Nat → Nat), (k ≤ κ.2.2.1 3) → (∀ z, z < k → wy z = κ.2.2.2.1 z) → κ.2.2.1 3 - k < fu → J p l e ({ frames := 9, cells := 3, slots := 19, locals := 233 } : Room) s m args below meth c D A 8 (MQ below (va_Qi (fun (r : Int32) (u : LT) => r = nI 1 ∧ u.2.2.1 0 = ad 0 ∧ LI u ∧ u.2.1.2.2.1 2 ≤ κ.2.2.1 2 + 999) (fun u => PO D A (wL g an u)) A) args s 3 19 A) 1 7 (iA g an 700 N :: iA g q149 (κ.2.2.1 3) (fun i => nI (wy i)) :: iW ad g κ X cs lf pr) [(5, .int (nI k)), (0, .ref (ad 0 0)), (1, .ref an), (2, .ref (g 10)), (3, .int (nI i)), (4, .ref q149)] 156 [] := by
        intro fu; induction fu with
        | zero => intro k wy hkk hwy hfu; exact absurd hfu (Nat.not_lt_zero _)
        | succ fu ih =>
          intro k wy hkk hwy hfu
          refine J_iload cx dL_isWalked_156 0 rfl ?_
          refine J_aload_n cx dL_isWalked_158 rfl 2 rfl ?_
          refine J_iconst cx (v := nI 3) dL_isWalked_159 (by decide) ?_
          refine J_iald cx (j := 3) (f := N) 0 rfl rfl (by omega) (by decide) dL_isWalked_160 ?_
          refine J_top (v' := .int (nI (κ.2.2.1 3))) (congrArg Value.int hN.n3) ?_
          refine J_icmp_ge cx (tgt := 183) dL_isWalked_161 (by decide) (fun c_4 => ?_) (fun c_4 => ?_)
          · have c_4 := (nat_ic_ge (by omega) (by omega)).mp c_4
            have c_4d := decide_eq_true c_4
            have hwy2 : ∀ z, z < κ.2.2.1 3 → wy z = κ.2.2.2.1 z := fun z hz => hwy z (by omega)
            refine J_L [1, 2, 3, 4, 5] rfl ?_
            exact wk_s htr hV hw hk hd hL hi h0 h7 hwy2 cx
          · have c_4 := (nat_ic_ge_f (by omega) (by omega)).mp c_4
            have c_4d := decide_eq_false (Nat.not_le.mpr c_4)
            refine J_aload cx dL_isWalked_164 5 rfl ?_
            refine J_iload cx dL_isWalked_166 0 rfl ?_
            refine J_aload_n cx dL_isWalked_168 rfl 2 rfl ?_
            refine J_sipush cx (v := nI 600) dL_isWalked_169 (by decide) ?_
            refine J_iload cx dL_isWalked_172 0 rfl ?_
            refine J_iadd cx dL_isWalked_174 ?_
            refine J_top (v' := .int (nI (600 + k))) (congrArg Value.int (nI_add 600 k)) ?_
            refine J_iald cx (j := (600 + k)) (f := N) 0 rfl rfl (by omega) (by decide) dL_isWalked_175 ?_
            refine J_top (v' := .int (nI (κ.2.2.2.1 k))) (congrArg Value.int (hN.wk (by omega))) ?_
            refine J_iast cx (ws' := (iA g an 700 N :: iA g q149 (κ.2.2.1 3) (fun i => nI ((upn wy k (κ.2.2.2.1 k)) i)) :: iW ad g κ X cs lf pr)) (j := k) 1 rfl rfl (by omega) (show κ.2.2.1 3 < 2 ^ 31 by omega) (by rw [upn_nI]; rfl) dL_isWalked_176 ?_
            refine J_iinc cx (v := (nI (k + 1))) (L' := [(5, .int (nI (k + 1))), (0, .ref (ad 0 0)), (1, .ref an), (2, .ref (g 10)), (3, .int (nI i)), (4, .ref q149)]) dL_isWalked_177 0 rfl (by exact nI_add k 1) (by decide) rfl ?_
            refine J_goto cx (tgt := 156) dL_isWalked_180 (by decide) ?_
            refine J_L [0, 1, 2, 3, 4, 5] rfl ?_
            exact ih (k + 1) _ (by omega) (fun z hz => by by_cases q : z = k; (· rw [q, upn_eq]); (· rw [upn_ne q]; exact hwy z (by omega))) (by omega)
      refine J_L [0, 2, 3, 4, 5, 1] rfl ?_
      exact LP _ 0 _ (Nat.zero_le _) (fun z hz => absurd hz (Nat.not_lt_zero z)) (Nat.lt_succ_self _)
    · have c_3 := (nat_if_ne_f (by omega)).mp c_3
      have c_3d := decide_eq_true c_3
      refine J_L [0, 1, 2, 3] rfl ?_
      exact wk_b htr hV hw hk hd hL hi cx
