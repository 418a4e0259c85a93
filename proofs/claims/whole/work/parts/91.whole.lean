theorem pm_s {α : Type} (a b c d : List α) : (((a ++ b) ++ c) ++ d).Perm ((a ++ c) ++ (b ++ d)) := by
  have h : (b ++ (c ++ d)).Perm (c ++ (b ++ d)) := by rw [← List.append_assoc, ← List.append_assoc]; exact List.perm_append_comm.append_right d
  rw [List.append_assoc, List.append_assoc, List.append_assoc]; exact h.append_left a
set_option maxHeartbeats 4000000 in
/-- from the entry, for every script of at most 2560 ints, the law comes to its end with true -/
theorem whole_start {p : Program} {e : Env} {s : State} {m : MethodId} {below : List Frame} {meth : Method} {c : Code} (l : Launch) (hflags : l.flags = flags0) {b L : Nat} {xs : Nat → Int32} (hL : L ≤ 2560) (C0 : lw_At p s m meth c b L xs) : W p l e room_1 s m #[Value.ref b] below meth c s.heap [] 0 0 (lw_Z below #[Value.ref b] s) (entryFrame m ([Value.ref b] : List Value).toArray 9) := by
  obtain ⟨hx, hb, hr, hml, hown, hts, hX, hbl, hlk, hg⟩ := C0
  have htr : l.stackTraces = false := by unfold Launch.stackTraces; rw [hflags]; decide +kernel
  obtain ⟨D, g, hK⟩ := st_K hts
  have hA : ∀ q, s.heap.size ≤ q → s.heap.size ≤ q := fun _ h => h
  have hbA : ¬ s.heap.size ≤ b := Nat.not_le.mpr hbl
  have cx : CX p l s m #[Value.ref b] meth c RL cL_law ret 9 D g (fun q => s.heap.size ≤ q) := ⟨hx, hb, hr, hml, hown, fun w h => hts w (all_w h), hlk, hK, hA, st_SP hts hg (fun a h => Nat.not_le.mpr h)⟩
  have fin : ∀ (ws : va_W) (L' : List (Nat × Value)), J p l e room_1 s m #[Value.ref b] below meth c D (fun q => s.heap.size ≤ q) 9 (lw_Z below #[Value.ref b] s) 637457 7103862 ws L' 2633 [] := by
    intro ws L'
    refine J_iconst cx (v := 1) dL_law_2633 (by decide) ?_
    intro H locs ls hP hD hS hl
    exact va_forget hS.2.2 (W.base (lw_ret (Drawn.sameBut.refl s.drawn lw_cs) hx hb hr hlk dL_law_2634))
  have key : J p l e room_1 s m #[Value.ref b] below meth c D (fun q => s.heap.size ≤ q) 9 (lw_Z below #[Value.ref b] s) 0 0 [] (lv_args 0 [Value.ref b]) 0 [] := by
    refine J_new cx (ci := 8) (fs := [.null, .null, .null, .null, .null, .null, .int (nI 0), .int (nI 0), .int (nI 0)]) iwX6 tyX6_ok lL_8 nX6 zX6 rfl dfX6 ⟨by decide, by decide⟩ dL_law_0 (fun q1 => ?_)
    refine J_dup cx dL_law_3 rfl ?_
    refine J_callCv cx kL_138 (As := []) (W' := fun (u : Nat → Nat) => iW (fun _ => u) g kap0 X00 cs00 lf00 pr00) (tX6_init l D g _ q1) ⟨rfl, rfl, by decide, by decide⟩ ⟨by decide, by decide⟩ rfl rfl (Nat.le_of_ble_eq_true rfl) dL_law_4 ?_
    intro u hu
    subst hu
    refine J_astore_n cx (L' := [(1, .ref (u 0)), (0, .ref b)]) dL_law_7 rfl (by decide) rfl ?_
    refine J_new cx (ci := 9) (fs := [.null, .null, .null, .null, .null, .null, .null, .null, .null, .null, .null, .null, .null, .null, .null, .null, .null, .int (nI 0), .int (nI 0), .int (nI 0), .int (nI 0), .int (nI 0), .int (nI 0), .int (nI 0), .int (nI 0)]) iwX7 tyX7_ok lL_139 nX7 zX7 rfl dfX7 ⟨by decide, by decide⟩ dL_law_8 (fun q2 => ?_)
    refine J_dup cx dL_law_11 rfl ?_
    refine J_callCv cx kL_141 (As := []) (frV (w := [(q2, .inr (9, [.null, .null, .null, .null, .null, .null, .null, .null, .null, .null, .null, .null, .null, .null, .null, .null, .null, .int (nI 0), .int (nI 0), .int (nI 0), .int (nI 0), .int (nI 0), .int (nI 0), .int (nI 0), .int (nI 0)]))]) (wr := iW (fun _ => u) g kap0 X00 cs00 lf00 pr00) (W2 := fun (v : Nat → Nat) => iW (fun _ => u) g kap0 X00 cs00 lf00 pr00 ++ mW v g kap0 (nI 0) (fun _ => 0) 0 0 (fun _ => 0)) List.perm_append_comm (fun _ => List.perm_append_comm) (tX7_init l D g _ q2)) ⟨rfl, rfl, by decide, by decide⟩ ⟨by decide, by decide⟩ rfl rfl (Nat.le_of_ble_eq_true rfl) dL_law_12 ?_
    intro v hv
    subst hv
    refine J_astore_n cx (L' := [(2, .ref (v 0)), (1, .ref (u 0)), (0, .ref b)]) dL_law_15 rfl (by decide) rfl ?_
    refine J_iconst cx (v := nI 1) dL_law_16 (by decide) ?_
    refine J_newa cx (atype := .long) ac46 rfl 1 rfl (fun C h => by cases h) (N' := 1) (a0 := (1, .inr (.inl (fun _ => 0)))) (fun cA => rfl) (by decide) (by decide) (by decide) ⟨by decide, by decide⟩ dL_law_17 (fun q3 => ?_)
    refine J_astore_n cx (L' := [(3, .ref q3), (2, .ref (v 0)), (1, .ref (u 0)), (0, .ref b)]) dL_law_19 rfl (by decide) rfl ?_
    refine J_iconst cx (v := nI 1) dL_law_20 (by decide) ?_
    refine J_newa cx (atype := .double) ac115 rfl 4 rfl (fun C h => by cases h) (N' := 1) (a0 := (1, .inr (.inr (.inr (.inl (fun _ => 0)))))) (fun cA => rfl) (by decide) (by decide) (by decide) ⟨by decide, by decide⟩ dL_law_21 (fun q4 => ?_)
    refine J_astore cx (L' := [(4, .ref q4), (3, .ref q3), (2, .ref (v 0)), (1, .ref (u 0)), (0, .ref b)]) dL_law_23 (by decide) rfl ?_
    refine J_iconst cx (v := nI 0) dL_law_25 (by decide) ?_
    refine J_istore cx (L' := LL b (u 0) (v 0) q3 q4 0) dL_law_26 (by decide) rfl ?_
    refine J_perm (ws' := wW g (fun _ => u) kap0 X00 cs00 lf00 pr00 q3 (fun _ => 0) v kap0 (nI 0) (fun _ => 0) 0 0 (fun _ => 0) q4 (fun _ => 0)) ?_ ?_
    · exact pm_s _ _ _ _
    refine J_widen (k := 100 + 20 * 0) (n := 2000 + 120 * 0) (by decide) (by decide) ?_
    exact lw_loop cx htr hX hbl hbA hL (u 0) q3 q4 v fin (L + 1) 0 (fun _ => u) kap0 X00 cs00 lf00 pr00 (fun _ => 0) (nI 0) (fun _ => 0) 0 0 (fun _ => 0) (fun _ => 0) (by omega) (by omega) rfl ⟨IV_0, WV_0, Nat.le_refl _⟩ (Nat.zero_le _)
  rw [lg_entry_eq]
  exact key s.heap [] _ (fun k q h => absurd h (by simp)) ⟨fun i j p q h => absurd h (by simp), fun k q h => absurd h (by simp)⟩ va_S.rf (lv_entry [Value.ref b] (n := 9) (Nat.le_of_ble_eq_true rfl))
