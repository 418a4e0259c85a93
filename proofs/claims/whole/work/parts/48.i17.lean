theorem rjI_t {J : Int64 → Int64 → Int64} {lf : Nat → Int64} {f b h : Nat} {r : Int64} (h1 : b % 2 = 1) (h2 : 0 < h) (hb : b < 2 ^ f) : rjI J lf f b h r = rjI J lf (f - 1) (b / 2) (h - 1) (J (lf (h - 1)) r) ∧ b / 2 < 2 ^ (f - 1) := by
  cases f with
  | zero => simp at hb; omega
  | succ f =>
    refine ⟨?_, ?_⟩
    · rw [rjI_s, decide_eq_true h1, decide_eq_true h2]; rfl
    · rw [Nat.pow_succ] at hb; show b / 2 < 2 ^ f; omega
theorem rjI_e {J : Int64 → Int64 → Int64} {lf : Nat → Int64} {f b h : Nat} {r : Int64} (h1 : b % 2 ≠ 1 ∨ h = 0) : rjI J lf f b h r = (h, r) := by
  cases f with
  | zero => rfl
  | succ f =>
    rw [rjI_s]
    rcases h1 with h1 | h1
    · rw [decide_eq_false h1]; rfl
    · rw [decide_eq_false (show ¬ 0 < h by omega)]; simp
theorem rjI_nle (J : Int64 → Int64 → Int64) (lf : Nat → Int64) : ∀ f b h r, (rjI J lf f b h r).1 ≤ h
  | 0, _, _, _ => Nat.le_refl _
  | f + 1, b, h, r => by
    rw [rjI_s]
    split
    · have := rjI_nle J lf f (b / 2) (h - 1) (J (lf (h - 1)) r); omega
    · exact Nat.le_refl _
set_option maxHeartbeats 4000000 in
set_option maxRecDepth 100000 in
theorem tX4_rootOfJoined (l : Launch) (D : va_G) (g : Nat → ClassId) (A : Nat → Prop) (ad : Nat → Nat → Nat) (κ : CS) (X : XT) (cs : Nat → CT) (lf : Nat → Int64) (pr : PT)  (n0 : Nat) (hEn : ∀ i, i < κ.2.2.1 0 → X.2.2.2.2.2.2.2.2 i = ent κ i) (hn : κ.2.2.1 0 ≤ 40) (h1 : 1 ≤ n0) (h2 : n0 ≤ κ.2.2.1 0) : CtL l D g A yX4_rootOfJoined cX4_rootOfJoined 7 .long ({ frames := 2, cells := 0, slots := 0, locals := 47 } : Room) [.ref (ad 0 5), .int (nI n0)] (iW ad g κ X cs lf pr) (rfF jn (rjS jn (ent κ) lf n0).2 ((rjS jn (ent κ) lf n0).1 - 1) ((rjS jn (ent κ) lf n0).2 ((rjS jn (ent κ) lf n0).1 - 1))) (iW ad g κ X cs ((rjS jn (ent κ) lf n0).2) pr) := by
  refine metJ (by decide) (Nat.le_of_ble_eq_true rfl) ?_
  intro p e s m args below meth c _ _ cx
  refine J_iconst cx (v := nI 0) dX4_rootOfJoined_0 (by decide) ?_
  refine J_istore_n cx (L' := [(2, .int (nI 0)), (0, .ref (ad 0 5)), (1, .int (nI n0))]) dX4_rootOfJoined_1 rfl (by decide) rfl ?_
  refine J_iconst cx (v := nI 0) dX4_rootOfJoined_2 (by decide) ?_
  refine J_istore_n cx (L' := [(3, .int (nI 0)), (2, .int (nI 0)), (0, .ref (ad 0 5)), (1, .int (nI n0))]) dX4_rootOfJoined_3 rfl (by decide) rfl ?_
  have LP : ∀ (fu : Nat) (ee : Nat), (ee ≤ n0) → n0 - ee < fu → J p l e ({ frames := 2, cells := 0, slots := 0, locals := 47 } : Room) s m args below meth c D A 7 (MQ below (va_Ql (fun (r : Int64) (_ : Unit) => r = (rfF jn (rjS jn (ent κ) lf n0).2 ((rjS jn (ent κ) lf n0).1 - 1) ((rjS jn (ent κ) lf n0).2 ((rjS jn (ent κ) lf n0).1 - 1)))) (fun _ => PO D A (iW ad g κ X cs ((rjS jn (ent κ) lf n0).2) pr)) A) args s 0 0 A) 0 0 (iW ad g κ X cs ((rjS jn (ent κ) lf ee).2) pr) [(2, .int (nI (rjS jn (ent κ) lf ee).1)), (3, .int (nI ee)), (0, .ref (ad 0 5)), (1, .int (nI n0))] 4 [] := by
    intro fu; induction fu with
    | zero => intro ee he hfu; exact absurd hfu (Nat.not_lt_zero _)
    | succ fu ih0 =>
      intro ee he hfu
      have hG := rjS_h jn (ent κ) lf ee
      have hG6 := rjG_ok ee (by omega)
      refine J_iload_n cx dX4_rootOfJoined_4 rfl 1 rfl ?_
      refine J_iload_n cx dX4_rootOfJoined_5 rfl 3 rfl ?_
      refine J_icmp_ge cx (tgt := 85) dX4_rootOfJoined_6 (by decide) (fun c_1 => ?_) (fun c_1 => ?_)
      · have c_1 := (nat_ic_ge (by omega) (by omega)).mp c_1
        have c_1d := decide_eq_true c_1
        refine J_aload_n cx dX4_rootOfJoined_85 rfl 2 rfl ?_
        refine J_iload_n cx dX4_rootOfJoined_86 rfl 0 rfl ?_
        refine J_callVl cx kX4_86 (As := [.int (nI (rjS jn (ent κ) lf ee).1)]) (tX4_rootOfFinished l D g A ad κ X cs ((rjS jn (ent κ) lf ee).2) pr  ((rjS jn (ent κ) lf ee).1) (by have := hG6.2; omega) (by omega)) ⟨rfl, rfl, by decide, by decide⟩ ⟨by decide, by decide⟩ rfl 5 rfl rfl rfl (Nat.le_of_ble_eq_true rfl) dX4_rootOfJoined_87 ?_
        intro _ _ hr; cases hr
        exact J_lret cx rfl (u := ()) (by rw [show ee = n0 from by omega]) (by rw [show ee = n0 from by omega]) (Nat.le_of_ble_eq_true rfl) (Nat.le_of_ble_eq_true rfl) dX4_rootOfJoined_90
      · have c_1 := (nat_ic_ge_f (by omega) (by omega)).mp c_1
        have c_1d := decide_eq_false (Nat.not_le.mpr c_1)
        refine J_aload_n cx dX4_rootOfJoined_9 rfl 2 rfl ?_
        refine J_iload_n cx dX4_rootOfJoined_10 rfl 1 rfl ?_
        refine J_callVl cx kX4_79 (As := [.int (nI ee)]) (tX4_hashOfEntry l D g A ad κ X cs ((rjS jn (ent κ) lf ee).2) pr  ee hEn hn (by omega)) ⟨rfl, rfl, by decide, by decide⟩ ⟨by decide, by decide⟩ rfl 5 rfl rfl rfl (Nat.le_of_ble_eq_true rfl) dX4_rootOfJoined_11 ?_
        intro _ _ hr; cases hr
        refine J_lstore cx (L' := [(4, .long (ent κ ee)), (2, .int (nI (rjS jn (ent κ) lf ee).1)), (3, .int (nI ee)), (0, .ref (ad 0 5)), (1, .int (nI n0))]) dX4_rootOfJoined_14 (by decide) rfl ?_
        refine J_iload_n cx dX4_rootOfJoined_16 rfl 2 rfl ?_
        refine J_istore cx (L' := [(6, .int (nI ee)), (4, .long (ent κ ee)), (2, .int (nI (rjS jn (ent κ) lf ee).1)), (3, .int (nI ee)), (0, .ref (ad 0 5)), (1, .int (nI n0))]) dX4_rootOfJoined_17 (by decide) rfl ?_
        have LI : ∀ (fu : Nat) (f : Nat) (b : Nat) (h : Nat) (r : Int64), (b < 2 ^ f) → (b < 41) → (h ≤ 6) → (rjI jn (rjS jn (ent κ) lf ee).2 f b h r = rjI jn (rjS jn (ent κ) lf ee).2 7 ee (rjS jn (ent κ) lf ee).1 (ent κ ee)) → h < fu → J p l e ({ frames := 2, cells := 0, slots := 0, locals := 47 } : Room) s m args below meth c D A 7 (MQ below (va_Ql (fun (r : Int64) (_ : Unit) => r = (rfF jn (rjS jn (ent κ) lf n0).2 ((rjS jn (ent κ) lf n0).1 - 1) ((rjS jn (ent κ) lf n0).2 ((rjS jn (ent κ) lf n0).1 - 1)))) (fun _ => PO D A (iW ad g κ X cs ((rjS jn (ent κ) lf n0).2) pr)) A) args s 0 0 A) 0 0 (iW ad g κ X cs ((rjS jn (ent κ) lf ee).2) pr) [(4, .long r), (6, .int (nI b)), (2, .int (nI h)), (3, .int (nI ee)), (0, .ref (ad 0 5)), (1, .int (nI n0))] 19 [] := by
          intro fu; induction fu with
          | zero => intro f b h r hb hb2 hh6 heq hfu; exact absurd hfu (Nat.not_lt_zero _)
          | succ fu ih =>
            intro f b h r hb hb2 hh6 heq hfu
            refine J_iload cx dX4_rootOfJoined_19 1 rfl ?_
            refine J_iconst cx (v := nI 2) dX4_rootOfJoined_21 (by decide) ?_
            refine J_irem cx dX4_rootOfJoined_22 (by decide) ?_
            refine J_top (v' := .int (nI (b % 2))) (congrArg Value.int (pk_rem (by omega) (by decide) (by decide))) ?_
            refine J_iconst cx (v := nI 1) dX4_rootOfJoined_23 (by decide) ?_
            refine J_icmp_ne cx (tgt := 55) dX4_rootOfJoined_24 (by decide) (fun c_2 => ?_) (fun c_2 => ?_)
            · have c_2 := (nat_ic_ne (by omega) (by omega)).mp c_2
              have c_2d := decide_eq_false c_2
              refine J_iload_n cx dX4_rootOfJoined_55 rfl 2 rfl ?_
              refine J_if_lt cx (tgt := 79) dX4_rootOfJoined_56 (by decide) (fun h => absurd h (nI_pos (by omega))) (fun _ => ?_)
              refine J_iload_n cx dX4_rootOfJoined_59 rfl 2 rfl ?_
              refine J_aload_n cx dX4_rootOfJoined_60 rfl 4 rfl ?_
              refine J_get cx (v := .ref (ad 0 7)) fX4_15 5 rfl rfl dX4_rootOfJoined_61 ?_
              refine J_alen cx (v := nI 8) 7 rfl (t0 := 1) rfl rfl dX4_rootOfJoined_64 ?_
              refine J_icmp_ge cx (tgt := 79) dX4_rootOfJoined_65 (by decide) (fun c_4 => ?_) (fun c_4 => ?_)
              · have c_4 := (nat_ic_ge (by omega) (by omega)).mp c_4
                have c_4d := decide_eq_true c_4
                exfalso; omega
              · have c_4 := (nat_ic_ge_f (by omega) (by omega)).mp c_4
                have c_4d := decide_eq_false (Nat.not_le.mpr c_4)
                refine J_aload_n cx dX4_rootOfJoined_68 rfl 4 rfl ?_
                refine J_get cx (v := .ref (ad 0 7)) fX4_15 5 rfl rfl dX4_rootOfJoined_69 ?_
                refine J_iload_n cx dX4_rootOfJoined_72 rfl 2 rfl ?_
                refine J_lload cx dX4_rootOfJoined_73 0 rfl ?_
                refine J_last cx (ws' := (iW ad g κ X cs (vp_updL ((rjS jn (ent κ) lf ee).2) h r) pr)) (j := h) 7 rfl  rfl (by omega) (by decide) rfl dX4_rootOfJoined_75 ?_
                refine J_iinc cx (v := (nI (h + 1))) (L' := [(2, .int (nI (h + 1))), (4, .long r), (6, .int (nI b)), (3, .int (nI ee)), (0, .ref (ad 0 5)), (1, .int (nI n0))]) dX4_rootOfJoined_76 2 rfl (by exact nI_add h 1) (by decide) rfl ?_
                have hz : rjI jn (rjS jn (ent κ) lf ee).2 f b h r = (h, r) := rjI_e (by omega)
                have hT : rjI jn (rjS jn (ent κ) lf ee).2 7 ee (rjS jn (ent κ) lf ee).1 (ent κ ee) = (h, r) := heq.symm.trans hz
                have hS1 : rjS jn (ent κ) lf (ee + 1) = (h + 1, vp_updL (rjS jn (ent κ) lf ee).2 h r) := by rw [rjS_s, hT]
                refine J_Le (L' := [(2, .int (nI (rjS jn (ent κ) lf (ee + 1)).1)), (4, .long r), (6, .int (nI b)), (3, .int (nI ee)), (0, .ref (ad 0 5)), (1, .int (nI n0))]) (by rw [hS1]) ?_
                refine J_ws (ws' := (iW ad g κ X cs ((rjS jn (ent κ) lf (ee + 1)).2) pr)) (by rw [hS1]) ?_
                refine J_iinc cx (v := (nI (ee + 1))) (L' := [(3, .int (nI (ee + 1))), (2, .int (nI (rjS jn (ent κ) lf (ee + 1)).1)), (4, .long r), (6, .int (nI b)), (0, .ref (ad 0 5)), (1, .int (nI n0))]) dX4_rootOfJoined_79 3 rfl (by exact nI_add ee 1) (by decide) rfl ?_
                refine J_goto cx (tgt := 4) dX4_rootOfJoined_82 (by decide) ?_
                refine J_L [1, 0, 4, 5] rfl ?_
                exact ih0 (ee + 1) (by omega) (by omega)
            · have c_2 := (nat_ic_ne_f (by omega) (by omega)).mp c_2
              have c_2d := decide_eq_true c_2
              refine J_iload_n cx dX4_rootOfJoined_27 rfl 2 rfl ?_
              refine J_if_le cx (tgt := 55) dX4_rootOfJoined_28 (by decide) (fun c_5 => ?_) (fun c_5 => ?_)
              · have c_5 := (nat_if_le (by omega)).mp c_5
                refine J_iload_n cx dX4_rootOfJoined_55 rfl 2 rfl ?_
                refine J_if_lt cx (tgt := 79) dX4_rootOfJoined_56 (by decide) (fun h => absurd h (nI_pos (by omega))) (fun _ => ?_)
                refine J_iload_n cx dX4_rootOfJoined_59 rfl 2 rfl ?_
                refine J_aload_n cx dX4_rootOfJoined_60 rfl 4 rfl ?_
                refine J_get cx (v := .ref (ad 0 7)) fX4_15 5 rfl rfl dX4_rootOfJoined_61 ?_
                refine J_alen cx (v := nI 8) 7 rfl (t0 := 1) rfl rfl dX4_rootOfJoined_64 ?_
                refine J_icmp_ge cx (tgt := 79) dX4_rootOfJoined_65 (by decide) (fun c_7 => ?_) (fun c_7 => ?_)
                · have c_7 := (nat_ic_ge (by omega) (by omega)).mp c_7
                  have c_7d := decide_eq_true c_7
                  exfalso; omega
                · have c_7 := (nat_ic_ge_f (by omega) (by omega)).mp c_7
                  have c_7d := decide_eq_false (Nat.not_le.mpr c_7)
                  refine J_aload_n cx dX4_rootOfJoined_68 rfl 4 rfl ?_
                  refine J_get cx (v := .ref (ad 0 7)) fX4_15 5 rfl rfl dX4_rootOfJoined_69 ?_
                  refine J_iload_n cx dX4_rootOfJoined_72 rfl 2 rfl ?_
                  refine J_lload cx dX4_rootOfJoined_73 0 rfl ?_
                  refine J_last cx (ws' := (iW ad g κ X cs (vp_updL ((rjS jn (ent κ) lf ee).2) h r) pr)) (j := h) 7 rfl  rfl (by omega) (by decide) rfl dX4_rootOfJoined_75 ?_
                  refine J_iinc cx (v := (nI (h + 1))) (L' := [(2, .int (nI (h + 1))), (4, .long r), (6, .int (nI b)), (3, .int (nI ee)), (0, .ref (ad 0 5)), (1, .int (nI n0))]) dX4_rootOfJoined_76 2 rfl (by exact nI_add h 1) (by decide) rfl ?_
                  have hz : rjI jn (rjS jn (ent κ) lf ee).2 f b h r = (h, r) := rjI_e (by omega)
                  have hT : rjI jn (rjS jn (ent κ) lf ee).2 7 ee (rjS jn (ent κ) lf ee).1 (ent κ ee) = (h, r) := heq.symm.trans hz
                  have hS1 : rjS jn (ent κ) lf (ee + 1) = (h + 1, vp_updL (rjS jn (ent κ) lf ee).2 h r) := by rw [rjS_s, hT]
                  refine J_Le (L' := [(2, .int (nI (rjS jn (ent κ) lf (ee + 1)).1)), (4, .long r), (6, .int (nI b)), (3, .int (nI ee)), (0, .ref (ad 0 5)), (1, .int (nI n0))]) (by rw [hS1]) ?_
                  refine J_ws (ws' := (iW ad g κ X cs ((rjS jn (ent κ) lf (ee + 1)).2) pr)) (by rw [hS1]) ?_
                  refine J_iinc cx (v := (nI (ee + 1))) (L' := [(3, .int (nI (ee + 1))), (2, .int (nI (rjS jn (ent κ) lf (ee + 1)).1)), (4, .long r), (6, .int (nI b)), (0, .ref (ad 0 5)), (1, .int (nI n0))]) dX4_rootOfJoined_79 3 rfl (by exact nI_add ee 1) (by decide) rfl ?_
                  refine J_goto cx (tgt := 4) dX4_rootOfJoined_82 (by decide) ?_
                  refine J_L [1, 0, 4, 5] rfl ?_
                  exact ih0 (ee + 1) (by omega) (by omega)
              · have c_5 := (nat_if_le_f (by omega)).mp c_5
                refine J_iinc cx (v := ((nI h) + (-1))) (L' := [(2, .int ((nI h) + (-1))), (4, .long r), (6, .int (nI b)), (3, .int (nI ee)), (0, .ref (ad 0 5)), (1, .int (nI n0))]) dX4_rootOfJoined_31 2 rfl (congrArg ((nI h) + ·) (show Int32.ofInt (-1) = (-1 : Int32) from by decide)) (by decide) rfl ?_
                refine J_Le (L' := [(2, .int (nI (h - 1))), (4, .long r), (6, .int (nI b)), (3, .int (nI ee)), (0, .ref (ad 0 5)), (1, .int (nI n0))]) (by rw [nI_m1', pk_sub (show 1 ≤ h by omega)]) ?_
                refine J_aload_n cx dX4_rootOfJoined_34 rfl 4 rfl ?_
                refine J_iload_n cx dX4_rootOfJoined_35 rfl 0 rfl ?_
                refine J_callVl cx kX4_83 (As := [.int (nI (h - 1))]) (tX4_finishedAt l D g A ad κ X cs ((rjS jn (ent κ) lf ee).2) pr  (h - 1) (by omega)) ⟨rfl, rfl, by decide, by decide⟩ ⟨by decide, by decide⟩ rfl 5 rfl rfl rfl (Nat.le_of_ble_eq_true rfl) dX4_rootOfJoined_36 ?_
                intro _ _ hr; cases hr
                refine J_lload cx dX4_rootOfJoined_39 1 rfl ?_
                refine J_callSl cx kX4_75 (As := [.long (((rjS jn (ent κ) lf ee).2) (h - 1)), .long r]) (tX4_joined l D g A ad κ X cs ((rjS jn (ent κ) lf ee).2) pr  (((rjS jn (ent κ) lf ee).2) (h - 1)) r ) ⟨rfl, rfl, by decide, by decide⟩ ⟨by decide, by decide⟩ rfl rfl (Nat.le_of_ble_eq_true rfl) dX4_rootOfJoined_41 ?_
                intro _ _ hr; cases hr
                refine J_lstore cx (L' := [(4, .long (jn (((rjS jn (ent κ) lf ee).2) (h - 1)) r)), (2, .int (nI (h - 1))), (6, .int (nI b)), (3, .int (nI ee)), (0, .ref (ad 0 5)), (1, .int (nI n0))]) dX4_rootOfJoined_44 (by decide) rfl ?_
                refine J_iload cx dX4_rootOfJoined_46 2 rfl ?_
                refine J_iconst cx (v := nI 2) dX4_rootOfJoined_48 (by decide) ?_
                refine J_idiv cx dX4_rootOfJoined_49 (by decide) ?_
                refine J_top (v' := .int (nI (b / 2))) (congrArg Value.int (pk_div (by omega) (by decide) (by decide))) ?_
                refine J_istore cx (L' := [(6, .int (nI (b / 2))), (4, .long (jn (((rjS jn (ent κ) lf ee).2) (h - 1)) r)), (2, .int (nI (h - 1))), (3, .int (nI ee)), (0, .ref (ad 0 5)), (1, .int (nI n0))]) dX4_rootOfJoined_50 (by decide) rfl ?_
                refine J_goto cx (tgt := 19) dX4_rootOfJoined_52 (by decide) ?_
                refine J_L [1, 0, 2, 3, 4, 5] rfl ?_
                exact ih (f - 1) _ (h - 1) _ (rjI_t (J := jn) (lf := lf) (r := r) (h := h) (by omega) (by omega) hb).2 (by omega) (by omega) (by rw [← heq, (rjI_t (by omega) (by omega) hb).1]) (by omega)
        refine J_L [1, 0, 2, 3, 4, 5] rfl ?_
        exact LI _ 7 _ (rjS jn (ent κ) lf ee).1 _ (by omega) (by omega) (by omega) rfl (Nat.lt_succ_self _)
  refine J_L [1, 0, 2, 3] rfl ?_
  exact LP _ 0 (by omega) (Nat.lt_succ_self _)
