def rfF (J : Int64 → Int64 → Int64) (lf : Nat → Int64) : Nat → Int64 → Int64
  | 0, r => r
  | c + 1, r => rfF J lf c (J (lf c) r)
theorem rfF_s {J : Int64 → Int64 → Int64} {lf : Nat → Int64} {n : Nat} {r : Int64} (h : 1 ≤ n) : rfF J lf (n - 1) (J (lf (n - 1)) r) = rfF J lf n r := by
  obtain ⟨m, rfl⟩ : ∃ m, n = m + 1 := ⟨n - 1, by omega⟩
  rfl
theorem rfF_0 {J : Int64 → Int64 → Int64} {lf : Nat → Int64} {r : Int64} : rfF J lf 0 r = r := rfl
def rjI (J : Int64 → Int64 → Int64) (lf : Nat → Int64) : Nat → Nat → Nat → Int64 → Nat × Int64
  | 0, _, h, r => (h, r)
  | f + 1, b, h, r => if decide (b % 2 = 1) && decide (0 < h) then rjI J lf f (b / 2) (h - 1) (J (lf (h - 1)) r) else (h, r)
theorem rjI_s {J : Int64 → Int64 → Int64} {lf : Nat → Int64} {f b h : Nat} {r : Int64} : rjI J lf (f + 1) b h r = (if decide (b % 2 = 1) && decide (0 < h) then rjI J lf f (b / 2) (h - 1) (J (lf (h - 1)) r) else (h, r)) := rfl
def rjS (J : Int64 → Int64 → Int64) (E : Nat → Int64) (lf : Nat → Int64) : Nat → Nat × (Nat → Int64)
  | 0 => (0, lf)
  | e + 1 => ((rjI J (rjS J E lf e).2 7 e (rjS J E lf e).1 (E e)).1 + 1, vp_updL (rjS J E lf e).2 (rjI J (rjS J E lf e).2 7 e (rjS J E lf e).1 (E e)).1 (rjI J (rjS J E lf e).2 7 e (rjS J E lf e).1 (E e)).2)
theorem rjS_s {J : Int64 → Int64 → Int64} {E : Nat → Int64} {lf : Nat → Int64} {e : Nat} : rjS J E lf (e + 1) = ((rjI J (rjS J E lf e).2 7 e (rjS J E lf e).1 (E e)).1 + 1, vp_updL (rjS J E lf e).2 (rjI J (rjS J E lf e).2 7 e (rjS J E lf e).1 (E e)).1 (rjI J (rjS J E lf e).2 7 e (rjS J E lf e).1 (E e)).2) := rfl
/-- the height alone -/
def rjH : Nat → Nat → Nat → Nat
  | 0, _, h => h
  | f + 1, b, h => if decide (b % 2 = 1) && decide (0 < h) then rjH f (b / 2) (h - 1) else h
theorem rjI_h (J : Int64 → Int64 → Int64) (lf : Nat → Int64) : ∀ f b h r, (rjI J lf f b h r).1 = rjH f b h
  | 0, _, _, _ => rfl
  | f + 1, b, h, r => by
    rw [rjI_s]; show _ = (if decide (b % 2 = 1) && decide (0 < h) then rjH f (b / 2) (h - 1) else h)
    split
    · exact rjI_h J lf f _ _ _
    · rfl
def rjG : Nat → Nat
  | 0 => 0
  | e + 1 => rjH 7 e (rjG e) + 1
theorem rjS_h (J : Int64 → Int64 → Int64) (E lf : Nat → Int64) : ∀ e, (rjS J E lf e).1 = rjG e
  | 0 => rfl
  | e + 1 => by
    rw [rjS_s]; show (rjI J _ 7 e (rjS J E lf e).1 _).1 + 1 = rjH 7 e (rjG e) + 1
    rw [rjI_h, rjS_h J E lf e]
def pcnt (e : Nat) : Nat := e % 2 + e / 2 % 2 + e / 4 % 2 + e / 8 % 2 + e / 16 % 2 + e / 32 % 2
theorem pc_s : ∀ e, e < 40 → rjH 7 e (pcnt e) + 1 = pcnt (e + 1) := by decide +kernel
theorem rjG_pc : ∀ e, e < 41 → rjG e = pcnt e
  | 0, _ => rfl
  | e + 1, h => by
    show rjH 7 e (rjG e) + 1 = _
    rw [rjG_pc e (by omega), pc_s e (by omega)]
theorem pc_ok : ∀ e, e < 41 → pcnt e ≤ 6 ∧ (0 < e → 1 ≤ pcnt e) := by decide +kernel
theorem rjG_ok (e : Nat) (h : e < 41) : rjG e ≤ 6 ∧ (0 < e → 1 ≤ rjG e) := by rw [rjG_pc e h]; exact pc_ok e h
theorem neg1 : (-1 : Int32) = -nI 1 := by decide
theorem nI_m1' {c : Nat} : nI c + (-1) = nI c - nI 1 := by
  rw [neg1, ← Int32.sub_eq_add_neg]
set_option maxHeartbeats 4000000 in
set_option maxRecDepth 100000 in
theorem tX4_rootOfFinished (l : Launch) (D : va_G) (g : Nat → ClassId) (A : Nat → Prop) (ad : Nat → Nat → Nat) (κ : CS) (X : XT) (cs : Nat → CT) (lf : Nat → Int64) (pr : PT)  (h : Nat) (h1 : 1 ≤ h) (h8 : h ≤ 8) : CtL l D g A yX4_rootOfFinished cX4_rootOfFinished 5 .long ({ frames := 1, cells := 0, slots := 0, locals := 23 } : Room) [.ref (ad 0 5), .int (nI h)] (iW ad g κ X cs lf pr) (rfF jn lf (h - 1) (lf (h - 1))) (iW ad g κ X cs lf pr) := by
  refine metJ (by decide) (Nat.le_of_ble_eq_true rfl) ?_
  intro p e s m args below meth c _ _ cx
  refine J_aload_n cx dX4_rootOfFinished_0 rfl 0 rfl ?_
  refine J_iload_n cx dX4_rootOfFinished_1 rfl 1 rfl ?_
  refine J_iconst cx (v := nI 1) dX4_rootOfFinished_2 (by decide) ?_
  refine J_isub cx dX4_rootOfFinished_3 ?_
  refine J_top (v' := .int (nI (h - 1))) (congrArg Value.int (pk_sub (by omega))) ?_
  refine J_callVl cx kX4_83 (As := [.int (nI (h - 1))]) (tX4_finishedAt l D g A ad κ X cs lf pr  (h - 1) (by omega)) ⟨rfl, rfl, by decide, by decide⟩ ⟨by decide, by decide⟩ rfl 5 rfl rfl rfl (Nat.le_of_ble_eq_true rfl) dX4_rootOfFinished_4 ?_
  intro _ _ hr; cases hr
  refine J_lstore_n cx (L' := [(2, .long (lf (h - 1))), (0, .ref (ad 0 5)), (1, .int (nI h))]) dX4_rootOfFinished_7 rfl (by decide) rfl ?_
  refine J_iload_n cx dX4_rootOfFinished_8 rfl 2 rfl ?_
  refine J_iconst cx (v := nI 2) dX4_rootOfFinished_9 (by decide) ?_
  refine J_isub cx dX4_rootOfFinished_10 ?_
  refine J_top (v' := .int (nI (h - 1) - nI 1)) (by rw [← pk_sub (show 1 ≤ h by omega), Int32.sub_sub, show nI 1 + nI 1 = nI 2 from nI_add 1 1]) ?_
  refine J_istore cx (L' := [(4, .int (nI (h - 1) - nI 1)), (2, .long (lf (h - 1))), (0, .ref (ad 0 5)), (1, .int (nI h))]) dX4_rootOfFinished_11 (by decide) rfl ?_
  have LP : ∀ (fu : Nat) (z9 : Nat) (r : Int64), (z9 ≤ 7) → (rfF jn lf z9 r = rfF jn lf (h - 1) (lf (h - 1))) → z9 < fu → J p l e ({ frames := 1, cells := 0, slots := 0, locals := 23 } : Room) s m args below meth c D A 5 (MQ below (va_Ql (fun (r : Int64) (_ : Unit) => r = (rfF jn lf (h - 1) (lf (h - 1)))) (fun _ => PO D A (iW ad g κ X cs lf pr)) A) args s 0 0 A) 0 0 (iW ad g κ X cs lf pr) [(4, .int (nI z9 - nI 1)), (2, .long r), (0, .ref (ad 0 5)), (1, .int (nI h))] 13 [] := by
    intro fu; induction fu with
    | zero => intro z9 r hc hb hfu; exact absurd hfu (Nat.not_lt_zero _)
    | succ fu ih =>
      intro z9 r hc hb hfu
      refine J_iload cx dX4_rootOfFinished_13 0 rfl ?_
      refine J_if_lt cx (tgt := 35) dX4_rootOfFinished_15 (by decide) (fun c_1 => ?_) (fun c_1 => ?_)
      · have c_1d := decide_eq_true c_1
        have hc0 : z9 = 0 := by rcases Nat.eq_zero_or_pos z9 with q | q; exact q; exact absurd c_1 (by rw [pk_sub q]; exact nI_pos (by omega))
        refine J_lload_n cx dX4_rootOfFinished_35 rfl 1 rfl ?_
        exact J_lret cx rfl (u := ()) (by rw [← hb, hc0, rfF_0]) rfl (Nat.le_of_ble_eq_true rfl) (Nat.le_of_ble_eq_true rfl) dX4_rootOfFinished_36
      · have c_1d := decide_eq_false c_1
        have hc1 : 1 ≤ z9 := by rcases Nat.eq_zero_or_pos z9 with q | q; exact absurd (show nI z9 - nI 1 < 0 by rw [q]; decide) c_1; exact q
        refine J_Le (L' := [(4, .int (nI (z9 - 1))), (2, .long r), (0, .ref (ad 0 5)), (1, .int (nI h))]) (by rw [pk_sub hc1]) ?_
        refine J_aload_n cx dX4_rootOfFinished_18 rfl 2 rfl ?_
        refine J_iload cx dX4_rootOfFinished_19 0 rfl ?_
        refine J_callVl cx kX4_83 (As := [.int (nI (z9 - 1))]) (tX4_finishedAt l D g A ad κ X cs lf pr  (z9 - 1) (by omega)) ⟨rfl, rfl, by decide, by decide⟩ ⟨by decide, by decide⟩ rfl 5 rfl rfl rfl (Nat.le_of_ble_eq_true rfl) dX4_rootOfFinished_21 ?_
        intro _ _ hr; cases hr
        refine J_lload_n cx dX4_rootOfFinished_24 rfl 1 rfl ?_
        refine J_callSl cx kX4_75 (As := [.long (lf (z9 - 1)), .long r]) (tX4_joined l D g A ad κ X cs lf pr  (lf (z9 - 1)) r ) ⟨rfl, rfl, by decide, by decide⟩ ⟨by decide, by decide⟩ rfl rfl (Nat.le_of_ble_eq_true rfl) dX4_rootOfFinished_25 ?_
        intro _ _ hr; cases hr
        refine J_lstore_n cx (L' := [(2, .long (jn (lf (z9 - 1)) r)), (4, .int (nI (z9 - 1))), (0, .ref (ad 0 5)), (1, .int (nI h))]) dX4_rootOfFinished_28 rfl (by decide) rfl ?_
        refine J_iinc cx (v := ((nI (z9 - 1)) + (-1))) (L' := [(4, .int ((nI (z9 - 1)) + (-1))), (2, .long (jn (lf (z9 - 1)) r)), (0, .ref (ad 0 5)), (1, .int (nI h))]) dX4_rootOfFinished_29 1 rfl (congrArg ((nI (z9 - 1)) + ·) (show Int32.ofInt (-1) = (-1 : Int32) from by decide)) (by decide) rfl ?_
        refine J_Le (L' := [(4, .int (nI (z9 - 1) - nI 1)), (2, .long (jn (lf (z9 - 1)) r)), (0, .ref (ad 0 5)), (1, .int (nI h))]) (by rw [nI_m1']) ?_
        refine J_goto cx (tgt := 13) dX4_rootOfFinished_32 (by decide) ?_
        refine J_L [0, 1, 2, 3] rfl ?_
        exact ih (z9 - 1) _ (by omega) ((rfF_s hc1).trans hb) (by omega)
  refine J_L [0, 1, 2, 3] rfl ?_
  exact LP _ (h - 1) _ (by omega) rfl (Nat.lt_succ_self _)
