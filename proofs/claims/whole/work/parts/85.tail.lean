/-! the ends of the law's cases -/
abbrev wW (g : Nat → ClassId) (ad : Nat → Nat → Nat) (κ : CS) (X : XT) (cs : Nat → CT) (lf : Nat → Int64) (pr : PT) (o1 : Nat) (f1 : Nat → Int64) (am : Nat → Nat) (κm : CS) (th : Int32) (ch : Nat → Nat) (cm rm : Nat) (row : Nat → Int64) (o2 : Nat) (f2 : Nat → UInt64) : va_W := (iW ad g κ X cs lf pr ++ oL o1 g f1) ++ (mW am g κm th ch cm rm row ++ oD o2 g f2)
section TL
variable {p : Program} {l : Launch} {e : Env} {s : State} {m : MethodId} {args : Array Value} {below : List Frame} {meth : Method} {c : Code} {D : va_G} {g : Nat → ClassId} {A : Nat → Prop} {Q : State → Prop} {cells slots : Nat}
variable {ad : Nat → Nat → Nat} {κ κm : CS} {X : XT} {cs : Nat → CT} {lf : Nat → Int64} {pr : PT} {o1 : Nat} {f1 : Nat → Int64} {am : Nat → Nat} {th : Int32} {ch : Nat → Nat} {cm rm : Nat} {row : Nat → Int64} {o2 : Nat} {f2 : Nat → UInt64} {b x i : Nat}
/-- the reference says what was thrown, and it is what the class threw -/
theorem tl_th (cx : CX p l s m args meth c RL cL_law ret 9 D g A) {T : Nat} {L : List (Nat × Value)} {r : Int32} (q2 q6 : Nat) (h2 : L[q2]? = some (2, .ref (am 0))) (h6 : L[q6]? = some (6, .int r)) (d0 : decode cL_law T = .ok (.aload_n 2, 1)) (d1 : decode cL_law (T + 1) = .ok (.invokevirtual 148, 3)) (d2 : decode cL_law (T + 1 + 3) = .ok (.iload 6, 2)) (d3 : decode cL_law (T + 1 + 3 + 2) = .ok (.if_icmp .eq 5, 3)) (hth : th = r) (hc : cells ≤ room_1.cells) (hs : slots ≤ room_1.slots)
    (kk : J p l e room_1 s m args below meth c D A 9 Q cells slots (wW g ad κ X cs lf pr o1 f1 am κm th ch cm rm row o2 f2) L (T + 11) []) : J p l e room_1 s m args below meth c D A 9 Q cells slots (wW g ad κ X cs lf pr o1 f1 am κm th ch cm rm row o2 f2) L T [] := by
  refine J_aload_n cx d0 rfl q2 h2 ?_
  refine J_callVi cx kL_148 (As := []) (frI (w := mW am g κm th ch cm rm row) (wr := (iW ad g κ X cs lf pr ++ oL o1 g f1) ++ oD o2 g f2) (W2 := fun _ => wW g ad κ X cs lf pr o1 f1 am κm th ch cm rm row o2 f2) (pm_m _ _ _) (fun _ => (pm_m _ _ _).symm) (tX7_thrown l D g _ am κm th ch cm rm row)) ⟨rfl, rfl, by decide, by decide⟩ ⟨hc, hs⟩ rfl (iW ad g κ X cs lf pr ++ oL o1 g f1).length (at_md rfl) rfl rfl (Nat.le_of_ble_eq_true rfl) d1 ?_
  intro r9 _ hr
  subst hr
  refine J_iload cx d2 q6 h6 ?_
  exact J_icmp_eq cx (tgt := T + 11) d3 (by omega) (fun _ => kk) (fun h => absurd hth h)
/-- an int answer -/
theorem tl_I (cx : CX p l s m args meth c RL cL_law ret 9 D g A) {T : Nat} {cd : Nat} {r v : Int32} {off : Int} (d0 : decode cL_law T = .ok (.aload_n 2, 1)) (d1 : decode cL_law (T + 1) = .ok (.invokevirtual 148, 3)) (d2 : decode cL_law (T + 1 + 3) = .ok (.iload 6, 2)) (d3 : decode cL_law (T + 1 + 3 + 2) = .ok (.if_icmp .eq 5, 3))
    (d4 : decode cL_law (T + 11) = .ok (.iload 6, 2)) (d5 : decode cL_law (T + 11 + 2) = .ok (.ifCond .ne 15, 3)) (d6 : decode cL_law (T + 11 + 2 + 3) = .ok (.aload_n 3, 1)) (d7 : decode cL_law (T + 11 + 2 + 3 + 1) = .ok (.iconst 0, 1)) (d8 : decode cL_law (T + 11 + 2 + 3 + 1 + 1) = .ok (.laload, 1)) (d9 : decode cL_law (T + 11 + 2 + 3 + 1 + 1 + 1) = .ok (.iload 7, 2)) (d10 : decode cL_law (T + 11 + 2 + 3 + 1 + 1 + 1 + 2) = .ok (.i2l, 1)) (d11 : decode cL_law (T + 11 + 2 + 3 + 1 + 1 + 1 + 2 + 1) = .ok (.lcmp, 1)) (d12 : decode cL_law (T + 11 + 2 + 3 + 1 + 1 + 1 + 2 + 1 + 1) = .ok (.ifCond .eq 5, 3)) (d13 : decode cL_law (T + 28) = .ok (.goto off, 3)) (hoff : ((T + 28 : Nat) : Int) + off = ((2627 : Nat) : Int))
    (hth : th = r) (hr : r = nI cd) (hcd : cd < 4) (hv : cd = 0 → f1 0 = v.toInt64) (hc : cells ≤ room_1.cells) (hs : slots ≤ room_1.slots)
    (kk : J p l e room_1 s m args below meth c D A 9 Q cells slots (wW g ad κ X cs lf pr o1 f1 am κm th ch cm rm row o2 f2) (LL b x (am 0) o1 o2 i) 2627 []) : J p l e room_1 s m args below meth c D A 9 Q cells slots (wW g ad κ X cs lf pr o1 f1 am κm th ch cm rm row o2 f2) ((7, .int v) :: (6, .int r) :: LL b x (am 0) o1 o2 i) T [] := by
  refine tl_th cx 5 1 rfl rfl d0 d1 d2 d3 hth hc hs ?_
  have fin : J p l e room_1 s m args below meth c D A 9 Q cells slots (wW g ad κ X cs lf pr o1 f1 am κm th ch cm rm row o2 f2) ((7, .int v) :: (6, .int r) :: LL b x (am 0) o1 o2 i) (T + 28) [] := J_goto cx d13 hoff (J_L [2, 3, 4, 5, 6, 7] rfl kk)
  refine J_iload cx d4 1 rfl ?_
  refine J_if_ne cx (tgt := T + 28) d5 (by omega) (fun _ => fin) (fun h => ?_)
  have h0 : cd = 0 := (nat_if_eq (by omega)).mp (hr ▸ h)
  refine J_aload_n cx d6 rfl 4 rfl ?_
  refine J_iconst cx (v := nI 0) d7 (by decide) ?_
  refine J_lald cx (j := 0) (iW ad g κ X cs lf pr).length at_o1 rfl (by decide) (by decide) d8 ?_
  refine J_iload cx d9 0 rfl ?_
  refine J_i2l cx (v := v.toInt64) d10 rfl ?_
  refine J_lcmp cx d11 ?_
  exact J_if_eq cx (tgt := T + 28) d12 (by omega) (fun _ => fin) (fun h => absurd (lgc_0 (hv h0)) h)
/-- a true-or-false answer -/
theorem tl_Z (cx : CX p l s m args meth c RL cL_law ret 9 D g A) {T : Nat} {cd : Nat} {r : Int32} {v : Bool} {off : Int} (d0 : decode cL_law T = .ok (.aload_n 2, 1)) (d1 : decode cL_law (T + 1) = .ok (.invokevirtual 148, 3)) (d2 : decode cL_law (T + 1 + 3) = .ok (.iload 6, 2)) (d3 : decode cL_law (T + 1 + 3 + 2) = .ok (.if_icmp .eq 5, 3))
    (d4 : decode cL_law (T + 11) = .ok (.iload 6, 2)) (d5 : decode cL_law (T + 11 + 2) = .ok (.ifCond .ne 22, 3)) (d6 : decode cL_law (T + 11 + 2 + 3) = .ok (.aload_n 3, 1)) (d7 : decode cL_law (T + 11 + 2 + 3 + 1) = .ok (.iconst 0, 1)) (d8 : decode cL_law (T + 11 + 2 + 3 + 1 + 1) = .ok (.laload, 1)) (d9 : decode cL_law (T + 11 + 2 + 3 + 1 + 1 + 1) = .ok (.iload 7, 2)) (d10 : decode cL_law (T + 11 + 2 + 3 + 1 + 1 + 1 + 2) = .ok (.ifCond .eq 7, 3)) (d11 : decode cL_law (T + 11 + 2 + 3 + 1 + 1 + 1 + 2 + 3) = .ok (.lconst 1, 1)) (d12 : decode cL_law (T + 11 + 2 + 3 + 1 + 1 + 1 + 2 + 3 + 1) = .ok (.goto 4, 3)) (d13 : decode cL_law (T + 28) = .ok (.lconst 0, 1)) (d14 : decode cL_law (T + 28 + 1) = .ok (.lcmp, 1)) (d15 : decode cL_law (T + 28 + 1 + 1) = .ok (.ifCond .eq 5, 3)) (d16 : decode cL_law (T + 35) = .ok (.goto off, 3)) (hoff : ((T + 35 : Nat) : Int) + off = ((2627 : Nat) : Int))
    (hth : th = r) (hr : r = nI cd) (hcd : cd < 4) (hv : cd = 0 → f1 0 = bL v) (hc : cells ≤ room_1.cells) (hs : slots ≤ room_1.slots)
    (kk : J p l e room_1 s m args below meth c D A 9 Q cells slots (wW g ad κ X cs lf pr o1 f1 am κm th ch cm rm row o2 f2) (LL b x (am 0) o1 o2 i) 2627 []) : J p l e room_1 s m args below meth c D A 9 Q cells slots (wW g ad κ X cs lf pr o1 f1 am κm th ch cm rm row o2 f2) ((7, .int (zb v)) :: (6, .int r) :: LL b x (am 0) o1 o2 i) T [] := by
  refine tl_th cx 5 1 rfl rfl d0 d1 d2 d3 hth hc hs ?_
  have fin : J p l e room_1 s m args below meth c D A 9 Q cells slots (wW g ad κ X cs lf pr o1 f1 am κm th ch cm rm row o2 f2) ((7, .int (zb v)) :: (6, .int r) :: LL b x (am 0) o1 o2 i) (T + 35) [] := J_goto cx d16 hoff (J_L [2, 3, 4, 5, 6, 7] rfl kk)
  refine J_iload cx d4 1 rfl ?_
  refine J_if_ne cx (tgt := T + 35) d5 (by omega) (fun _ => fin) (fun h => ?_)
  have h0 : cd = 0 := (nat_if_eq (by omega)).mp (hr ▸ h)
  refine J_aload_n cx d6 rfl 4 rfl ?_
  refine J_iconst cx (v := nI 0) d7 (by decide) ?_
  refine J_lald cx (j := 0) (iW ad g κ X cs lf pr).length at_o1 rfl (by decide) (by decide) d8 ?_
  refine J_iload cx d9 0 rfl ?_
  refine J_ifz_eq cx (tgt := T + 28) d10 (by omega) (fun hb => ?_) (fun hb => ?_)
  · refine J_lconst cx (v := lN 0) d13 (by decide) ?_
    refine J_lcmp cx d14 ?_
    exact J_if_eq cx (tgt := T + 35) d15 (by omega) (fun _ => fin) (fun h => absurd (lgc_0 ((hv h0).trans (by rw [hb]; rfl))) h)
  · refine J_lconst cx (v := lN 1) d11 (by decide) ?_
    refine J_goto cx (tgt := T + 28 + 1) d12 (by omega) ?_
    refine J_lcmp cx d14 ?_
    exact J_if_eq cx (tgt := T + 35) d15 (by omega) (fun _ => fin) (fun h => absurd (lgc_0 ((hv h0).trans (by rw [hb]; rfl))) h)
/-- a long answer -/
theorem tl_L (cx : CX p l s m args meth c RL cL_law ret 9 D g A) {T : Nat} {cd : Nat} {r : Int32} {v : Int64} {off : Int} (d0 : decode cL_law T = .ok (.aload_n 2, 1)) (d1 : decode cL_law (T + 1) = .ok (.invokevirtual 148, 3)) (d2 : decode cL_law (T + 1 + 3) = .ok (.iload 6, 2)) (d3 : decode cL_law (T + 1 + 3 + 2) = .ok (.if_icmp .eq 5, 3))
    (d4 : decode cL_law (T + 11) = .ok (.iload 6, 2)) (d5 : decode cL_law (T + 11 + 2) = .ok (.ifCond .ne 14, 3)) (d6 : decode cL_law (T + 11 + 2 + 3) = .ok (.aload_n 3, 1)) (d7 : decode cL_law (T + 11 + 2 + 3 + 1) = .ok (.iconst 0, 1)) (d8 : decode cL_law (T + 11 + 2 + 3 + 1 + 1) = .ok (.laload, 1)) (d9 : decode cL_law (T + 11 + 2 + 3 + 1 + 1 + 1) = .ok (.lload 7, 2)) (d11 : decode cL_law (T + 11 + 2 + 3 + 1 + 1 + 1 + 2) = .ok (.lcmp, 1)) (d12 : decode cL_law (T + 11 + 2 + 3 + 1 + 1 + 1 + 2 + 1) = .ok (.ifCond .eq 5, 3)) (d13 : decode cL_law (T + 27) = .ok (.goto off, 3)) (hoff : ((T + 27 : Nat) : Int) + off = ((2627 : Nat) : Int))
    (hth : th = r) (hr : r = nI cd) (hcd : cd < 4) (hv : cd = 0 → f1 0 = v) (hc : cells ≤ room_1.cells) (hs : slots ≤ room_1.slots)
    (kk : J p l e room_1 s m args below meth c D A 9 Q cells slots (wW g ad κ X cs lf pr o1 f1 am κm th ch cm rm row o2 f2) (LL b x (am 0) o1 o2 i) 2627 []) : J p l e room_1 s m args below meth c D A 9 Q cells slots (wW g ad κ X cs lf pr o1 f1 am κm th ch cm rm row o2 f2) ((7, .long v) :: (6, .int r) :: LL b x (am 0) o1 o2 i) T [] := by
  refine tl_th cx 5 1 rfl rfl d0 d1 d2 d3 hth hc hs ?_
  have fin : J p l e room_1 s m args below meth c D A 9 Q cells slots (wW g ad κ X cs lf pr o1 f1 am κm th ch cm rm row o2 f2) ((7, .long v) :: (6, .int r) :: LL b x (am 0) o1 o2 i) (T + 27) [] := J_goto cx d13 hoff (J_L [2, 3, 4, 5, 6, 7] rfl kk)
  refine J_iload cx d4 1 rfl ?_
  refine J_if_ne cx (tgt := T + 27) d5 (by omega) (fun _ => fin) (fun h => ?_)
  have h0 : cd = 0 := (nat_if_eq (by omega)).mp (hr ▸ h)
  refine J_aload_n cx d6 rfl 4 rfl ?_
  refine J_iconst cx (v := nI 0) d7 (by decide) ?_
  refine J_lald cx (j := 0) (iW ad g κ X cs lf pr).length at_o1 rfl (by decide) (by decide) d8 ?_
  refine J_lload cx d9 0 rfl ?_
  refine J_lcmp cx d11 ?_
  exact J_if_eq cx (tgt := T + 27) d12 (by omega) (fun _ => fin) (fun h => absurd (lgc_0 (hv h0)) h)
/-- a word of the script as a truth -/
theorem J_bool {R : Room} {own : String} {cc : ByteArray} {ret : Option FieldType} {nL : Nat} {ws : va_W} {L : List (Nat × Value)} {pc : Nat} {st : List Value} {v : Int32} (cx : CX p l s m args meth c own cc ret nL D g A) (d0 : decode cc pc = .ok (.ifCond .eq 7, 3)) (d1 : decode cc (pc + 3) = .ok (.iconst 1, 1)) (d2 : decode cc (pc + 3 + 1) = .ok (.goto 4, 3)) (d3 : decode cc (pc + 7) = .ok (.iconst 0, 1)) (kk : J p l e R s m args below meth c D A nL Q cells slots ws L (pc + 8) (.int (zb (!decide (v = 0))) :: st)) : J p l e R s m args below meth c D A nL Q cells slots ws L pc (.int v :: st) := by
  refine J_if_eq cx (tgt := pc + 7) d0 (by omega) (fun h => ?_) (fun h => ?_)
  · refine J_iconst cx (v := nI 0) d3 (by decide) ?_
    refine J_top (v' := .int (zb (!decide (v = 0)))) (by rw [decide_eq_true h]; rfl) ?_
    exact kk
  · refine J_iconst cx (v := nI 1) d1 (by decide) ?_
    refine J_goto cx (tgt := pc + 8) d2 (by omega) ?_
    refine J_top (v' := .int (zb (!decide (v = 0)))) (by rw [decide_eq_false h]; rfl) ?_
    exact kk
end TL
