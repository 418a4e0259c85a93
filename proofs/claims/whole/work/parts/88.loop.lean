/-! the law: its loop -/
theorem and63 (x : Int32) : ∃ j : Nat, j < 64 ∧ x &&& nI 63 = nI j := by
  refine ⟨(x.toBitVec &&& 63#32).toNat, ?_, ?_⟩
  · rw [BitVec.toNat_and]
    exact Nat.lt_of_le_of_lt Nat.and_le_right (by decide)
  · apply Int32.toBitVec_inj.mp
    show x.toBitVec &&& 63#32 = BitVec.ofNat 32 _
    simp
theorem lw_more {Ln i : Nat} (hL : Ln ≤ 2560) (hi : i ≤ 2600) (h : ¬ nI Ln - nI 5 < nI i) : i + 5 ≤ Ln := by
  by_cases q : 5 ≤ Ln
  · rw [pk_sub q] at h
    have := (nat_ic_lt_f (by omega) (by omega)).mp h
    omega
  · refine absurd ?_ h
    have h1 : nI Ln - nI 5 < 0 := by
      have q2 : Ln < 5 := Nat.not_le.mp q
      match Ln, q2 with
      | 0, _ => decide
      | 1, _ => decide
      | 2, _ => decide
      | 3, _ => decide
      | 4, _ => decide
      | n + 5, q2 => omega
    exact Int32.lt_of_lt_of_le h1 (nI_pos' (by omega))
section LP
variable {p : Program} {l : Launch} {e : Env} {s : State} {m : MethodId} {args : Array Value} {below : List Frame} {meth : Method} {c : Code} {D : va_G} {g : Nat → ClassId} {A : Nat → Prop} {Q : State → Prop} {b Ln : Nat} {xs : Nat → Int32}
set_option maxHeartbeats 4000000 in
theorem lw_case (cx : CX p l s m args meth c RL cL_law ret 9 D g A) (htr : l.stackTraces = false) (hX : va_X b Ln xs s s.heap) (hbl : b < s.heap.size) (hbA : ¬ A b) (hLn : Ln ≤ 2560) {cells slots : Nat} {ad : Nat → Nat → Nat} {κ : CS} {X : XT} {cs : Nat → CT} {lf : Nat → Int64} {pr : PT} {o1 : Nat} {f1 : Nat → Int64} {am : Nat → Nat} {th : Int32} {ch : Nat → Nat} {cm rm : Nat} {row : Nat → Int64} {o2 : Nat} {f2 : Nat → UInt64} {i : Nat} (hi : i + 5 ≤ Ln) (hV : IV κ X) (hw : WV κ cs) (hk : κ.2.2.1 1 ≤ κ.2.2.1 0) (hd : κ.2.2.1 2 + 999 < 2147483648) (hc : cells + 20 ≤ room_1.cells) (hs : slots + 120 ≤ room_1.slots) (nx : NX p l e s m args below meth c D g A Q (cells + 20) (slots + 120) (κ.2.2.1 2 + 999) (ad 0 0) am b o1 o2 i) {x : Int32} : J p l e room_1 s m args below meth c D A 9 Q cells slots (wW g ad κ X cs lf pr o1 f1 am κ th ch cm rm row o2 f2) (LL b (ad 0 0) (am 0) o1 o2 i) 44 [.int (x &&& nI 63)] := by
  obtain ⟨j, hj, hx⟩ := and63 x
  rw [hx]
  by_cases h0 : j = 0
  · subst h0; exact J_tab cx (off := 172) (tgt := 216) dL_law_44 (by decide) (by decide) rfl (by decide) (lw_c0 cx htr hX hbl hbA hLn hi hV hw hk hd hc hs nx)
  by_cases h1 : j = 1
  · subst h1; exact J_tab cx (off := 252) (tgt := 296) dL_law_44 (by decide) (by decide) rfl (by decide) (lw_c1 cx htr hX hbl hbA hLn hi hV hw hk hd hc hs nx)
  by_cases h2 : j = 2
  · subst h2; exact J_tab cx (off := 332) (tgt := 376) dL_law_44 (by decide) (by decide) rfl (by decide) (lw_c2 cx htr hX hbl hbA hLn hi hV hw hk hd hc hs nx)
  by_cases h3 : j = 3
  · subst h3; exact J_tab cx (off := 424) (tgt := 468) dL_law_44 (by decide) (by decide) rfl (by decide) (lw_c3 cx htr hX hbl hbA hLn hi hV hw hk hd hc hs nx)
  by_cases h4 : j = 4
  · subst h4; exact J_tab cx (off := 516) (tgt := 560) dL_law_44 (by decide) (by decide) rfl (by decide) (lw_c4 cx htr hX hbl hbA hLn hi hV hw hk hd hc hs nx)
  by_cases h5 : j = 5
  · subst h5; exact J_tab cx (off := 596) (tgt := 640) dL_law_44 (by decide) (by decide) rfl (by decide) (lw_c5 cx htr hX hbl hbA hLn hi hV hw hk hd hc hs nx)
  by_cases h6 : j = 6
  · subst h6; exact J_tab cx (off := 680) (tgt := 724) dL_law_44 (by decide) (by decide) rfl (by decide) (lw_c6 cx htr hX hbl hbA hLn hi hV hw hk hd hc hs nx)
  by_cases h7 : j = 7
  · subst h7; exact J_tab cx (off := 736) (tgt := 780) dL_law_44 (by decide) (by decide) rfl (by decide) (lw_c7 cx htr hX hbl hbA hLn hi hV hw hk hd hc hs nx)
  by_cases h8 : j = 8
  · subst h8; exact J_tab cx (off := 792) (tgt := 836) dL_law_44 (by decide) (by decide) rfl (by decide) (lw_c8 cx htr hX hbl hbA hLn hi hV hw hk hd hc hs nx)
  by_cases h9 : j = 9
  · subst h9; exact J_tab cx (off := 848) (tgt := 892) dL_law_44 (by decide) (by decide) rfl (by decide) (lw_c9 cx htr hX hbl hbA hLn hi hV hw hk hd hc hs nx)
  by_cases h10 : j = 10
  · subst h10; exact J_tab cx (off := 861) (tgt := 905) dL_law_44 (by decide) (by decide) rfl (by decide) (lw_c10 cx htr hX hbl hbA hLn hi hV hw hk hd hc hs nx)
  by_cases h11 : j = 11
  · subst h11; exact J_tab cx (off := 874) (tgt := 918) dL_law_44 (by decide) (by decide) rfl (by decide) (lw_c11 cx htr hX hbl hbA hLn hi hV hw hk hd hc hs nx)
  by_cases h12 : j = 12
  · subst h12; exact J_tab cx (off := 930) (tgt := 974) dL_law_44 (by decide) (by decide) rfl (by decide) (lw_c12 cx htr hX hbl hbA hLn hi hV hw hk hd hc hs nx)
  by_cases h13 : j = 13
  · subst h13; exact J_tab cx (off := 986) (tgt := 1030) dL_law_44 (by decide) (by decide) rfl (by decide) (lw_c13 cx htr hX hbl hbA hLn hi hV hw hk hd hc hs nx)
  by_cases h14 : j = 14
  · subst h14; exact J_tab cx (off := 1042) (tgt := 1086) dL_law_44 (by decide) (by decide) rfl (by decide) (lw_c14 cx htr hX hbl hbA hLn hi hV hw hk hd hc hs nx)
  by_cases h15 : j = 15
  · subst h15; exact J_tab cx (off := 1098) (tgt := 1142) dL_law_44 (by decide) (by decide) rfl (by decide) (lw_c15 cx htr hX hbl hbA hLn hi hV hw hk hd hc hs nx)
  by_cases h16 : j = 16
  · subst h16; exact J_tab cx (off := 1154) (tgt := 1198) dL_law_44 (by decide) (by decide) rfl (by decide) (lw_c16 cx htr hX hbl hbA hLn hi hV hw hk hd hc hs nx)
  by_cases h17 : j = 17
  · subst h17; exact J_tab cx (off := 1229) (tgt := 1273) dL_law_44 (by decide) (by decide) rfl (by decide) (lw_c17 cx htr hX hbl hbA hLn hi hV hw hk hd hc hs nx)
  by_cases h18 : j = 18
  · subst h18; exact J_tab cx (off := 1304) (tgt := 1348) dL_law_44 (by decide) (by decide) rfl (by decide) (lw_c18 cx htr hX hbl hbA hLn hi hV hw hk hd hc hs nx)
  by_cases h19 : j = 19
  · subst h19; exact J_tab cx (off := 1379) (tgt := 1423) dL_law_44 (by decide) (by decide) rfl (by decide) (lw_c19 cx htr hX hbl hbA hLn hi hV hw hk hd hc hs nx)
  by_cases h20 : j = 20
  · subst h20; exact J_tab cx (off := 1435) (tgt := 1479) dL_law_44 (by decide) (by decide) rfl (by decide) (lw_c20 cx htr hX hbl hbA hLn hi hV hw hk hd hc hs nx)
  by_cases h21 : j = 21
  · subst h21; exact J_tab cx (off := 1503) (tgt := 1547) dL_law_44 (by decide) (by decide) rfl (by decide) (lw_c21 cx htr hX hbl hbA hLn hi hV hw hk hd hc hs nx)
  by_cases h22 : j = 22
  · subst h22; exact J_tab cx (off := 1571) (tgt := 1615) dL_law_44 (by decide) (by decide) rfl (by decide) (lw_c22 cx htr hX hbl hbA hLn hi hV hw hk hd hc hs nx)
  by_cases h23 : j = 23
  · subst h23; exact J_tab cx (off := 1651) (tgt := 1695) dL_law_44 (by decide) (by decide) rfl (by decide) (lw_c23 cx htr hX hbl hbA hLn hi hV hw hk hd hc hs nx)
  by_cases h24 : j = 24
  · subst h24; exact J_tab cx (off := 1719) (tgt := 1763) dL_law_44 (by decide) (by decide) rfl (by decide) (lw_c24 cx htr hX hbl hbA hLn hi hV hw hk hd hc hs nx)
  by_cases h25 : j = 25
  · subst h25; exact J_tab cx (off := 1787) (tgt := 1831) dL_law_44 (by decide) (by decide) rfl (by decide) (lw_c25 cx htr hX hbl hbA hLn hi hV hw hk hd hc hs nx)
  by_cases h26 : j = 26
  · subst h26; exact J_tab cx (off := 1855) (tgt := 1899) dL_law_44 (by decide) (by decide) rfl (by decide) (lw_c26 cx htr hX hbl hbA hLn hi hV hw hk hd hc hs nx)
  by_cases h27 : j = 27
  · subst h27; exact J_tab cx (off := 1911) (tgt := 1955) dL_law_44 (by decide) (by decide) rfl (by decide) (lw_c27 cx htr hX hbl hbA hLn hi hV hw hk hd hc hs nx)
  by_cases h28 : j = 28
  · subst h28; exact J_tab cx (off := 1955) (tgt := 1999) dL_law_44 (by decide) (by decide) rfl (by decide) (lw_c28 cx htr hX hbl hbA hLn hi hV hw hk hd hc hs nx)
  by_cases h29 : j = 29
  · subst h29; exact J_tab cx (off := 1968) (tgt := 2012) dL_law_44 (by decide) (by decide) rfl (by decide) (lw_c29 cx htr hX hbl hbA hLn hi hV hw hk hd hc hs nx)
  by_cases h30 : j = 30
  · subst h30; exact J_tab cx (off := 1981) (tgt := 2025) dL_law_44 (by decide) (by decide) rfl (by decide) (lw_c30 cx htr hX hbl hbA hLn hi hV hw hk hd hc hs nx)
  by_cases h31 : j = 31
  · subst h31; exact J_tab cx (off := 2036) (tgt := 2080) dL_law_44 (by decide) (by decide) rfl (by decide) (lw_c31 cx htr hX hbl hbA hLn hi hV hw hk hd hc hs nx)
  by_cases h32 : j = 32
  · subst h32; exact J_tab cx (off := 2091) (tgt := 2135) dL_law_44 (by decide) (by decide) rfl (by decide) (lw_c32 cx htr hX hbl hbA hLn hi hV hw hk hd hc hs nx)
  by_cases h33 : j = 33
  · subst h33; exact J_tab cx (off := 2159) (tgt := 2203) dL_law_44 (by decide) (by decide) rfl (by decide) (lw_c33 cx htr hX hbl hbA hLn hi hV hw hk hd hc hs nx)
  by_cases h34 : j = 34
  · subst h34; exact J_tab cx (off := 2238) (tgt := 2282) dL_law_44 (by decide) (by decide) rfl (by decide) (lw_c34 cx htr hX hbl hbA hLn hi hV hw hk hd hc hs nx)
  by_cases h35 : j = 35
  · subst h35; exact J_tab cx (off := 2305) (tgt := 2349) dL_law_44 (by decide) (by decide) rfl (by decide) (lw_c35 cx htr hX hbl hbA hLn hi hV hw hk hd hc hs nx)
  by_cases h36 : j = 36
  · subst h36; exact J_tab cx (off := 2373) (tgt := 2417) dL_law_44 (by decide) (by decide) rfl (by decide) (lw_c36 cx htr hX hbl hbA hLn hi hV hw hk hd hc hs nx)
  by_cases h37 : j = 37
  · subst h37; exact J_tab cx (off := 2452) (tgt := 2496) dL_law_44 (by decide) (by decide) rfl (by decide) (lw_c37 cx htr hX hbl hbA hLn hi hV hw hk hd hc hs nx)
  by_cases h38 : j = 38
  · subst h38; exact J_tab cx (off := 2518) (tgt := 2562) dL_law_44 (by decide) (by decide) rfl (by decide) (lw_c38 cx htr hX hbl hbA hLn hi hV hw hk hd hc hs nx)
  refine J_tabO cx (tgt := 2627) dL_law_44 (Or.inr ?_) (by decide) (J_widen (by omega) (by omega) (nx ad κ X cs lf pr f1 th ch cm rm row f2 rfl ⟨hV, hw, hk⟩ (Nat.le_add_right _ _)))
  rw [nI_toInt (by omega)]
  omega
set_option maxHeartbeats 4000000 in
theorem lw_loop (cx : CX p l s m args meth c RL cL_law ret 9 D g A) (htr : l.stackTraces = false) (hX : va_X b Ln xs s s.heap) (hbl : b < s.heap.size) (hbA : ¬ A b) (hLn : Ln ≤ 2560) (x o1 o2 : Nat) (am : Nat → Nat) (fin : ∀ (ws : va_W) (L : List (Nat × Value)), J p l e room_1 s m args below meth c D A 9 Q 637457 7103862 ws L 2633 []) :
    ∀ (fu i : Nat) (ad : Nat → Nat → Nat) (κ : CS) (X : XT) (cs : Nat → CT) (lf : Nat → Int64) (pr : PT) (f1 : Nat → Int64) (th : Int32) (ch : Nat → Nat) (cm rm : Nat) (row : Nat → Int64) (f2 : Nat → UInt64), Ln < fu + i → i ≤ 2600 → ad 0 0 = x → INV κ X cs → κ.2.2.1 2 ≤ 999 * i + 10 → J p l e room_1 s m args below meth c D A 9 Q (100 + 20 * i) (2000 + 120 * i) (wW g ad κ X cs lf pr o1 f1 am κ th ch cm rm row o2 f2) (LL b x (am 0) o1 o2 i) 28 [] := by
  have key : ∀ (i : Nat) (ad : Nat → Nat → Nat) (κ : CS) (X : XT) (cs : Nat → CT) (lf : Nat → Int64) (pr : PT) (f1 : Nat → Int64) (th : Int32) (ch : Nat → Nat) (cm rm : Nat) (row : Nat → Int64) (f2 : Nat → UInt64), i ≤ 2600 → ad 0 0 = x → INV κ X cs → κ.2.2.1 2 ≤ 999 * i + 10 →
      (i + 5 ≤ Ln → ∀ (ad : Nat → Nat → Nat) (κ : CS) (X : XT) (cs : Nat → CT) (lf : Nat → Int64) (pr : PT) (f1 : Nat → Int64) (th : Int32) (ch : Nat → Nat) (cm rm : Nat) (row : Nat → Int64) (f2 : Nat → UInt64), ad 0 0 = x → INV κ X cs → κ.2.2.1 2 ≤ 999 * (i + 5) + 10 → J p l e room_1 s m args below meth c D A 9 Q (100 + 20 * (i + 5)) (2000 + 120 * (i + 5)) (wW g ad κ X cs lf pr o1 f1 am κ th ch cm rm row o2 f2) (LL b x (am 0) o1 o2 (i + 5)) 28 []) →
      J p l e room_1 s m args below meth c D A 9 Q (100 + 20 * i) (2000 + 120 * i) (wW g ad κ X cs lf pr o1 f1 am κ th ch cm rm row o2 f2) (LL b x (am 0) o1 o2 i) 28 [] := by
    intro i ad κ X cs lf pr f1 th ch cm rm row f2 hi0 hx hinv hN ih
    subst hx
    obtain ⟨hV, hw, hk⟩ := hinv
    refine J_iload cx dL_law_28 0 rfl ?_
    refine J_aload_n cx dL_law_30 rfl 5 rfl ?_
    refine J_slen cx hX hbl hbA dL_law_31 ?_
    refine J_iconst cx (v := nI 5) dL_law_32 (by decide) ?_
    refine J_isub cx dL_law_33 ?_
    refine J_icmp_gt cx (tgt := 2633) dL_law_34 (by decide) (fun _ => J_widen (by omega) (by omega) (fin _ _)) (fun h => ?_)
    have hi : i + 5 ≤ Ln := lw_more hLn hi0 h
    refine J_aload_n cx dL_law_37 rfl 5 rfl ?_
    refine J_iload cx dL_law_38 0 rfl ?_
    refine J_sld cx hX hbl hbA rfl (by omega) (by omega) dL_law_40 ?_
    refine J_bipush cx (v := nI 63) dL_law_41 (by decide) ?_
    refine J_iand cx dL_law_43 ?_
    refine lw_case cx htr hX hbl hbA hLn hi hV hw hk (by omega) (show 100 + 20 * i + 20 ≤ 637457 by omega) (show 2000 + 120 * i + 120 ≤ 7103862 by omega) ?_
    intro ad' κ' X' cs' lf' pr' f1' th' ch' cm' rm' row' f2' hx' hinv' hN'
    refine J_iinc cx (v := nI (i + 5)) (L' := LL b (ad 0 0) (am 0) o1 o2 (i + 5)) dL_law_2627 0 rfl (by exact nI_add i 5) (by decide) rfl ?_
    refine J_goto cx (tgt := 28) dL_law_2630 (by decide) ?_
    exact J_widen (by omega) (by omega) (ih hi ad' κ' X' cs' lf' pr' f1' th' ch' cm' rm' row' f2' hx' hinv' (by omega))
  intro fu
  induction fu with
  | zero =>
    intro i ad κ X cs lf pr f1 th ch cm rm row f2 hfu hi0 hx hinv hN
    exact key i ad κ X cs lf pr f1 th ch cm rm row f2 hi0 hx hinv hN (fun hi => absurd hi (by omega))
  | succ fu ih =>
    intro i ad κ X cs lf pr f1 th ch cm rm row f2 hfu hi0 hx hinv hN
    exact key i ad κ X cs lf pr f1 th ch cm rm row f2 hi0 hx hinv hN (fun hi ad κ X cs lf pr f1 th ch cm rm row f2 hx hinv hN => ih (i + 5) ad κ X cs lf pr f1 th ch cm rm row f2 (by omega) (by omega) hx hinv hN)
end LP
