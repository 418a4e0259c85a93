theorem rj_rt (κ : CS) (lf : Nat → Int64) {n0 : Nat} (h1 : 1 ≤ n0) (h2 : n0 ≤ 40) : rfF jn (rjS jn (ent κ) lf n0).2 ((rjS jn (ent κ) lf n0).1 - 1) ((rjS jn (ent κ) lf n0).2 ((rjS jn (ent κ) lf n0).1 - 1)) = rt κ 6 0 n0 :=
  (rjR_rt jn (ent κ) lf n0 h1 h2).trans (rt_G κ 6 0 n0).symm
def dsP (κ : CS) (xe xs : Int32) (pr : PT) : PT := if decide (prC κ xe xs = 0) then dsK κ (xj xe + 1) false 6 0 (xj xs) (pr.1, pr.2.1, 0) else pr
def dsG (κ : CS) (xe xs : Int32) (pr : PT) : PT := if decide (grC κ xe xs = 0) then dsK κ (xj xe) true 6 0 (xj xs) (pr.1, pr.2.1, 0) else pr
theorem dsP_n {κ : CS} {xe xs : Int32} {pr : PT} (h : prC κ xe xs ≠ 0) : dsP κ xe xs pr = pr := by unfold dsP; rw [decide_eq_false h]; rfl
theorem dsG_n {κ : CS} {xe xs : Int32} {pr : PT} (h : grC κ xe xs ≠ 0) : dsG κ xe xs pr = pr := by unfold dsG; rw [decide_eq_false h]; rfl
theorem prC_1 {κ : CS} {xe xs : Int32} (h : sizB κ xs = false) : prC κ xe xs = 1 := by unfold prC; rw [if_neg (by rw [h]; decide)]
theorem grC_1 {κ : CS} {xe xs : Int32} (h : sizB κ xs = false) : grC κ xe xs = 1 := by unfold grC; rw [if_neg (by rw [h]; decide)]
theorem prC_2 {κ : CS} {xe : Int32} {j : Nat} (h : sizB κ (nI j) = true) (hj : j < 41) (h2 : inR j xe = false) : prC κ xe (nI j) = 2 := by unfold prC; rw [if_pos h, show xj (nI j) = j from nI_clamp (by omega), if_neg (by rw [h2]; decide)]
theorem prC_00 {κ : CS} {xe : Int32} {j : Nat} (h : sizB κ (nI j) = true) (hj : j < 41) (h2 : inR j xe = true) : prC κ xe (nI j) = 0 := by unfold prC; rw [if_pos h, show xj (nI j) = j from nI_clamp (by omega), if_pos h2]
theorem grC_2 {κ : CS} {xe : Int32} {j : Nat} (h : sizB κ (nI j) = true) (h2 : isInB xe (nI 1) (nI j) = false) : grC κ xe (nI j) = 2 := by unfold grC; rw [if_pos h, if_neg (by rw [h2]; decide)]
theorem grC_00 {κ : CS} {xe : Int32} {j : Nat} (h : sizB κ (nI j) = true) (h2 : isInB xe (nI 1) (nI j) = true) : grC κ xe (nI j) = 0 := by unfold grC; rw [if_pos h, if_pos h2]
theorem dsK_le {κ : CS} {sm : Nat} {gr : Bool} : ∀ d fr lf q, (dsK κ sm gr d fr lf q).2.2 ≤ q.2.2 + d + 1 := by
  have hf : ∀ fr lf q, (fiP κ gr fr lf q).2.2 ≤ q.2.2 + 1 := by
    intro fr lf q; unfold fiP; split
    · exact Nat.le_refl _
    · exact Nat.le_succ _
  intro d
  induction d with
  | zero => intro fr lf q; exact hf fr lf q
  | succ d ih =>
    intro fr lf q
    show (if decide (lf ≤ 1) then fiP κ gr fr lf q else if gr && decide (sm = fr + lf) then fiP κ gr fr lf q else if decide (sm ≤ fr + spl lf) then dsK κ sm gr d fr (spl lf) (puP q (rt κ 6 (fr + spl lf) (lf - spl lf)) false) else dsK κ sm gr d (fr + spl lf) (lf - spl lf) (puP q (rt κ 6 fr (spl lf)) true)).2.2 ≤ _
    split
    · have := hf fr lf q; omega
    · split
      · have := hf fr lf q; omega
      · split
        · have := ih fr (spl lf) (puP q (rt κ 6 (fr + spl lf) (lf - spl lf)) false); have h2 : (puP q (rt κ 6 (fr + spl lf) (lf - spl lf)) false).2.2 = q.2.2 + 1 := rfl; omega
        · have := ih (fr + spl lf) (lf - spl lf) (puP q (rt κ 6 fr (spl lf)) true); have h2 : (puP q (rt κ 6 fr (spl lf)) true).2.2 = q.2.2 + 1 := rfl; omega
set_option maxHeartbeats 4000000 in
set_option maxRecDepth 100000 in
theorem tX6_rootByJoining (l : Launch) (D : va_G) (g : Nat → ClassId) (A : Nat → Prop) (ad : Nat → Nat → Nat) (κ : CS) (X : XT) (cs : Nat → CT) (lf : Nat → Int64) (pr : PT)  (xs : Int32) (htr : l.stackTraces = false) (hEn : ∀ i, i < κ.2.2.1 0 → X.2.2.2.2.2.2.2.2 i = ent κ i) (hn : κ.2.2.1 0 ≤ 40) : vx_Met l yX6_rootByJoining (wsA yX6_rootByJoining cX6_rootByJoining 2 (some .long)) ({ frames := 7, cells := 1, slots := 6, locals := 111 } : Room) (va_Pc [.ref (ad 0 0), .int xs] (PRE D g A (iW ad g κ X cs lf pr))) (va_Ql (fun (r : Int64) (_ : Unit) => ((opRoot κ xs)).1 = 0 ∧ r = ((opRoot κ xs)).2) (fun _ => PO D A (iW ad g κ X cs ((rjS jn (ent κ) lf (xj xs)).2) pr)) A) (XQ (fun E => thrE ["java/lang/IllegalArgumentException"] ((opRoot κ xs)).1 E) D A (iW ad g κ X cs lf pr)) 1 6 A := by
  refine metX (by decide) (Nat.le_of_ble_eq_true rfl) ?_
  intro p e s m args below meth c _ hex cx
  refine J_aload_n cx dX6_rootByJoining_0 rfl 0 rfl ?_
  refine J_iload_n cx dX6_rootByJoining_1 rfl 1 rfl ?_
  refine J_xcallVv cx hex kX6_231 (As := [.int xs]) (tX6_requireSize l D g A ad κ X cs lf pr  xs htr ) (fun E h => by obtain ⟨h1, h2⟩ := h; subst h2; exact ⟨by simp [opRoot, xj, h1, true_and], by simp [opRoot, xj, h1, true_and]⟩) ⟨by decide, by decide⟩ ⟨rfl, rfl, by decide, by decide⟩ ⟨by decide, by decide⟩ rfl 0 rfl rfl rfl (Nat.le_of_ble_eq_true rfl) dX6_rootByJoining_2 ?_
  intro _ hr
  have hsz := hr
  obtain ⟨j, hj1, hj, hxj⟩ := sizB_ex hsz hn; subst hxj
  have hjc : (nI j).toNatClampNeg = j := nI_clamp (by omega)
  refine J_aload_n cx dX6_rootByJoining_5 rfl 0 rfl ?_
  refine J_get cx (v := .ref (ad 0 5)) fX6_25 0 rfl rfl dX6_rootByJoining_6 ?_
  refine J_iload_n cx dX6_rootByJoining_9 rfl 1 rfl ?_
  refine J_callVl cx kX6_238 (As := [.int (nI j)]) (tX4_rootOfJoined l D g A ad κ X cs lf pr  j hEn hn (by omega) (by omega)) ⟨rfl, rfl, by decide, by decide⟩ ⟨by decide, by decide⟩ rfl 5 rfl rfl rfl (Nat.le_of_ble_eq_true rfl) dX6_rootByJoining_10 ?_
  intro _ _ hr; cases hr
  refine J_x ?_
  exact J_lret cx rfl (u := ()) ⟨by simp [opRoot, xj, hsz, hjc], by rw [rj_rt κ lf (by omega) (by omega)]; simp [opRoot, xj, hsz, hjc]⟩ (by rw [show xj (nI j) = j from hjc]) (Nat.le_of_ble_eq_true rfl) (Nat.le_of_ble_eq_true rfl) dX6_rootByJoining_13
set_option maxHeartbeats 4000000 in
set_option maxRecDepth 100000 in
theorem tX4_descend (l : Launch) (D : va_G) (g : Nat → ClassId) (A : Nat → Prop) (ad : Nat → Nat → Nat) (κ : CS) (X : XT) (cs : Nat → CT) (lf : Nat → Int64) (pr : PT)  (sm : Nat) (nn : Nat) (gr : Bool) (hEn : ∀ i, i < κ.2.2.1 0 → X.2.2.2.2.2.2.2.2 i = ent κ i) (hn : κ.2.2.1 0 ≤ 40) (h1 : 1 ≤ nn) (h2 : nn ≤ κ.2.2.1 0) (hsm : sm ≤ 41) (hp0 : pr.2.2 = 0) : CtV l D g A yX4_descend cX4_descend 8 ({ frames := 10, cells := 0, slots := 0, locals := 244 } : Room) [.ref (ad 0 5), .int (nI sm), .int (nI nn), .int (zb gr)] (iW ad g κ X cs lf pr) (iW ad g κ X cs lf (dsK κ sm gr 6 0 nn pr)) := by
  refine metJ (by decide) (Nat.le_of_ble_eq_true rfl) ?_
  intro p e s m args below meth c _ _ cx
  refine J_iconst cx (v := nI 0) dX4_descend_0 (by decide) ?_
  refine J_istore cx (L' := [(4, .int (nI 0)), (0, .ref (ad 0 5)), (1, .int (nI sm)), (2, .int (nI nn)), (3, .int (zb gr))]) dX4_descend_1 (by decide) rfl ?_
  refine J_iload_n cx dX4_descend_3 rfl 3 rfl ?_
  refine J_istore cx (L' := [(5, .int (nI nn)), (4, .int (nI 0)), (0, .ref (ad 0 5)), (1, .int (nI sm)), (2, .int (nI nn)), (3, .int (zb gr))]) dX4_descend_4 (by decide) rfl ?_
  refine J_iconst cx (v := nI 0) dX4_descend_6 (by decide) ?_
  refine J_istore cx (L' := [(6, .int (nI 0)), (5, .int (nI nn)), (4, .int (nI 0)), (0, .ref (ad 0 5)), (1, .int (nI sm)), (2, .int (nI nn)), (3, .int (zb gr))]) dX4_descend_7 (by decide) rfl ?_
  have LP : ∀ (fu : Nat) (d : Nat) (fr : Nat) (lq : Nat) (dp : Nat) (pq : PT), (1 ≤ lq) → (lq ≤ 2 ^ d) → (dp + d ≤ 6) → (d ≤ 6) → (fr + lq ≤ κ.2.2.1 0) → (pq.2.2 ≤ dp) → (dsK κ sm gr d fr lq pq = dsK κ sm gr 6 0 nn pr) → lq < fu → J p l e ({ frames := 10, cells := 0, slots := 0, locals := 244 } : Room) s m args below meth c D A 8 (MQ below (va_Qv (fun (_ : Unit) => True) (fun _ => PO D A (iW ad g κ X cs lf (dsK κ sm gr 6 0 nn pr))) A) args s 0 0 A) 0 0 (iW ad g κ X cs lf pq) [(4, .int (nI fr)), (5, .int (nI lq)), (6, .int (nI dp)), (0, .ref (ad 0 5)), (1, .int (nI sm)), (2, .int (nI nn)), (3, .int (zb gr))] 9 [] := by
    intro fu; induction fu with
    | zero => intro d fr lq dp pq hl1 hp hdp hd6 hfl hq8 heq hfu; exact absurd hfu (Nat.not_lt_zero _)
    | succ fu ih =>
      intro d fr lq dp pq hl1 hp hdp hd6 hfl hq8 heq hfu
      refine J_iload cx dX4_descend_9 2 rfl ?_
      refine J_bipush cx (v := nI 8) dX4_descend_11 (by decide) ?_
      refine J_icmp_ge cx (tgt := 119) dX4_descend_13 (by decide) (fun c_1 => ?_) (fun c_1 => ?_)
      · have c_1 := (nat_ic_ge (by omega) (by omega)).mp c_1
        have c_1d := decide_eq_true c_1
        exfalso; omega
      · have c_1 := (nat_ic_ge_f (by omega) (by omega)).mp c_1
        have c_1d := decide_eq_false (Nat.not_le.mpr c_1)
        refine J_iload cx dX4_descend_16 1 rfl ?_
        refine J_iconst cx (v := nI 1) dX4_descend_18 (by decide) ?_
        refine J_icmp_le cx (tgt := 119) dX4_descend_19 (by decide) (fun c_2 => ?_) (fun c_2 => ?_)
        · have c_2 := (nat_ic_le (by omega) (by omega)).mp c_2
          have c_2d := decide_eq_true c_2
          have hz : dsK κ sm gr d fr lq pq = fiP κ gr fr lq pq := dsK_z (by first | exact Or.inl (by omega) | exact Or.inr ⟨by assumption, by omega⟩)
          refine J_iload_n cx dX4_descend_119 rfl 6 rfl ?_
          refine J_ifz_eq cx (tgt := 144) dX4_descend_120 (by decide) (fun c_3 => ?_) (fun c_3 => ?_)
          · exact J_vret cx rfl (u := ()) trivial (by rw [← heq, hz]; unfold fiP; rw [show (gr && decide (0 < fr)) = false from by first | (simp [c_1, c_1d, c_2, c_2d, c_3]; done) | (simp [c_1, c_1d, c_2, c_2d, c_3]; omega)]; try rfl) (Nat.le_of_ble_eq_true rfl) (Nat.le_of_ble_eq_true rfl) dX4_descend_144
          · refine J_iload cx dX4_descend_123 0 rfl ?_
            refine J_if_le cx (tgt := 144) dX4_descend_125 (by decide) (fun c_4 => ?_) (fun c_4 => ?_)
            · have c_4 := (nat_if_le (by omega)).mp c_4
              exact J_vret cx rfl (u := ()) trivial (by rw [← heq, hz]; unfold fiP; rw [show (gr && decide (0 < fr)) = false from by first | (simp [c_1, c_1d, c_2, c_2d, c_3, c_4]; done) | (simp [c_1, c_1d, c_2, c_2d, c_3, c_4]; omega)]; try rfl) (Nat.le_of_ble_eq_true rfl) (Nat.le_of_ble_eq_true rfl) dX4_descend_144
            · have c_4 := (nat_if_le_f (by omega)).mp c_4
              refine J_aload_n cx dX4_descend_128 rfl 3 rfl ?_
              refine J_get cx (v := .ref (ad 0 8)) fX4_21 5 rfl rfl dX4_descend_129 ?_
              refine J_aload_n cx dX4_descend_132 rfl 3 rfl ?_
              refine J_iload cx dX4_descend_133 0 rfl ?_
              refine J_iload cx dX4_descend_135 1 rfl ?_
              refine J_callVl cx kX4_96 (As := [.int (nI fr), .int (nI lq)]) (tX4_rootByDividing l D g A ad κ X cs lf pq  fr lq hEn hn (by omega) (by omega)) ⟨rfl, rfl, (by first | decide | (simp only [rmQ]; omega)), (by first | decide | (simp only [rmQ]; omega))⟩ ⟨(by first | decide | (simp only [rmQ]; omega)), (by first | decide | (simp only [rmQ]; omega))⟩ rfl 5 rfl rfl rfl (Nat.le_of_ble_eq_true rfl) dX4_descend_137 ?_
              intro _ _ hr; cases hr
              refine J_iconst cx (v := nI 1) dX4_descend_140 (by decide) ?_
              refine J_callVv cx kX4_100 (As := [.long (rt κ 6 fr lq), .int (nI 1)]) (tX5_push l D g A ad κ X cs lf pq  (rt κ 6 fr lq) true (by omega)) ⟨rfl, rfl, (by first | decide | (simp only [rmQ]; omega)), (by first | decide | (simp only [rmQ]; omega))⟩ ⟨(by first | decide | (simp only [rmQ]; omega)), (by first | decide | (simp only [rmQ]; omega))⟩ rfl 8 rfl rfl rfl (Nat.le_of_ble_eq_true rfl) dX4_descend_141 ?_
              intro _ _
              exact J_vret cx rfl (u := ()) trivial (by rw [← heq, hz]; unfold fiP; rw [show (gr && decide (0 < fr)) = true from by first | (simp [c_1, c_1d, c_2, c_2d, c_3, c_4]; done) | (simp [c_1, c_1d, c_2, c_2d, c_3, c_4]; omega)]; try rfl) (Nat.le_of_ble_eq_true rfl) (Nat.le_of_ble_eq_true rfl) dX4_descend_144
        · have c_2 := (nat_ic_le_f (by omega) (by omega)).mp c_2
          have c_2d := decide_eq_false (Nat.not_le.mpr c_2)
          refine J_iload_n cx dX4_descend_22 rfl 6 rfl ?_
          refine J_ifz_eq cx (tgt := 38) dX4_descend_23 (by decide) (fun c_5 => ?_) (fun c_5 => ?_)
          · have hg : (gr && decide (sm = fr + lq)) = false := by simp [c_1, c_1d, c_2, c_2d, c_5]
            refine J_iload cx dX4_descend_38 1 rfl ?_
            refine J_callSi cx kX4_71 (As := [.int (nI lq)]) (tX4_sizeOfFirstPart l D g A ad κ X cs lf pq  lq (by omega)) ⟨rfl, rfl, (by first | decide | (simp only [rmQ]; omega)), (by first | decide | (simp only [rmQ]; omega))⟩ ⟨(by first | decide | (simp only [rmQ]; omega)), (by first | decide | (simp only [rmQ]; omega))⟩ rfl rfl (Nat.le_of_ble_eq_true rfl) dX4_descend_40 ?_
            intro _ _ hr; cases hr
            obtain ⟨hs1, hs2, hs3, hs4⟩ := spl_spec lq (by omega) (by omega)
            have hd1 := pow_p (by omega) hp
            have hs5 := hs4 (d - 1) (by omega) (by rw [Nat.sub_add_cancel hd1]; exact hp)
            refine J_istore cx (L' := [(7, .int (nI (spl lq))), (4, .int (nI fr)), (5, .int (nI lq)), (6, .int (nI dp)), (0, .ref (ad 0 5)), (1, .int (nI sm)), (2, .int (nI nn)), (3, .int (zb gr))]) dX4_descend_43 (by decide) rfl ?_
            refine J_iload_n cx dX4_descend_45 rfl 5 rfl ?_
            refine J_iload cx dX4_descend_46 1 rfl ?_
            refine J_iload cx dX4_descend_48 0 rfl ?_
            refine J_iadd cx dX4_descend_50 ?_
            refine J_top (v' := .int (nI (fr + (spl lq)))) (congrArg Value.int (nI_add fr (spl lq))) ?_
            refine J_icmp_gt cx (tgt := 83) dX4_descend_51 (by decide) (fun c_6 => ?_) (fun c_6 => ?_)
            · have c_6 := (nat_ic_gt (by omega) (by omega)).mp c_6
              have c_6d := decide_eq_true c_6
              refine J_aload_n cx dX4_descend_83 rfl 4 rfl ?_
              refine J_get cx (v := .ref (ad 0 8)) fX4_21 5 rfl rfl dX4_descend_84 ?_
              refine J_aload_n cx dX4_descend_87 rfl 4 rfl ?_
              refine J_iload cx dX4_descend_88 1 rfl ?_
              refine J_iload cx dX4_descend_90 0 rfl ?_
              refine J_callVl cx kX4_96 (As := [.int (nI fr), .int (nI (spl lq))]) (tX4_rootByDividing l D g A ad κ X cs lf pq  fr (spl lq) hEn hn (by omega) (by omega)) ⟨rfl, rfl, (by first | decide | (simp only [rmQ]; omega)), (by first | decide | (simp only [rmQ]; omega))⟩ ⟨(by first | decide | (simp only [rmQ]; omega)), (by first | decide | (simp only [rmQ]; omega))⟩ rfl 5 rfl rfl rfl (Nat.le_of_ble_eq_true rfl) dX4_descend_92 ?_
              intro _ _ hr; cases hr
              refine J_iconst cx (v := nI 1) dX4_descend_95 (by decide) ?_
              refine J_callVv cx kX4_100 (As := [.long (rt κ 6 fr (spl lq)), .int (nI 1)]) (tX5_push l D g A ad κ X cs lf pq  (rt κ 6 fr (spl lq)) true (by omega)) ⟨rfl, rfl, (by first | decide | (simp only [rmQ]; omega)), (by first | decide | (simp only [rmQ]; omega))⟩ ⟨(by first | decide | (simp only [rmQ]; omega)), (by first | decide | (simp only [rmQ]; omega))⟩ rfl 8 rfl rfl rfl (Nat.le_of_ble_eq_true rfl) dX4_descend_96 ?_
              intro _ _
              refine J_iload cx dX4_descend_99 1 rfl ?_
              refine J_iload cx dX4_descend_101 0 rfl ?_
              refine J_iadd cx dX4_descend_103 ?_
              refine J_top (v' := .int (nI (fr + (spl lq)))) (congrArg Value.int (nI_add fr (spl lq))) ?_
              refine J_istore cx (L' := [(4, .int (nI (fr + (spl lq)))), (7, .int (nI (spl lq))), (5, .int (nI lq)), (6, .int (nI dp)), (0, .ref (ad 0 5)), (1, .int (nI sm)), (2, .int (nI nn)), (3, .int (zb gr))]) dX4_descend_104 (by decide) rfl ?_
              refine J_iload cx dX4_descend_106 2 rfl ?_
              refine J_iload cx dX4_descend_108 1 rfl ?_
              refine J_isub cx dX4_descend_110 ?_
              refine J_top (v' := .int (nI (lq - (spl lq)))) (congrArg Value.int (pk_sub (by omega))) ?_
              refine J_istore cx (L' := [(5, .int (nI (lq - (spl lq)))), (4, .int (nI (fr + (spl lq)))), (7, .int (nI (spl lq))), (6, .int (nI dp)), (0, .ref (ad 0 5)), (1, .int (nI sm)), (2, .int (nI nn)), (3, .int (zb gr))]) dX4_descend_111 (by decide) rfl ?_
              refine J_iinc cx (v := (nI (dp + 1))) (L' := [(6, .int (nI (dp + 1))), (5, .int (nI (lq - (spl lq)))), (4, .int (nI (fr + (spl lq)))), (7, .int (nI (spl lq))), (0, .ref (ad 0 5)), (1, .int (nI sm)), (2, .int (nI nn)), (3, .int (zb gr))]) dX4_descend_113 3 rfl (by exact nI_add dp 1) (by decide) rfl ?_
              refine J_goto cx (tgt := 9) dX4_descend_116 (by decide) ?_
              refine J_L [2, 1, 0, 4, 5, 6, 7] rfl ?_
              exact ih (d - 1) (fr + spl lq) (lq - spl lq) (dp + 1) _ (by omega) (Nat.le_trans (by omega) hs5) (by omega) (by omega) (by omega) (by show pq.2.2 + 1 ≤ dp + 1; omega) (by rw [← heq, dsK_b (by omega) hg (by omega) hp]) (by omega)
            · have c_6 := (nat_ic_gt_f (by omega) (by omega)).mp c_6
              have c_6d := decide_eq_false (Nat.not_lt.mpr c_6)
              refine J_aload_n cx dX4_descend_54 rfl 4 rfl ?_
              refine J_get cx (v := .ref (ad 0 8)) fX4_21 5 rfl rfl dX4_descend_55 ?_
              refine J_aload_n cx dX4_descend_58 rfl 4 rfl ?_
              refine J_iload cx dX4_descend_59 1 rfl ?_
              refine J_iload cx dX4_descend_61 0 rfl ?_
              refine J_iadd cx dX4_descend_63 ?_
              refine J_top (v' := .int (nI (fr + (spl lq)))) (congrArg Value.int (nI_add fr (spl lq))) ?_
              refine J_iload cx dX4_descend_64 2 rfl ?_
              refine J_iload cx dX4_descend_66 0 rfl ?_
              refine J_isub cx dX4_descend_68 ?_
              refine J_top (v' := .int (nI (lq - (spl lq)))) (congrArg Value.int (pk_sub (by omega))) ?_
              refine J_callVl cx kX4_96 (As := [.int (nI (fr + (spl lq))), .int (nI (lq - (spl lq)))]) (tX4_rootByDividing l D g A ad κ X cs lf pq  (fr + (spl lq)) (lq - (spl lq)) hEn hn (by omega) (by omega)) ⟨rfl, rfl, (by first | decide | (simp only [rmQ]; omega)), (by first | decide | (simp only [rmQ]; omega))⟩ ⟨(by first | decide | (simp only [rmQ]; omega)), (by first | decide | (simp only [rmQ]; omega))⟩ rfl 5 rfl rfl rfl (Nat.le_of_ble_eq_true rfl) dX4_descend_69 ?_
              intro _ _ hr; cases hr
              refine J_iconst cx (v := nI 0) dX4_descend_72 (by decide) ?_
              refine J_callVv cx kX4_100 (As := [.long (rt κ 6 (fr + (spl lq)) (lq - (spl lq))), .int (nI 0)]) (tX5_push l D g A ad κ X cs lf pq  (rt κ 6 (fr + (spl lq)) (lq - (spl lq))) false (by omega)) ⟨rfl, rfl, (by first | decide | (simp only [rmQ]; omega)), (by first | decide | (simp only [rmQ]; omega))⟩ ⟨(by first | decide | (simp only [rmQ]; omega)), (by first | decide | (simp only [rmQ]; omega))⟩ rfl 8 rfl rfl rfl (Nat.le_of_ble_eq_true rfl) dX4_descend_73 ?_
              intro _ _
              refine J_iload cx dX4_descend_76 0 rfl ?_
              refine J_istore cx (L' := [(5, .int (nI (spl lq))), (7, .int (nI (spl lq))), (4, .int (nI fr)), (6, .int (nI dp)), (0, .ref (ad 0 5)), (1, .int (nI sm)), (2, .int (nI nn)), (3, .int (zb gr))]) dX4_descend_78 (by decide) rfl ?_
              refine J_goto cx (tgt := 113) dX4_descend_80 (by decide) ?_
              refine J_iinc cx (v := (nI (dp + 1))) (L' := [(6, .int (nI (dp + 1))), (5, .int (nI (spl lq))), (7, .int (nI (spl lq))), (4, .int (nI fr)), (0, .ref (ad 0 5)), (1, .int (nI sm)), (2, .int (nI nn)), (3, .int (zb gr))]) dX4_descend_113 3 rfl (by exact nI_add dp 1) (by decide) rfl ?_
              refine J_goto cx (tgt := 9) dX4_descend_116 (by decide) ?_
              refine J_L [3, 1, 0, 4, 5, 6, 7] rfl ?_
              exact ih (d - 1) fr (spl lq) (dp + 1) _ (by omega) hs5 (by omega) (by omega) (by omega) (by show pq.2.2 + 1 ≤ dp + 1; omega) (by rw [← heq, dsK_a (by omega) hg (by omega) hp]) (by omega)
          · refine J_iload_n cx dX4_descend_26 rfl 4 rfl ?_
            refine J_iload cx dX4_descend_27 0 rfl ?_
            refine J_iload cx dX4_descend_29 1 rfl ?_
            refine J_iadd cx dX4_descend_31 ?_
            refine J_top (v' := .int (nI (fr + lq))) (congrArg Value.int (nI_add fr lq)) ?_
            refine J_icmp_ne cx (tgt := 38) dX4_descend_32 (by decide) (fun c_7 => ?_) (fun c_7 => ?_)
            · have c_7 := (nat_ic_ne (by omega) (by omega)).mp c_7
              have c_7d := decide_eq_false c_7
              have hg : (gr && decide (sm = fr + lq)) = false := by simp [c_1, c_1d, c_2, c_2d, c_5, c_7, c_7d]
              refine J_iload cx dX4_descend_38 1 rfl ?_
              refine J_callSi cx kX4_71 (As := [.int (nI lq)]) (tX4_sizeOfFirstPart l D g A ad κ X cs lf pq  lq (by omega)) ⟨rfl, rfl, (by first | decide | (simp only [rmQ]; omega)), (by first | decide | (simp only [rmQ]; omega))⟩ ⟨(by first | decide | (simp only [rmQ]; omega)), (by first | decide | (simp only [rmQ]; omega))⟩ rfl rfl (Nat.le_of_ble_eq_true rfl) dX4_descend_40 ?_
              intro _ _ hr; cases hr
              obtain ⟨hs1, hs2, hs3, hs4⟩ := spl_spec lq (by omega) (by omega)
              have hd1 := pow_p (by omega) hp
              have hs5 := hs4 (d - 1) (by omega) (by rw [Nat.sub_add_cancel hd1]; exact hp)
              refine J_istore cx (L' := [(7, .int (nI (spl lq))), (4, .int (nI fr)), (5, .int (nI lq)), (6, .int (nI dp)), (0, .ref (ad 0 5)), (1, .int (nI sm)), (2, .int (nI nn)), (3, .int (zb gr))]) dX4_descend_43 (by decide) rfl ?_
              refine J_iload_n cx dX4_descend_45 rfl 5 rfl ?_
              refine J_iload cx dX4_descend_46 1 rfl ?_
              refine J_iload cx dX4_descend_48 0 rfl ?_
              refine J_iadd cx dX4_descend_50 ?_
              refine J_top (v' := .int (nI (fr + (spl lq)))) (congrArg Value.int (nI_add fr (spl lq))) ?_
              refine J_icmp_gt cx (tgt := 83) dX4_descend_51 (by decide) (fun c_8 => ?_) (fun c_8 => ?_)
              · have c_8 := (nat_ic_gt (by omega) (by omega)).mp c_8
                have c_8d := decide_eq_true c_8
                refine J_aload_n cx dX4_descend_83 rfl 4 rfl ?_
                refine J_get cx (v := .ref (ad 0 8)) fX4_21 5 rfl rfl dX4_descend_84 ?_
                refine J_aload_n cx dX4_descend_87 rfl 4 rfl ?_
                refine J_iload cx dX4_descend_88 1 rfl ?_
                refine J_iload cx dX4_descend_90 0 rfl ?_
                refine J_callVl cx kX4_96 (As := [.int (nI fr), .int (nI (spl lq))]) (tX4_rootByDividing l D g A ad κ X cs lf pq  fr (spl lq) hEn hn (by omega) (by omega)) ⟨rfl, rfl, (by first | decide | (simp only [rmQ]; omega)), (by first | decide | (simp only [rmQ]; omega))⟩ ⟨(by first | decide | (simp only [rmQ]; omega)), (by first | decide | (simp only [rmQ]; omega))⟩ rfl 5 rfl rfl rfl (Nat.le_of_ble_eq_true rfl) dX4_descend_92 ?_
                intro _ _ hr; cases hr
                refine J_iconst cx (v := nI 1) dX4_descend_95 (by decide) ?_
                refine J_callVv cx kX4_100 (As := [.long (rt κ 6 fr (spl lq)), .int (nI 1)]) (tX5_push l D g A ad κ X cs lf pq  (rt κ 6 fr (spl lq)) true (by omega)) ⟨rfl, rfl, (by first | decide | (simp only [rmQ]; omega)), (by first | decide | (simp only [rmQ]; omega))⟩ ⟨(by first | decide | (simp only [rmQ]; omega)), (by first | decide | (simp only [rmQ]; omega))⟩ rfl 8 rfl rfl rfl (Nat.le_of_ble_eq_true rfl) dX4_descend_96 ?_
                intro _ _
                refine J_iload cx dX4_descend_99 1 rfl ?_
                refine J_iload cx dX4_descend_101 0 rfl ?_
                refine J_iadd cx dX4_descend_103 ?_
                refine J_top (v' := .int (nI (fr + (spl lq)))) (congrArg Value.int (nI_add fr (spl lq))) ?_
                refine J_istore cx (L' := [(4, .int (nI (fr + (spl lq)))), (7, .int (nI (spl lq))), (5, .int (nI lq)), (6, .int (nI dp)), (0, .ref (ad 0 5)), (1, .int (nI sm)), (2, .int (nI nn)), (3, .int (zb gr))]) dX4_descend_104 (by decide) rfl ?_
                refine J_iload cx dX4_descend_106 2 rfl ?_
                refine J_iload cx dX4_descend_108 1 rfl ?_
                refine J_isub cx dX4_descend_110 ?_
                refine J_top (v' := .int (nI (lq - (spl lq)))) (congrArg Value.int (pk_sub (by omega))) ?_
                refine J_istore cx (L' := [(5, .int (nI (lq - (spl lq)))), (4, .int (nI (fr + (spl lq)))), (7, .int (nI (spl lq))), (6, .int (nI dp)), (0, .ref (ad 0 5)), (1, .int (nI sm)), (2, .int (nI nn)), (3, .int (zb gr))]) dX4_descend_111 (by decide) rfl ?_
                refine J_iinc cx (v := (nI (dp + 1))) (L' := [(6, .int (nI (dp + 1))), (5, .int (nI (lq - (spl lq)))), (4, .int (nI (fr + (spl lq)))), (7, .int (nI (spl lq))), (0, .ref (ad 0 5)), (1, .int (nI sm)), (2, .int (nI nn)), (3, .int (zb gr))]) dX4_descend_113 3 rfl (by exact nI_add dp 1) (by decide) rfl ?_
                refine J_goto cx (tgt := 9) dX4_descend_116 (by decide) ?_
                refine J_L [2, 1, 0, 4, 5, 6, 7] rfl ?_
                exact ih (d - 1) (fr + spl lq) (lq - spl lq) (dp + 1) _ (by omega) (Nat.le_trans (by omega) hs5) (by omega) (by omega) (by omega) (by show pq.2.2 + 1 ≤ dp + 1; omega) (by rw [← heq, dsK_b (by omega) hg (by omega) hp]) (by omega)
              · have c_8 := (nat_ic_gt_f (by omega) (by omega)).mp c_8
                have c_8d := decide_eq_false (Nat.not_lt.mpr c_8)
                refine J_aload_n cx dX4_descend_54 rfl 4 rfl ?_
                refine J_get cx (v := .ref (ad 0 8)) fX4_21 5 rfl rfl dX4_descend_55 ?_
                refine J_aload_n cx dX4_descend_58 rfl 4 rfl ?_
                refine J_iload cx dX4_descend_59 1 rfl ?_
                refine J_iload cx dX4_descend_61 0 rfl ?_
                refine J_iadd cx dX4_descend_63 ?_
                refine J_top (v' := .int (nI (fr + (spl lq)))) (congrArg Value.int (nI_add fr (spl lq))) ?_
                refine J_iload cx dX4_descend_64 2 rfl ?_
                refine J_iload cx dX4_descend_66 0 rfl ?_
                refine J_isub cx dX4_descend_68 ?_
                refine J_top (v' := .int (nI (lq - (spl lq)))) (congrArg Value.int (pk_sub (by omega))) ?_
                refine J_callVl cx kX4_96 (As := [.int (nI (fr + (spl lq))), .int (nI (lq - (spl lq)))]) (tX4_rootByDividing l D g A ad κ X cs lf pq  (fr + (spl lq)) (lq - (spl lq)) hEn hn (by omega) (by omega)) ⟨rfl, rfl, (by first | decide | (simp only [rmQ]; omega)), (by first | decide | (simp only [rmQ]; omega))⟩ ⟨(by first | decide | (simp only [rmQ]; omega)), (by first | decide | (simp only [rmQ]; omega))⟩ rfl 5 rfl rfl rfl (Nat.le_of_ble_eq_true rfl) dX4_descend_69 ?_
                intro _ _ hr; cases hr
                refine J_iconst cx (v := nI 0) dX4_descend_72 (by decide) ?_
                refine J_callVv cx kX4_100 (As := [.long (rt κ 6 (fr + (spl lq)) (lq - (spl lq))), .int (nI 0)]) (tX5_push l D g A ad κ X cs lf pq  (rt κ 6 (fr + (spl lq)) (lq - (spl lq))) false (by omega)) ⟨rfl, rfl, (by first | decide | (simp only [rmQ]; omega)), (by first | decide | (simp only [rmQ]; omega))⟩ ⟨(by first | decide | (simp only [rmQ]; omega)), (by first | decide | (simp only [rmQ]; omega))⟩ rfl 8 rfl rfl rfl (Nat.le_of_ble_eq_true rfl) dX4_descend_73 ?_
                intro _ _
                refine J_iload cx dX4_descend_76 0 rfl ?_
                refine J_istore cx (L' := [(5, .int (nI (spl lq))), (7, .int (nI (spl lq))), (4, .int (nI fr)), (6, .int (nI dp)), (0, .ref (ad 0 5)), (1, .int (nI sm)), (2, .int (nI nn)), (3, .int (zb gr))]) dX4_descend_78 (by decide) rfl ?_
                refine J_goto cx (tgt := 113) dX4_descend_80 (by decide) ?_
                refine J_iinc cx (v := (nI (dp + 1))) (L' := [(6, .int (nI (dp + 1))), (5, .int (nI (spl lq))), (7, .int (nI (spl lq))), (4, .int (nI fr)), (0, .ref (ad 0 5)), (1, .int (nI sm)), (2, .int (nI nn)), (3, .int (zb gr))]) dX4_descend_113 3 rfl (by exact nI_add dp 1) (by decide) rfl ?_
                refine J_goto cx (tgt := 9) dX4_descend_116 (by decide) ?_
                refine J_L [3, 1, 0, 4, 5, 6, 7] rfl ?_
                exact ih (d - 1) fr (spl lq) (dp + 1) _ (by omega) hs5 (by omega) (by omega) (by omega) (by show pq.2.2 + 1 ≤ dp + 1; omega) (by rw [← heq, dsK_a (by omega) hg (by omega) hp]) (by omega)
            · have c_7 := (nat_ic_ne_f (by omega) (by omega)).mp c_7
              have c_7d := decide_eq_true c_7
              refine J_goto cx (tgt := 119) dX4_descend_35 (by decide) ?_
              have hz : dsK κ sm gr d fr lq pq = fiP κ gr fr lq pq := dsK_z (by first | exact Or.inl (by omega) | exact Or.inr ⟨by assumption, by omega⟩)
              refine J_iload_n cx dX4_descend_119 rfl 6 rfl ?_
              refine J_ifz_eq cx (tgt := 144) dX4_descend_120 (by decide) (fun h => absurd (c_5.symm.trans h) (by decide)) (fun _ => ?_)
              refine J_iload cx dX4_descend_123 0 rfl ?_
              refine J_if_le cx (tgt := 144) dX4_descend_125 (by decide) (fun c_10 => ?_) (fun c_10 => ?_)
              · have c_10 := (nat_if_le (by omega)).mp c_10
                exact J_vret cx rfl (u := ()) trivial (by rw [← heq, hz]; unfold fiP; rw [show (gr && decide (0 < fr)) = false from by first | (simp [c_1, c_1d, c_2, c_2d, c_5, c_7d, c_10]; done) | (simp [c_1, c_1d, c_2, c_2d, c_5, c_7d, c_10]; omega)]; try rfl) (Nat.le_of_ble_eq_true rfl) (Nat.le_of_ble_eq_true rfl) dX4_descend_144
              · have c_10 := (nat_if_le_f (by omega)).mp c_10
                refine J_aload_n cx dX4_descend_128 rfl 3 rfl ?_
                refine J_get cx (v := .ref (ad 0 8)) fX4_21 5 rfl rfl dX4_descend_129 ?_
                refine J_aload_n cx dX4_descend_132 rfl 3 rfl ?_
                refine J_iload cx dX4_descend_133 0 rfl ?_
                refine J_iload cx dX4_descend_135 1 rfl ?_
                refine J_callVl cx kX4_96 (As := [.int (nI fr), .int (nI lq)]) (tX4_rootByDividing l D g A ad κ X cs lf pq  fr lq hEn hn (by omega) (by omega)) ⟨rfl, rfl, (by first | decide | (simp only [rmQ]; omega)), (by first | decide | (simp only [rmQ]; omega))⟩ ⟨(by first | decide | (simp only [rmQ]; omega)), (by first | decide | (simp only [rmQ]; omega))⟩ rfl 5 rfl rfl rfl (Nat.le_of_ble_eq_true rfl) dX4_descend_137 ?_
                intro _ _ hr; cases hr
                refine J_iconst cx (v := nI 1) dX4_descend_140 (by decide) ?_
                refine J_callVv cx kX4_100 (As := [.long (rt κ 6 fr lq), .int (nI 1)]) (tX5_push l D g A ad κ X cs lf pq  (rt κ 6 fr lq) true (by omega)) ⟨rfl, rfl, (by first | decide | (simp only [rmQ]; omega)), (by first | decide | (simp only [rmQ]; omega))⟩ ⟨(by first | decide | (simp only [rmQ]; omega)), (by first | decide | (simp only [rmQ]; omega))⟩ rfl 8 rfl rfl rfl (Nat.le_of_ble_eq_true rfl) dX4_descend_141 ?_
                intro _ _
                exact J_vret cx rfl (u := ()) trivial (by rw [← heq, hz]; unfold fiP; rw [show (gr && decide (0 < fr)) = true from by first | (simp [c_1, c_1d, c_2, c_2d, c_5, c_7d, c_10]; done) | (simp [c_1, c_1d, c_2, c_2d, c_5, c_7d, c_10]; omega)]; try rfl) (Nat.le_of_ble_eq_true rfl) (Nat.le_of_ble_eq_true rfl) dX4_descend_144
  refine J_L [2, 1, 0, 3, 4, 5, 6] rfl ?_
  exact LP _ 6 0 nn 0 pr h1 (by show _ ≤ 64; omega) (by omega) (by omega) (by omega) (by omega) rfl (Nat.lt_succ_self _)
