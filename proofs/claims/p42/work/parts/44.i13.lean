def bt (j : Nat) : Int64 := lN 1 <<< ((nI j).toInt64 &&& 63)
def tlB (X : XT) (j : Nat) (d : Int32) (r : Nat) : Bool := !decide (d < X.2.2.2.2.2.2.1 r) && !decide (lg_cmp (X.2.2.2.2.2.2.2.1 r &&& bt j) (lN 0) = 0)
/-- the lists with one more -/
def kpX (X : XT) (d : Int32) (v : Int64) : XT := (X.1, X.2.1, X.2.2.1, X.2.2.2.1, X.2.2.2.2.1, X.2.2.2.2.2.1 + 1, upd X.2.2.2.2.2.2.1 X.2.2.2.2.2.1 d, vp_updL X.2.2.2.2.2.2.2.1 X.2.2.2.2.2.1 v, X.2.2.2.2.2.2.2.2)
def teB (κ : CS) (X : XT) (h k : Nat) : Bool := decide (X.2.1 k = h) && κ.2.1 3 k
def teL (κ : CS) (X : XT) (h : Nat) : Nat → Int64
  | 0 => lN 0
  | k + 1 => if mdB (κ.2.2.1 0) (teB κ X h) k then teL κ X h k ||| bt k else teL κ X h k
theorem teL_t {κ : CS} {X : XT} {h k : Nat} (hk : mdB (κ.2.2.1 0) (teB κ X h) k = true) : teL κ X h k ||| bt k = teL κ X h (k + 1) := by show _ = (if _ then _ else _); rw [if_pos hk]
theorem teL_f {κ : CS} {X : XT} {h k : Nat} (hk : mdB (κ.2.2.1 0) (teB κ X h) k = false) : teL κ X h k = teL κ X h (k + 1) := by show _ = (if _ then _ else _); rw [if_neg (by rw [hk]; decide)]
theorem pub_f {κ : CS} {ky : Int32} {k : Nat} (h : k < κ.2.2.1 0 → pendB κ ky k = false) : pubI κ ky (min k (κ.2.2.1 0)) = pubI κ ky (min (k + 1) (κ.2.2.1 0)) := by
  by_cases hk : k < κ.2.2.1 0
  · rw [show min (k + 1) (κ.2.2.1 0) = k + 1 from by omega, show min k (κ.2.2.1 0) = k from by omega]
    show _ = upI (pubI κ ky k) 9 k (if pendB κ ky k then nI (κ.2.2.1 2) else κ.1 9 k)
    rw [h hk]
    funext f i
    unfold upI upd
    by_cases hf : f = 9
    · subst hf; rw [if_pos rfl]
      by_cases hi : i = k
      · subst hi; rw [if_pos rfl]; exact pubI_ge κ ky i i (Nat.le_refl _) 9
      · rw [if_neg hi]
    · rw [if_neg hf]
  · rw [show min (k + 1) (κ.2.2.1 0) = min k (κ.2.2.1 0) from by omega]
theorem pub_t {κ : CS} {ky : Int32} {k : Nat} (hk : k < κ.2.2.1 0) (h : pendB κ ky k = true) : upI (pubI κ ky (min k (κ.2.2.1 0))) 9 k (nI (κ.2.2.1 2)) = pubI κ ky (min (k + 1) (κ.2.2.1 0)) := by
  rw [show min (k + 1) (κ.2.2.1 0) = k + 1 from by omega, show min k (κ.2.2.1 0) = k from by omega]
  show _ = upI (pubI κ ky k) 9 k (if pendB κ ky k then nI (κ.2.2.1 2) else κ.1 9 k)
  rw [if_pos h]
theorem pen_b {κ : CS} {X : XT} (hT : TIE κ X) (hS : ShX κ X) {h k : Nat} (hh : h < κ.2.2.1 1) (hk : k < κ.2.2.1 0) : pendB κ (nI (h + 1)) k = penB κ X h k := (pen_k hT hS hh hk _).symm
theorem pub_0 {κ : CS} {ky : Int32} : ∀ m, m ≤ κ.2.2.1 0 → cnt (pendB κ ky) m = 0 → pubI κ ky m = κ.1
  | 0, _, _ => rfl
  | m + 1, hm, h => by
    have h1 : cnt (pendB κ ky) m + (if pendB κ ky m then 1 else 0) = 0 := h
    have h2 : pendB κ ky m = false := by
      by_cases q : pendB κ ky m = true
      · rw [if_pos q] at h1; omega
      · simpa using q
    have h3 := pub_f (κ := κ) (ky := ky) (k := m) (fun _ => h2)
    rw [show min m (κ.2.2.1 0) = m from by omega, show min (m + 1) (κ.2.2.1 0) = m + 1 from by omega] at h3
    rw [← h3]; exact pub_0 m (by omega) (by omega)
set_option maxHeartbeats 4000000 in
set_option maxRecDepth 100000 in
theorem tX6_bitOf (l : Launch) (D : va_G) (g : Nat → ClassId) (A : Nat → Prop) (ad : Nat → Nat → Nat) (κ : CS) (X : XT) (cs : Nat → CT) (lf : Nat → Int64) (pr : PT)  (j : Nat)  : CtL l D g A yX6_bitOf cX6_bitOf 1 .long ({ frames := 0, cells := 0, slots := 0, locals := 0 } : Room) [.int (nI j)] (iW ad g κ X cs lf pr) (bt j) (iW ad g κ X cs lf pr) := by
  refine metJ (by decide) (Nat.le_of_ble_eq_true rfl) ?_
  intro p e s m args below meth c _ _ cx
  refine J_lconst cx (v := lN 1) dX6_bitOf_0 (by decide) ?_
  refine J_iload_n cx dX6_bitOf_1 rfl 0 rfl ?_
  refine J_lshl cx dX6_bitOf_2 rfl ?_
  exact J_lret cx rfl (u := ()) rfl rfl (Nat.le_of_ble_eq_true rfl) (Nat.le_of_ble_eq_true rfl) dX6_bitOf_3
set_option maxHeartbeats 4000000 in
set_option maxRecDepth 100000 in
theorem tX3_tellOf (l : Launch) (D : va_G) (g : Nat → ClassId) (A : Nat → Prop) (ad : Nat → Nat → Nat) (κ : CS) (X : XT) (cs : Nat → CT) (lf : Nat → Int64) (pr : PT)  (j : Nat) (dy : Int32) (hlz : X.2.2.2.2.2.1 ≤ 40) : CtI l D g A yX3_tellOf cX3_tellOf 4 .boolean ({ frames := 1, cells := 0, slots := 0, locals := 20 } : Room) [.ref (ad 0 2), .int (nI j), .int dy] (iW ad g κ X cs lf pr) (zb (anyN (tlB X j dy) X.2.2.2.2.2.1)) (iW ad g κ X cs lf pr) := by
  refine metJ (by decide) (Nat.le_of_ble_eq_true rfl) ?_
  intro p e s m args below meth c _ _ cx
  refine J_iconst cx (v := nI 0) dX3_tellOf_0 (by decide) ?_
  refine J_istore_n cx (L' := [(3, .int (nI 0)), (0, .ref (ad 0 2)), (1, .int (nI j)), (2, .int dy)]) dX3_tellOf_1 rfl (by decide) rfl ?_
  have LP : ∀ (fu : Nat) (k : Nat), (k ≤ X.2.2.2.2.2.1) → (anyN (tlB X j dy) k = false) → X.2.2.2.2.2.1 - k < fu → J p l e ({ frames := 1, cells := 0, slots := 0, locals := 20 } : Room) s m args below meth c D A 4 (MQ below (va_Qi (fun (r : Int32) (_ : Unit) => r = (zb (anyN (tlB X j dy) X.2.2.2.2.2.1))) (fun _ => PO D A (iW ad g κ X cs lf pr)) A) args s 0 0 A) 0 0 (iW ad g κ X cs lf pr) [(3, .int (nI k)), (0, .ref (ad 0 2)), (1, .int (nI j)), (2, .int dy)] 2 [] := by
    intro fu; induction fu with
    | zero => intro k hk hno hfu; exact absurd hfu (Nat.not_lt_zero _)
    | succ fu ih =>
      intro k hk hno hfu
      refine J_iload_n cx dX3_tellOf_2 rfl 0 rfl ?_
      refine J_aload_n cx dX3_tellOf_3 rfl 1 rfl ?_
      refine J_get cx (v := .int (nI X.2.2.2.2.2.1)) fX3_19 2 rfl rfl dX3_tellOf_4 ?_
      refine J_icmp_ge cx (tgt := 62) dX3_tellOf_7 (by decide) (fun c_1 => ?_) (fun c_1 => ?_)
      · have c_1 := (nat_ic_ge (by omega) (by omega)).mp c_1
        have c_1d := decide_eq_true c_1
        refine J_iconst cx (v := nI 0) dX3_tellOf_62 (by decide) ?_
        exact J_zret cx rfl (u := ()) (rfl) (by rw [show X.2.2.2.2.2.1 = k from by omega, hno]; rfl) rfl (Nat.le_of_ble_eq_true rfl) (Nat.le_of_ble_eq_true rfl) dX3_tellOf_63
      · have c_1 := (nat_ic_ge_f (by omega) (by omega)).mp c_1
        have c_1d := decide_eq_false (Nat.not_le.mpr c_1)
        refine J_iload_n cx dX3_tellOf_10 rfl 0 rfl ?_
        refine J_aload_n cx dX3_tellOf_11 rfl 1 rfl ?_
        refine J_get cx (v := .ref (ad 0 3)) fX3_9 2 rfl rfl dX3_tellOf_12 ?_
        refine J_alen cx (v := nI 40) 3 rfl (t0 := 0) rfl rfl dX3_tellOf_15 ?_
        refine J_icmp_ge cx (tgt := 62) dX3_tellOf_16 (by decide) (fun c_2 => ?_) (fun c_2 => ?_)
        · have c_2 := (nat_ic_ge (by omega) (by omega)).mp c_2
          have c_2d := decide_eq_true c_2
          exfalso; omega
        · have c_2 := (nat_ic_ge_f (by omega) (by omega)).mp c_2
          have c_2d := decide_eq_false (Nat.not_le.mpr c_2)
          refine J_iload_n cx dX3_tellOf_19 rfl 0 rfl ?_
          refine J_aload_n cx dX3_tellOf_20 rfl 1 rfl ?_
          refine J_get cx (v := .ref (ad 0 4)) fX3_15 2 rfl rfl dX3_tellOf_21 ?_
          refine J_alen cx (v := nI 40) 4 rfl (t0 := 1) rfl rfl dX3_tellOf_24 ?_
          refine J_icmp_ge cx (tgt := 62) dX3_tellOf_25 (by decide) (fun c_3 => ?_) (fun c_3 => ?_)
          · have c_3 := (nat_ic_ge (by omega) (by omega)).mp c_3
            have c_3d := decide_eq_true c_3
            exfalso; omega
          · have c_3 := (nat_ic_ge_f (by omega) (by omega)).mp c_3
            have c_3d := decide_eq_false (Nat.not_le.mpr c_3)
            refine J_aload_n cx dX3_tellOf_28 rfl 1 rfl ?_
            refine J_get cx (v := .ref (ad 0 3)) fX3_9 2 rfl rfl dX3_tellOf_29 ?_
            refine J_iload_n cx dX3_tellOf_32 rfl 0 rfl ?_
            refine J_iald cx (j := k) (f := X.2.2.2.2.2.2.1) 3 rfl rfl (by omega) (by decide) dX3_tellOf_33 ?_
            refine J_iload_n cx dX3_tellOf_34 rfl 3 rfl ?_
            refine J_icmp_gt cx (tgt := 56) dX3_tellOf_35 (by decide) (fun c_4 => ?_) (fun c_4 => ?_)
            · have c_4d := decide_eq_true c_4
              refine J_iinc cx (v := (nI (k + 1))) (L' := [(3, .int (nI (k + 1))), (0, .ref (ad 0 2)), (1, .int (nI j)), (2, .int dy)]) dX3_tellOf_56 0 rfl (by exact nI_add k 1) (by decide) rfl ?_
              refine J_goto cx (tgt := 2) dX3_tellOf_59 (by decide) ?_
              refine J_L [0, 1, 2, 3] rfl ?_
              exact ih (k + 1) (by omega) (by show (anyN _ k || _) = false; rw [hno, show tlB X j dy k = false from by simp only [tlB, Bool.and_true, Bool.true_and, Bool.and_false, Bool.false_and, Bool.or_true, Bool.true_or, Bool.or_false, Bool.false_or, Bool.not_true, Bool.not_false, if_true, if_false, Bool.false_eq_true, decide_true, decide_false, ite_true, ite_false, ne_eq, not_true_eq_false, not_false_eq_true, xj, c_1, c_1d, c_2, c_2d, c_3, c_3d, c_4, c_4d]]; rfl) (by omega)
            · have c_4d := decide_eq_false c_4
              refine J_aload_n cx dX3_tellOf_38 rfl 1 rfl ?_
              refine J_get cx (v := .ref (ad 0 4)) fX3_15 2 rfl rfl dX3_tellOf_39 ?_
              refine J_iload_n cx dX3_tellOf_42 rfl 0 rfl ?_
              refine J_lald cx (j := k) (f := X.2.2.2.2.2.2.2.1) 4 rfl rfl (by omega) (by decide) dX3_tellOf_43 ?_
              refine J_iload_n cx dX3_tellOf_44 rfl 2 rfl ?_
              refine J_callNl cx kX3_23 (As := [.int (nI j)]) (tX6_bitOf l D g A ad κ X cs lf pr  j ) ⟨rfl, rfl, by decide, by decide⟩ ⟨by decide, by decide⟩ rfl rfl (Nat.le_of_ble_eq_true rfl) dX3_tellOf_45 ?_
              intro _ _ hr; cases hr
              refine J_land cx dX3_tellOf_48 ?_
              refine J_lconst cx (v := lN 0) dX3_tellOf_49 (by decide) ?_
              refine J_lcmp cx dX3_tellOf_50 ?_
              refine J_if_eq cx (tgt := 56) dX3_tellOf_51 (by decide) (fun c_5 => ?_) (fun c_5 => ?_)
              · have c_5d := decide_eq_true c_5
                refine J_iinc cx (v := (nI (k + 1))) (L' := [(3, .int (nI (k + 1))), (0, .ref (ad 0 2)), (1, .int (nI j)), (2, .int dy)]) dX3_tellOf_56 0 rfl (by exact nI_add k 1) (by decide) rfl ?_
                refine J_goto cx (tgt := 2) dX3_tellOf_59 (by decide) ?_
                refine J_L [0, 1, 2, 3] rfl ?_
                exact ih (k + 1) (by omega) (by show (anyN _ k || _) = false; rw [hno, show tlB X j dy k = false from by simp only [tlB, Bool.and_true, Bool.true_and, Bool.and_false, Bool.false_and, Bool.or_true, Bool.true_or, Bool.or_false, Bool.false_or, Bool.not_true, Bool.not_false, if_true, if_false, Bool.false_eq_true, decide_true, decide_false, ite_true, ite_false, ne_eq, not_true_eq_false, not_false_eq_true, xj, c_1, c_1d, c_2, c_2d, c_3, c_3d, c_4, c_4d, c_5d]]; rfl) (by omega)
              · have c_5d := decide_eq_false c_5
                refine J_iconst cx (v := nI 1) dX3_tellOf_54 (by decide) ?_
                exact J_zret cx rfl (u := ()) (rfl) (by rw [anyN_true (k := k) (by omega) (by simp only [tlB, Bool.and_true, Bool.true_and, Bool.and_false, Bool.false_and, Bool.or_true, Bool.true_or, Bool.or_false, Bool.false_or, Bool.not_true, Bool.not_false, if_true, if_false, Bool.false_eq_true, decide_true, decide_false, ite_true, ite_false, ne_eq, not_true_eq_false, not_false_eq_true, xj, c_1, c_1d, c_2, c_2d, c_3, c_3d, c_4, c_4d, c_5, c_5d])]; rfl) rfl (Nat.le_of_ble_eq_true rfl) (Nat.le_of_ble_eq_true rfl) dX3_tellOf_55
  refine J_L [0, 1, 2, 3] rfl ?_
  exact LP _ 0 (by omega) rfl (Nat.lt_succ_self _)
set_option maxHeartbeats 4000000 in
set_option maxRecDepth 100000 in
theorem tX6_isRevokedByLists (l : Launch) (D : va_G) (g : Nat → ClassId) (A : Nat → Prop) (ad : Nat → Nat → Nat) (κ : CS) (X : XT) (cs : Nat → CT) (lf : Nat → Int64) (pr : PT)  (xc : Int32) (dy : Int32) (htr : l.stackTraces = false) (hS : ShX κ X) (hlz : X.2.2.2.2.2.1 ≤ 40) (hLs : ∀ i, i < κ.2.2.1 0 → ∀ d, anyN (tlB X i d) X.2.2.2.2.2.1 = offB κ i d) : vx_Met l yX6_isRevokedByLists (wsA yX6_isRevokedByLists cX6_isRevokedByLists 4 (some .boolean)) ({ frames := 7, cells := 2, slots := 12, locals := 112 } : Room) (va_Pc [.ref (ad 0 0), .int xc, .int dy] (PRE D g A (iW ad g κ X cs lf pr))) (va_Qi (fun (r : Int32) (_ : Unit) => (opRevoked κ xc dy).1 = 0 ∧ r = zb (opRevoked κ xc dy).2) (fun _ => PO D A (iW ad g κ X cs lf pr)) A) (XQ (fun E => thrE [nsE, "java/lang/IllegalArgumentException"] (opRevoked κ xc dy).1 E) D A (iW ad g κ X cs lf pr)) 2 12 A := by
  have hn := hS.1
  refine metX (by decide) (Nat.le_of_ble_eq_true rfl) ?_
  intro p e s m args below meth c _ hex cx
  refine J_aload_n cx dX6_isRevokedByLists_0 rfl 0 rfl ?_
  refine J_iload_n cx dX6_isRevokedByLists_1 rfl 1 rfl ?_
  refine J_xcallVq cx hex kX6_73 (As := [.int xc]) (tX6_find l D g A ad κ X cs lf pr  xc htr hS) (fun E h => by obtain ⟨h1, h2⟩ := h; subst h2; exact ⟨by simp [opRevoked, wrongC, xj, h1, true_and], by simp [opRevoked, wrongC, xj, h1, true_and]⟩) ⟨by decide, by decide⟩ ⟨rfl, rfl, by decide, by decide⟩ ⟨by decide, by decide⟩ rfl 0 rfl rfl rfl (Nat.le_of_ble_eq_true rfl) dX6_isRevokedByLists_2 ?_
  intro _ j hr; obtain ⟨hj, hxj, hr⟩ := hr; subst hr; subst hxj
  refine J_top (v' := .ref (ad 1 j)) rfl ?_
  have hjR : inR (κ.2.2.1 0) (nI j) = true := by rw [inR_nI (by omega)]; exact decide_eq_true hj
  have hjc : (nI j).toNatClampNeg = j := nI_clamp (by omega)
  refine J_astore_n cx (L' := [(3, .ref (ad 1 j)), (0, .ref (ad 0 0)), (1, .int (nI j)), (2, .int dy)]) dX6_isRevokedByLists_5 rfl (by decide) rfl ?_
  refine J_iload_n cx dX6_isRevokedByLists_6 rfl 3 rfl ?_
  refine J_xcallSv cx hex kX6_166 (As := [.int dy]) (tX6_requireDay l D g A ad κ X cs lf pr  dy htr ) (fun E h => by obtain ⟨h1, h2⟩ := h; subst h2; exact ⟨by simp [opRevoked, wrongC, xj, h1, hjR, hjc], by simp [opRevoked, wrongC, xj, h1, hjR, hjc]⟩) ⟨by decide, by decide⟩ ⟨rfl, rfl, by decide, by decide⟩ ⟨by decide, by decide⟩ rfl rfl (Nat.le_of_ble_eq_true rfl) dX6_isRevokedByLists_7 ?_
  intro _ hr
  have hdz := hr
  refine J_aload_n cx dX6_isRevokedByLists_10 rfl 1 rfl ?_
  refine J_get cx (v := .ref (ad 0 2)) fX6_18 0 rfl rfl dX6_isRevokedByLists_11 ?_
  refine J_aload_n cx dX6_isRevokedByLists_14 rfl 0 rfl ?_
  refine J_get cx (v := .int (nI j)) fX6_173 (17 + j) (iG_c (by first | assumption | omega)) rfl dX6_isRevokedByLists_15 ?_
  refine J_iload_n cx dX6_isRevokedByLists_18 rfl 3 rfl ?_
  refine J_callVi cx kX6_176 (As := [.int (nI j), .int dy]) (tX3_tellOf l D g A ad κ X cs lf pr  j dy hlz) ⟨rfl, rfl, by decide, by decide⟩ ⟨by decide, by decide⟩ rfl 2 rfl rfl rfl (Nat.le_of_ble_eq_true rfl) dX6_isRevokedByLists_19 ?_
  intro _ _ hr; cases hr
  have hoff := hLs j hj dy
  refine J_x ?_
  exact J_zret cx rfl (u := ()) (zb_nar _) ⟨by simp [opRevoked, wrongC, xj, hjR, hjc, hdz, hoff], by simp [opRevoked, wrongC, xj, zb, hjR, hjc, hdz, hoff]⟩ (by simp [opRevoked, wrongC, xj, hjR, hjc, hdz, hoff]; try rfl) (Nat.le_of_ble_eq_true rfl) (Nat.le_of_ble_eq_true rfl) dX6_isRevokedByLists_22
set_option maxHeartbeats 4000000 in
set_option maxRecDepth 100000 in
theorem tX3_keep (l : Launch) (D : va_G) (g : Nat → ClassId) (A : Nat → Prop) (ad : Nat → Nat → Nat) (κ : CS) (X : XT) (cs : Nat → CT) (lf : Nat → Int64) (pr : PT)  (dy : Int32) (v : Int64) (hlz : X.2.2.2.2.2.1 < 40) : CtV l D g A yX3_keep cX3_keep 4 ({ frames := 0, cells := 0, slots := 0, locals := 0 } : Room) [.ref (ad 0 2), .int dy, .long v] (iW ad g κ X cs lf pr) (iW ad g κ (kpX X dy v) cs lf pr) := by
  refine metJ (by decide) (Nat.le_of_ble_eq_true rfl) ?_
  intro p e s m args below meth c _ _ cx
  refine J_aload_n cx dX3_keep_0 rfl 0 rfl ?_
  refine J_get cx (v := .int (nI X.2.2.2.2.2.1)) fX3_19 2 rfl rfl dX3_keep_1 ?_
  refine J_if_lt cx (tgt := 61) dX3_keep_4 (by decide) (fun h => absurd h (nI_pos (by omega))) (fun _ => ?_)
  refine J_aload_n cx dX3_keep_7 rfl 0 rfl ?_
  refine J_get cx (v := .int (nI X.2.2.2.2.2.1)) fX3_19 2 rfl rfl dX3_keep_8 ?_
  refine J_aload_n cx dX3_keep_11 rfl 0 rfl ?_
  refine J_get cx (v := .ref (ad 0 3)) fX3_9 2 rfl rfl dX3_keep_12 ?_
  refine J_alen cx (v := nI 40) 3 rfl (t0 := 0) rfl rfl dX3_keep_15 ?_
  refine J_icmp_ge cx (tgt := 61) dX3_keep_16 (by decide) (fun c_2 => ?_) (fun c_2 => ?_)
  · have c_2 := (nat_ic_ge (by omega) (by omega)).mp c_2
    have c_2d := decide_eq_true c_2
    exfalso; omega
  · have c_2 := (nat_ic_ge_f (by omega) (by omega)).mp c_2
    have c_2d := decide_eq_false (Nat.not_le.mpr c_2)
    refine J_aload_n cx dX3_keep_19 rfl 0 rfl ?_
    refine J_get cx (v := .int (nI X.2.2.2.2.2.1)) fX3_19 2 rfl rfl dX3_keep_20 ?_
    refine J_aload_n cx dX3_keep_23 rfl 0 rfl ?_
    refine J_get cx (v := .ref (ad 0 4)) fX3_15 2 rfl rfl dX3_keep_24 ?_
    refine J_alen cx (v := nI 40) 4 rfl (t0 := 1) rfl rfl dX3_keep_27 ?_
    refine J_icmp_ge cx (tgt := 61) dX3_keep_28 (by decide) (fun c_3 => ?_) (fun c_3 => ?_)
    · have c_3 := (nat_ic_ge (by omega) (by omega)).mp c_3
      have c_3d := decide_eq_true c_3
      exfalso; omega
    · have c_3 := (nat_ic_ge_f (by omega) (by omega)).mp c_3
      have c_3d := decide_eq_false (Nat.not_le.mpr c_3)
      refine J_aload_n cx dX3_keep_31 rfl 0 rfl ?_
      refine J_get cx (v := .ref (ad 0 3)) fX3_9 2 rfl rfl dX3_keep_32 ?_
      refine J_aload_n cx dX3_keep_35 rfl 0 rfl ?_
      refine J_get cx (v := .int (nI X.2.2.2.2.2.1)) fX3_19 2 rfl rfl dX3_keep_36 ?_
      refine J_iload_n cx dX3_keep_39 rfl 1 rfl ?_
      refine J_iast cx (ws' := (iW ad g κ (X.1, X.2.1, X.2.2.1, X.2.2.2.1, X.2.2.2.2.1, X.2.2.2.2.2.1, upd X.2.2.2.2.2.2.1 X.2.2.2.2.2.1 dy, X.2.2.2.2.2.2.2.1, X.2.2.2.2.2.2.2.2) cs lf pr)) (j := X.2.2.2.2.2.1) 3 rfl  rfl (by omega) (by decide) rfl dX3_keep_40 ?_
      refine J_aload_n cx dX3_keep_41 rfl 0 rfl ?_
      refine J_get cx (v := .ref (ad 0 4)) fX3_15 2 rfl rfl dX3_keep_42 ?_
      refine J_aload_n cx dX3_keep_45 rfl 0 rfl ?_
      refine J_get cx (v := .int (nI X.2.2.2.2.2.1)) fX3_19 2 rfl rfl dX3_keep_46 ?_
      refine J_lload_n cx dX3_keep_49 rfl 2 rfl ?_
      refine J_last cx (ws' := (iW ad g κ (X.1, X.2.1, X.2.2.1, X.2.2.2.1, X.2.2.2.2.1, X.2.2.2.2.2.1, upd X.2.2.2.2.2.2.1 X.2.2.2.2.2.1 dy, vp_updL X.2.2.2.2.2.2.2.1 X.2.2.2.2.2.1 v, X.2.2.2.2.2.2.2.2) cs lf pr)) (j := X.2.2.2.2.2.1) 4 rfl  rfl (by omega) (by decide) rfl dX3_keep_50 ?_
      refine J_aload_n cx dX3_keep_51 rfl 0 rfl ?_
      refine J_dup cx dX3_keep_52 rfl ?_
      refine J_get cx (v := .int (nI X.2.2.2.2.2.1)) fX3_19 2 rfl rfl dX3_keep_53 ?_
      refine J_iconst cx (v := nI 1) dX3_keep_56 (by decide) ?_
      refine J_iadd cx dX3_keep_57 ?_
      refine J_top (v' := .int (nI (X.2.2.2.2.2.1 + 1))) (congrArg Value.int (nI_add X.2.2.2.2.2.1 1)) ?_
      refine J_put cx (ws' := (iW ad g κ (X.1, X.2.1, X.2.2.1, X.2.2.2.1, X.2.2.2.2.1, (X.2.2.2.2.2.1 + 1), upd X.2.2.2.2.2.2.1 X.2.2.2.2.2.1 dy, vp_updL X.2.2.2.2.2.2.2.1 X.2.2.2.2.2.1 v, X.2.2.2.2.2.2.2.2) cs lf pr)) fX3_19 ⟨tyX3_ok, nmX3, tyX3_ok 2 (by decide)⟩ rfl 2 rfl rfl rfl (Nat.le_of_ble_eq_true rfl) rfl dX3_keep_58 ?_
      exact J_vret cx rfl (u := ()) trivial rfl (Nat.le_of_ble_eq_true rfl) (Nat.le_of_ble_eq_true rfl) dX3_keep_61
set_option maxHeartbeats 4000000 in
set_option maxRecDepth 100000 in
theorem tX6_takeEffect (l : Launch) (D : va_G) (g : Nat → ClassId) (A : Nat → Prop) (ad : Nat → Nat → Nat) (κ : CS) (X : XT) (cs : Nat → CT) (lf : Nat → Int64) (pr : PT)  (h : Nat) (hS : ShX κ X) (hT : TIE κ X) (hh : h < κ.2.2.1 1) : CtL l D g A yX6_takeEffect cX6_takeEffect 8 .long ({ frames := 1, cells := 0, slots := 0, locals := 20 } : Room) [.ref (ad 0 0), .ref (ad 2 h)] (iW ad g κ X cs lf pr) (teL κ X h 40) (iW ad g (pubI κ (nI (h + 1)) (κ.2.2.1 0), κ.2) X cs lf pr) := by
  have hn := hS.1
  refine metJ (by decide) (Nat.le_of_ble_eq_true rfl) ?_
  intro p e s m args below meth c _ _ cx
  refine J_apart (fun hDD => ?_)
  refine J_lconst cx (v := lN 0) dX6_takeEffect_0 (by decide) ?_
  refine J_lstore_n cx (L' := [(2, .long (lN 0)), (0, .ref (ad 0 0)), (1, .ref (ad 2 h))]) dX6_takeEffect_1 rfl (by decide) rfl ?_
  refine J_aload_n cx dX6_takeEffect_2 rfl 1 rfl ?_
  refine J_get cx (v := .ref (ad 0 1)) fX6_11 0 rfl rfl dX6_takeEffect_3 ?_
  refine J_astore cx (L' := [(4, .ref (ad 0 1)), (2, .long (lN 0)), (0, .ref (ad 0 0)), (1, .ref (ad 2 h))]) dX6_takeEffect_6 (by decide) rfl ?_
  refine J_aload cx dX6_takeEffect_8 0 rfl ?_
  refine J_alen cx (v := nI 40) 1 rfl (t0 := 3) rfl rfl dX6_takeEffect_10 ?_
  refine J_istore cx (L' := [(5, .int (nI 40)), (4, .ref (ad 0 1)), (2, .long (lN 0)), (0, .ref (ad 0 0)), (1, .ref (ad 2 h))]) dX6_takeEffect_11 (by decide) rfl ?_
  refine J_iconst cx (v := nI 0) dX6_takeEffect_13 (by decide) ?_
  refine J_istore cx (L' := [(6, .int (nI 0)), (5, .int (nI 40)), (4, .ref (ad 0 1)), (2, .long (lN 0)), (0, .ref (ad 0 0)), (1, .ref (ad 2 h))]) dX6_takeEffect_14 (by decide) rfl ?_
  have LP : ∀ (fu : Nat) (k : Nat), (k ≤ 40) → 40 - k < fu → J p l e ({ frames := 1, cells := 0, slots := 0, locals := 20 } : Room) s m args below meth c D A 8 (MQ below (va_Ql (fun (r : Int64) (_ : Unit) => r = (teL κ X h 40)) (fun _ => PO D A (iW ad g (pubI κ (nI (h + 1)) (κ.2.2.1 0), κ.2) X cs lf pr)) A) args s 0 0 A) 0 0 (iW ad g (pubI κ (nI (h + 1)) (min k (κ.2.2.1 0)), κ.2.1, κ.2.2.1, κ.2.2.2.1, κ.2.2.2.2) X cs lf pr) [(2, .long (teL κ X h k)), (4, .ref (ad 0 1)), (5, .int (nI 40)), (6, .int (nI k)), (0, .ref (ad 0 0)), (1, .ref (ad 2 h))] 16 [] := by
    intro fu; induction fu with
    | zero => intro k hk hfu; exact absurd hfu (Nat.not_lt_zero _)
    | succ fu ih =>
      intro k hk hfu
      refine J_iload cx dX6_takeEffect_16 3 rfl ?_
      refine J_iload cx dX6_takeEffect_18 2 rfl ?_
      refine J_icmp_ge cx (tgt := 87) dX6_takeEffect_20 (by decide) (fun c_1 => ?_) (fun c_1 => ?_)
      · have c_1 := (nat_ic_ge (by omega) (by omega)).mp c_1
        have c_1d := decide_eq_true c_1
        refine J_lload_n cx dX6_takeEffect_87 rfl 0 rfl ?_
        exact J_lret cx rfl (u := ()) (by rw [show k = 40 from by omega]) (by rw [show min k (κ.2.2.1 0) = κ.2.2.1 0 from by omega]; try rfl) (Nat.le_of_ble_eq_true rfl) (Nat.le_of_ble_eq_true rfl) dX6_takeEffect_88
      · have c_1 := (nat_ic_ge_f (by omega) (by omega)).mp c_1
        have c_1d := decide_eq_false (Nat.not_le.mpr c_1)
        refine J_aload cx dX6_takeEffect_23 1 rfl ?_
        refine J_iload cx dX6_takeEffect_25 3 rfl ?_
        refine J_aald cx (j := k) (f := rfa ad (made (κ.2.2.1 0))) 1 rfl rfl (by omega) (by decide) dX6_takeEffect_27 ?_
        refine J_astoreq cx (L' := [(7, va_rf (rfa ad (made (κ.2.2.1 0)) k)), (2, .long (teL κ X h k)), (4, .ref (ad 0 1)), (5, .int (nI 40)), (6, .int (nI k)), (0, .ref (ad 0 0)), (1, .ref (ad 2 h))]) dX6_takeEffect_28 (by decide) rfl ?_
        refine J_aloadq cx dX6_takeEffect_30 0 rfl ?_
        refine J_ifnull cx (tgt := 81) dX6_takeEffect_32 (by decide) (fun c_2 => ?_) (fun y_3 c_2 => ?_)
        · have hno := made_none (rfa_none c_2)
          refine J_Le (L' := [(7, va_rf (rfa ad (made (κ.2.2.1 0)) k)), (2, .long (teL κ X h (k + 1))), (4, .ref (ad 0 1)), (5, .int (nI 40)), (6, .int (nI k)), (0, .ref (ad 0 0)), (1, .ref (ad 2 h))]) (by rw [← (teL_f (mdB_no hno))]; try rfl) ?_
          refine J_ws (ws' := (iW ad g (pubI κ (nI (h + 1)) (min (k + 1) (κ.2.2.1 0)), κ.2.1, κ.2.2.1, κ.2.2.2.1, κ.2.2.2.2) X cs lf pr)) (by rw [← (pub_f (fun q => absurd q (by omega)))]) ?_
          refine J_iinc cx (v := (nI (k + 1))) (L' := [(6, .int (nI (k + 1))), (7, va_rf (rfa ad (made (κ.2.2.1 0)) k)), (2, .long (teL κ X h (k + 1))), (4, .ref (ad 0 1)), (5, .int (nI 40)), (0, .ref (ad 0 0)), (1, .ref (ad 2 h))]) dX6_takeEffect_81 4 rfl (by exact nI_add k 1) (by decide) rfl ?_
          refine J_goto cx (tgt := 16) dX6_takeEffect_84 (by decide) ?_
          refine J_L [2, 3, 4, 0, 5, 6] rfl ?_
          exact ih (k + 1) (by omega) (by omega)
        · have c_2v := c_2
          obtain ⟨i, him, hiy⟩ := rfa_some c_2; obtain ⟨hi, hie⟩ := made_some him; have hie := hie.symm; subst hie; subst hiy
          refine J_Le (L' := [(7, .ref (ad 1 k)), (2, .long (teL κ X h k)), (4, .ref (ad 0 1)), (5, .int (nI 40)), (6, .int (nI k)), (0, .ref (ad 0 0)), (1, .ref (ad 2 h))]) (by rw [c_2v]; rfl) ?_
          refine J_aload cx dX6_takeEffect_35 0 rfl ?_
          refine J_get cx (v := .ref (ad 2 (X.2.1 k))) fX6_135 (17 + k) (iG_c (by first | assumption | omega)) rfl dX6_takeEffect_37 ?_
          refine J_aload_n cx dX6_takeEffect_40 rfl 6 rfl ?_
          refine J_acmp_ne cx (rx := some (ad 2 (X.2.1 k))) (ry := some (ad 2 h)) (tgt := 81) dX6_takeEffect_41 (by decide) (fun c_4 => ?_) (fun c_4 => ?_)
          · have c_4 : ¬ X.2.1 k = h := fun z => c_4 (by rw [z])
            have c_4d := decide_eq_false c_4
            refine J_Le (L' := [(7, .ref (ad 1 k)), (2, .long (teL κ X h (k + 1))), (4, .ref (ad 0 1)), (5, .int (nI 40)), (6, .int (nI k)), (0, .ref (ad 0 0)), (1, .ref (ad 2 h))]) (by rw [← (teL_f ((mdB_in hi).trans (by simp [teB, c_1, c_1d, c_4d])))]; try rfl) ?_
            refine J_ws (ws' := (iW ad g (pubI κ (nI (h + 1)) (min (k + 1) (κ.2.2.1 0)), κ.2.1, κ.2.2.1, κ.2.2.2.1, κ.2.2.2.2) X cs lf pr)) (by rw [← (pub_f (fun _ => ((pen_b hT hS hh hi).trans (by simp [penB, c_1, c_1d, c_4d]))))]) ?_
            refine J_iinc cx (v := (nI (k + 1))) (L' := [(6, .int (nI (k + 1))), (7, .ref (ad 1 k)), (2, .long (teL κ X h (k + 1))), (4, .ref (ad 0 1)), (5, .int (nI 40)), (0, .ref (ad 0 0)), (1, .ref (ad 2 h))]) dX6_takeEffect_81 4 rfl (by exact nI_add k 1) (by decide) rfl ?_
            refine J_goto cx (tgt := 16) dX6_takeEffect_84 (by decide) ?_
            refine J_L [2, 3, 4, 0, 5, 6] rfl ?_
            exact ih (k + 1) (by omega) (by omega)
          · have c_4 : X.2.1 k = h := iG_ad2 hDD (hS.is hi) hh (Option.some.inj c_4)
            have c_4d := decide_eq_true c_4
            refine J_aload cx dX6_takeEffect_44 0 rfl ?_
            refine J_get cx (v := .int (zb (κ.2.1 3 k))) fX6_130 (17 + k) (iG_c (by first | assumption | omega)) rfl dX6_takeEffect_46 ?_
            refine J_ifz_eq cx (tgt := 81) dX6_takeEffect_49 (by decide) (fun c_5 => ?_) (fun c_5 => ?_)
            · refine J_Le (L' := [(7, .ref (ad 1 k)), (2, .long (teL κ X h (k + 1))), (4, .ref (ad 0 1)), (5, .int (nI 40)), (6, .int (nI k)), (0, .ref (ad 0 0)), (1, .ref (ad 2 h))]) (by rw [← (teL_f ((mdB_in hi).trans (by simp [teB, c_1, c_1d, c_4d, c_5])))]; try rfl) ?_
              refine J_ws (ws' := (iW ad g (pubI κ (nI (h + 1)) (min (k + 1) (κ.2.2.1 0)), κ.2.1, κ.2.2.1, κ.2.2.2.1, κ.2.2.2.2) X cs lf pr)) (by rw [← (pub_f (fun _ => ((pen_b hT hS hh hi).trans (by simp [penB, c_1, c_1d, c_4d, c_5]))))]) ?_
              refine J_iinc cx (v := (nI (k + 1))) (L' := [(6, .int (nI (k + 1))), (7, .ref (ad 1 k)), (2, .long (teL κ X h (k + 1))), (4, .ref (ad 0 1)), (5, .int (nI 40)), (0, .ref (ad 0 0)), (1, .ref (ad 2 h))]) dX6_takeEffect_81 4 rfl (by exact nI_add k 1) (by decide) rfl ?_
              refine J_goto cx (tgt := 16) dX6_takeEffect_84 (by decide) ?_
              refine J_L [2, 3, 4, 0, 5, 6] rfl ?_
              exact ih (k + 1) (by omega) (by omega)
            · refine J_lload_n cx dX6_takeEffect_52 rfl 1 rfl ?_
              refine J_aload cx dX6_takeEffect_53 0 rfl ?_
              refine J_get cx (v := .int (nI k)) fX6_173 (17 + k) (iG_c (by first | assumption | omega)) rfl dX6_takeEffect_55 ?_
              refine J_callSl cx kX6_324 (As := [.int (nI k)]) (tX6_bitOf l D g A ad (pubI κ (nI (h + 1)) (min k (κ.2.2.1 0)), κ.2.1, κ.2.2.1, κ.2.2.2.1, κ.2.2.2.2) X cs lf pr  k ) ⟨rfl, rfl, by decide, by decide⟩ ⟨by decide, by decide⟩ rfl rfl (Nat.le_of_ble_eq_true rfl) dX6_takeEffect_58 ?_
              intro _ _ hr; cases hr
              refine J_lor cx dX6_takeEffect_61 ?_
              refine J_lstore_n cx (L' := [(2, .long ((teL κ X h k) ||| (bt k))), (7, .ref (ad 1 k)), (4, .ref (ad 0 1)), (5, .int (nI 40)), (6, .int (nI k)), (0, .ref (ad 0 0)), (1, .ref (ad 2 h))]) dX6_takeEffect_62 rfl (by decide) rfl ?_
              refine J_aload cx dX6_takeEffect_63 1 rfl ?_
              refine J_get cx (v := .int ((pubI κ (nI (h + 1)) (min k (κ.2.2.1 0))) 9 k)) fX6_271 (17 + k) (iG_c (by first | assumption | omega)) rfl dX6_takeEffect_65 ?_
              refine J_top (v' := .int (κ.1 9 k)) (congrArg Value.int (pubI_ge κ _ _ k (by omega) 9)) ?_
              refine J_iconst cx (v := (-1)) dX6_takeEffect_68 (by decide) ?_
              refine J_icmp_ne cx (tgt := 81) dX6_takeEffect_69 (by decide) (fun c_6 => ?_) (fun c_6 => ?_)
              · have c_6d := decide_eq_false c_6
                refine J_Le (L' := [(2, .long (teL κ X h (k + 1))), (7, .ref (ad 1 k)), (4, .ref (ad 0 1)), (5, .int (nI 40)), (6, .int (nI k)), (0, .ref (ad 0 0)), (1, .ref (ad 2 h))]) (by rw [← (teL_t ((mdB_in hi).trans (by simp [teB, c_1, c_1d, c_4d, c_5, c_6, c_6d])))]; try rfl) ?_
                refine J_ws (ws' := (iW ad g (pubI κ (nI (h + 1)) (min (k + 1) (κ.2.2.1 0)), κ.2.1, κ.2.2.1, κ.2.2.2.1, κ.2.2.2.2) X cs lf pr)) (by rw [← (pub_f (fun _ => ((pen_b hT hS hh hi).trans (by simp [penB, c_1, c_1d, c_4d, c_5, c_6, c_6d]))))]) ?_
                refine J_iinc cx (v := (nI (k + 1))) (L' := [(6, .int (nI (k + 1))), (2, .long (teL κ X h (k + 1))), (7, .ref (ad 1 k)), (4, .ref (ad 0 1)), (5, .int (nI 40)), (0, .ref (ad 0 0)), (1, .ref (ad 2 h))]) dX6_takeEffect_81 4 rfl (by exact nI_add k 1) (by decide) rfl ?_
                refine J_goto cx (tgt := 16) dX6_takeEffect_84 (by decide) ?_
                refine J_L [1, 3, 4, 0, 5, 6] rfl ?_
                exact ih (k + 1) (by omega) (by omega)
              · have c_6d := decide_eq_true c_6
                refine J_aload cx dX6_takeEffect_72 1 rfl ?_
                refine J_aload_n cx dX6_takeEffect_74 rfl 5 rfl ?_
                refine J_get cx (v := .int (nI (κ.2.2.1 2))) fX6_49 0 rfl rfl dX6_takeEffect_75 ?_
                refine J_put cx (ws' := (iW ad g (upI (pubI κ (nI (h + 1)) (min k (κ.2.2.1 0))) 9 k (nI (κ.2.2.1 2)), κ.2.1, κ.2.2.1, κ.2.2.2.1, κ.2.2.2.2) X cs lf pr)) fX6_271 ⟨tyX0_ok, nmX0, tyX0_ok 10 (by decide)⟩ rfl (17 + k) (iG_c (by first | assumption | omega)) rfl rfl (Nat.le_of_ble_eq_true rfl) (iG_setc (by first | assumption | omega) rfl (by simp [crt, lenI, upI, upd, upB, upb]; try rfl) (by intro z _ hne; simp [crt, lenI, upI, upd, upB, upb, hne])) dX6_takeEffect_78 ?_
                refine J_Le (L' := [(2, .long (teL κ X h (k + 1))), (7, .ref (ad 1 k)), (4, .ref (ad 0 1)), (5, .int (nI 40)), (6, .int (nI k)), (0, .ref (ad 0 0)), (1, .ref (ad 2 h))]) (by rw [← (teL_t ((mdB_in hi).trans (by simp [teB, c_1, c_1d, c_4d, c_5, c_6d])))]; try rfl) ?_
                refine J_ws (ws' := (iW ad g (pubI κ (nI (h + 1)) (min (k + 1) (κ.2.2.1 0)), κ.2.1, κ.2.2.1, κ.2.2.2.1, κ.2.2.2.2) X cs lf pr)) (by rw [← (pub_t hi ((pen_b hT hS hh hi).trans (by simp [penB, c_1, c_1d, c_4d, c_5, c_6d])))]) ?_
                refine J_iinc cx (v := (nI (k + 1))) (L' := [(6, .int (nI (k + 1))), (2, .long (teL κ X h (k + 1))), (7, .ref (ad 1 k)), (4, .ref (ad 0 1)), (5, .int (nI 40)), (0, .ref (ad 0 0)), (1, .ref (ad 2 h))]) dX6_takeEffect_81 4 rfl (by exact nI_add k 1) (by decide) rfl ?_
                refine J_goto cx (tgt := 16) dX6_takeEffect_84 (by decide) ?_
                refine J_L [1, 3, 4, 0, 5, 6] rfl ?_
                exact ih (k + 1) (by omega) (by omega)
  refine J_L [3, 2, 1, 0, 4, 5] rfl ?_
  exact LP _ 0 (by omega) (Nat.lt_succ_self _)
