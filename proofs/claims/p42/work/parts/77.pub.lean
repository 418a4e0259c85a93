/-! a list is published -/
theorem and_or64 (a b c : Int64) : (a ||| b) &&& c = (a &&& c) ||| (b &&& c) := by
  apply Int64.toBitVec_inj.1
  rw [Int64.toBitVec_and, Int64.toBitVec_or, Int64.toBitVec_or, Int64.toBitVec_and, Int64.toBitVec_and]
  apply BitVec.eq_of_getElem_eq
  intro i hi
  rw [BitVec.getElem_and, BitVec.getElem_or, BitVec.getElem_or, BitVec.getElem_and, BitVec.getElem_and, Bool.and_or_distrib_right]
theorem bt_ne : ∀ i : Fin 40, ∀ j : Fin 40, (bt i.val &&& bt j.val = lN 0) ↔ i.val ≠ j.val := by decide +kernel
theorem teL_bit {κ : CS} {X : XT} {h : Nat} : ∀ m, m ≤ 40 → ∀ i, i < 40 → ((teL κ X h m &&& bt i = lN 0) ↔ ¬ (i < m ∧ mdB (κ.2.2.1 0) (teB κ X h) i = true))
  | 0, _, i, _ => by
    have : teL κ X h 0 &&& bt i = lN 0 := Int64.zero_and
    exact ⟨fun _ q => absurd q.1 (Nat.not_lt_zero i), fun _ => this⟩
  | m + 1, hm, i, hi => by
    have ih := teL_bit (κ := κ) (X := X) (h := h) m (by omega) i hi
    have hb := bt_ne ⟨m, by omega⟩ ⟨i, hi⟩
    dsimp only at hb
    cases hmd : mdB (κ.2.2.1 0) (teB κ X h) m with
    | false =>
      rw [← teL_f hmd, ih]
      constructor
      · rintro a ⟨b, c⟩
        by_cases e : i = m
        · subst e; rw [hmd] at c; cases c
        · exact a ⟨by omega, c⟩
      · rintro a ⟨b, c⟩; exact a ⟨by omega, c⟩
    | true =>
      rw [← teL_t hmd, and_or64, show lN 0 = (0 : Int64) from rfl, Int64.or_eq_zero_iff, show (0 : Int64) = lN 0 from rfl, ih, hb]
      constructor
      · rintro ⟨a, b⟩ ⟨c, d⟩
        exact a ⟨by omega, d⟩
      · intro a
        refine ⟨fun ⟨c, d⟩ => a ⟨by omega, d⟩, fun e => a ⟨by omega, by rw [← e]; exact hmd⟩⟩
theorem pub_9 {κ : CS} {ky : Int32} : ∀ m i, i < m → pubI κ ky m 9 i = if pendB κ ky i then nI (κ.2.2.1 2) else κ.1 9 i
  | 0, i, h => absurd h (Nat.not_lt_zero i)
  | m + 1, i, h => by
    show upI (pubI κ ky m) 9 m (if pendB κ ky m then nI (κ.2.2.1 2) else κ.1 9 m) 9 i = _
    by_cases e : i = m
    · subst e; rw [upI_eq]
    · rw [upI_ne (Or.inr e)]; exact pub_9 m i (by omega)
theorem pub_f' {κ : CS} {ky : Int32} {f : Nat} (hf : f ≠ 9) : ∀ m i, pubI κ ky m f i = κ.1 f i
  | 0, i => rfl
  | m + 1, i => by
    show upI (pubI κ ky m) 9 m (if pendB κ ky m then nI (κ.2.2.1 2) else κ.1 9 m) f i = _
    rw [upI_ne (Or.inl hf)]; exact pub_f' hf m i
theorem cnt_add2 {p q r : Nat → Bool} {n : Nat} (h : ∀ k, k < n → (p k = true → r k = true) ∧ (q k = true → r k = true) ∧ ¬ (p k = true ∧ q k = true)) : cnt p n + cnt q n ≤ cnt r n := by
  induction n with
  | zero => exact Nat.le_refl _
  | succ n ih =>
    have h1 := ih (fun k hk => h k (by omega))
    obtain ⟨a, b, c⟩ := h n (by omega)
    show (cnt p n + (if p n then 1 else 0)) + (cnt q n + (if q n then 1 else 0)) ≤ cnt r n + (if r n then 1 else 0)
    cases hp : p n <;> cases hq : q n
    · simp; omega
    · rw [b hq]; simp; omega
    · rw [a hp]; simp; omega
    · exact absurd ⟨hp, hq⟩ c
theorem pend_iff {κ : CS} {ky : Int32} {i : Nat} : pendB κ ky i = true ↔ κ.1 5 i = ky ∧ κ.2.1 3 i = true ∧ κ.1 9 i < 0 := by
  show (decide (κ.1 5 i = ky) && (κ.2.1 3 i && decide (κ.1 9 i < 0))) = true ↔ _
  simp [Bool.and_eq_true]
theorem opPublish_c {κ : CS} {xc : Int32} : (opPublish κ xc).2.2 = κ ∨ (xj xc < κ.2.2.1 0 ∧ (opPublish κ xc).2.2 = (pubI κ (κ.1 1 (xj xc)) (κ.2.2.1 0), κ.2)) := by
  unfold opPublish
  cases h1 : inR (κ.2.2.1 0) xc with
  | false => exact Or.inl rfl
  | true =>
    cases h2 : κ.2.1 0 (xj xc) with
    | false => exact Or.inl rfl
    | true => exact Or.inr ⟨inR_lt h1, rfl⟩
/-- the publishing of a list keeps what holds -/
theorem IV_pub {κ : CS} {X : XT} (h : IV κ X) (hd : κ.2.2.1 2 < 2147483648) {j : Nat} (hj : j < κ.2.2.1 0) (hp : 0 < cnt (pendB κ (κ.1 1 j)) (κ.2.2.1 0)) : IV (pubI κ (κ.1 1 j) (κ.2.2.1 0), κ.2) (kpX X (nI (κ.2.2.1 2)) (teL κ X (X.1 j) 40)) := by
  have hle := h.hle
  obtain ⟨⟨s1, s2, s3, s4, s5, s6⟩, t, hl, ⟨m1, m2, m3, m4, m5, m6, m7⟩, fr, f6, ls, lz, en, ef⟩ := h
  have hS : ShX κ X := ⟨s1, s2, s3, s4, s5, s6⟩
  have hT : TIE κ X := t
  have e9 : ∀ i, i < κ.2.2.1 0 → pubI κ (κ.1 1 j) (κ.2.2.1 0) 9 i = if pendB κ (κ.1 1 j) i then nI (κ.2.2.1 2) else κ.1 9 i := fun i hi => pub_9 _ i hi
  have ef' : ∀ f, f ≠ 9 → ∀ i, pubI κ (κ.1 1 j) (κ.2.2.1 0) f i = κ.1 f i := fun f hf i => pub_f' hf _ i
  have i0 := ef' 0 (by decide); have i1 := ef' 1 (by decide); have i4 := ef' 4 (by decide); have i5 := ef' 5 (by decide); have i6 := ef' 6 (by decide); have i7 := ef' 7 (by decide); have i8 := ef' 8 (by decide)
  have hky : ∀ i, i < κ.2.2.1 0 → (κ.1 5 i = κ.1 1 j ↔ X.2.1 i = X.1 j) := by
    intro i hi
    have := key_eq hT hS hi (j := X.1 j) (by have := hS.sb hj; omega)
    rw [← (hT j hj).2.2.1] at this
    exact decide_eq_decide.mp this
  have hd0 : ¬ nI (κ.2.2.1 2) < 0 := nI_pos hd
  refine ⟨⟨s1, s2, s3, s4, fun i hi => ?_, fun i hi => ?_⟩, fun i hi => ?_, hl, ⟨m1, fun i hi => ?_, fun i hi => ?_, fun i hi => ?_, fun i hi => ?_, m6, m7⟩, fun i hi => ?_, fun i hi => ?_, fun i hi d => ?_, ?_, fun i hi => ?_, fun i hi => ?_⟩
  · show nmI (pubI κ (κ.1 1 j) (κ.2.2.1 0) 0 i) ∧ pubI κ (κ.1 1 j) (κ.2.2.1 0) 0 i = _; rw [i0]; exact s5 i hi
  · show pubI κ (κ.1 1 j) (κ.2.2.1 0) 9 i = -1 ∨ ¬ pubI κ (κ.1 1 j) (κ.2.2.1 0) 9 i < 0
    rw [e9 i hi]
    split
    · exact Or.inr hd0
    · exact s6 i hi
  · show κ.2.1 1 i = _ ∧ pubI κ (κ.1 1 j) (κ.2.2.1 0) 0 i = _ ∧ pubI κ (κ.1 1 j) (κ.2.2.1 0) 1 i = _ ∧ pubI κ (κ.1 1 j) (κ.2.2.1 0) 4 i = _ ∧ pubI κ (κ.1 1 j) (κ.2.2.1 0) 5 i = _
    rw [i0, i1, i4, i5]; exact t i hi
  · show nmI (pubI κ (κ.1 1 j) (κ.2.2.1 0) 0 i); rw [i0]; exact m2 i hi
  · show pubI κ (κ.1 1 j) (κ.2.2.1 0) 7 i = 0 ∨ nmI (pubI κ (κ.1 1 j) (κ.2.2.1 0) 7 i); rw [i7]; exact m3 i hi
  · show pubI κ (κ.1 1 j) (κ.2.2.1 0) 8 i = 0 ∨ nmI (pubI κ (κ.1 1 j) (κ.2.2.1 0) 8 i); rw [i8]; exact m4 i hi
  · show ∃ a : Nat, a ≤ 5 ∧ pubI κ (κ.1 1 j) (κ.2.2.1 0) 6 i = nI a; rw [i6]; exact m5 i hi
  · exact ⟨(i7 i).trans (fr i hi).1, (i8 i).trans (fr i hi).2.1, (fr i hi).2.2⟩
  · exact (i6 i).trans (f6 i hi)
  · -- what the lists tell
    have hlz : X.2.2.2.2.2.1 < 40 := by
      have hpl := pend_le (κ := κ) (ky := κ.1 1 j) (n := κ.2.2.1 0)
      omega
    have hold : anyN (tlB (kpX X (nI (κ.2.2.1 2)) (teL κ X (X.1 j) 40)) i d) X.2.2.2.2.2.1 = anyN (tlB X i d) X.2.2.2.2.2.1 := anyN_congr fun r hr => by
      show (!decide (d < upd X.2.2.2.2.2.2.1 X.2.2.2.2.2.1 (nI (κ.2.2.1 2)) r) && !decide (lg_cmp (vp_updL X.2.2.2.2.2.2.2.1 X.2.2.2.2.2.1 (teL κ X (X.1 j) 40) r &&& bt i) (lN 0) = 0)) = _
      rw [show upd X.2.2.2.2.2.2.1 X.2.2.2.2.2.1 (nI (κ.2.2.1 2)) r = X.2.2.2.2.2.2.1 r from if_neg (by omega), show vp_updL X.2.2.2.2.2.2.2.1 X.2.2.2.2.2.1 (teL κ X (X.1 j) 40) r = X.2.2.2.2.2.2.2.1 r from if_neg (by omega)]; rfl
    have hnew : tlB (kpX X (nI (κ.2.2.1 2)) (teL κ X (X.1 j) 40)) i d X.2.2.2.2.2.1 = (!decide (d < nI (κ.2.2.1 2)) && (decide (i < κ.2.2.1 0) && teB κ X (X.1 j) i)) := by
      show (!decide (d < upd X.2.2.2.2.2.2.1 X.2.2.2.2.2.1 (nI (κ.2.2.1 2)) X.2.2.2.2.2.1) && !decide (lg_cmp (vp_updL X.2.2.2.2.2.2.2.1 X.2.2.2.2.2.1 (teL κ X (X.1 j) 40) X.2.2.2.2.2.1 &&& bt i) (lN 0) = 0)) = _
      rw [show upd X.2.2.2.2.2.2.1 X.2.2.2.2.2.1 (nI (κ.2.2.1 2)) X.2.2.2.2.2.1 = nI (κ.2.2.1 2) from if_pos rfl, show vp_updL X.2.2.2.2.2.2.2.1 X.2.2.2.2.2.1 (teL κ X (X.1 j) 40) X.2.2.2.2.2.1 = teL κ X (X.1 j) 40 from if_pos rfl]
      have hbit := teL_bit (κ := κ) (X := X) (h := X.1 j) 40 (Nat.le_refl _) i hi
      have e : decide (lg_cmp (teL κ X (X.1 j) 40 &&& bt i) (lN 0) = 0) = !(decide (i < κ.2.2.1 0) && teB κ X (X.1 j) i) := by
        have hm : mdB (κ.2.2.1 0) (teB κ X (X.1 j)) i = (decide (i < κ.2.2.1 0) && teB κ X (X.1 j) i) := rfl
        rw [hm] at hbit
        cases hb : (decide (i < κ.2.2.1 0) && teB κ X (X.1 j) i) with
        | true => rw [hb] at hbit; exact decide_eq_false (fun q => (hbit.mp ((lg_cmp_eq _ _).mp q)) ⟨hi, rfl⟩)
        | false => rw [hb] at hbit; exact decide_eq_true ((lg_cmp_eq _ _).mpr (hbit.mpr (fun q => by cases q.2)))
      rw [e, Bool.not_not]
    show (anyN (tlB (kpX X (nI (κ.2.2.1 2)) (teL κ X (X.1 j) 40)) i d) X.2.2.2.2.2.1 || tlB (kpX X (nI (κ.2.2.1 2)) (teL κ X (X.1 j) 40)) i d X.2.2.2.2.2.1) = (decide (i < κ.2.2.1 0) && offB (pubI κ (κ.1 1 j) (κ.2.2.1 0), κ.2) i d)
    rw [hold, hnew, ls i hi d]
    by_cases hin : i < κ.2.2.1 0
    · rw [decide_eq_true hin, Bool.true_and, Bool.true_and, Bool.true_and]
      have e9i := e9 i hin
      show (offB κ i d || _) = (!decide (pubI κ (κ.1 1 j) (κ.2.2.1 0) 9 i < 0) && !decide (d < pubI κ (κ.1 1 j) (κ.2.2.1 0) 9 i))
      rw [e9i]
      have hte : teB κ X (X.1 j) i = true ↔ κ.1 5 i = κ.1 1 j ∧ κ.2.1 3 i = true := by
        show (decide (X.2.1 i = X.1 j) && κ.2.1 3 i) = true ↔ _
        rw [Bool.and_eq_true, decide_eq_true_eq, hky i hin]
      by_cases hpd : pendB κ (κ.1 1 j) i = true
      · obtain ⟨a, b, c⟩ := pend_iff.mp hpd
        rw [if_pos hpd, hte.mpr ⟨a, b⟩, Bool.and_true]
        have : offB κ i d = false := by unfold offB; rw [decide_eq_true c]; rfl
        rw [this, decide_eq_false hd0]; rfl
      · rw [if_neg hpd]
        show (offB κ i d || _) = offB κ i d
        cases htb : teB κ X (X.1 j) i with
        | false => rw [Bool.and_false, Bool.or_false]
        | true =>
          rw [Bool.and_true]
          obtain ⟨a, b⟩ := hte.mp htb
          have c : ¬ κ.1 9 i < 0 := fun c => hpd (pend_iff.mpr ⟨a, b, c⟩)
          have hef := ef i hin
          unfold offB
          rw [decide_eq_false c]
          by_cases q : d < κ.1 9 i
          · rw [decide_eq_true q, decide_eq_true (Int32.lt_of_lt_of_le q hef)]; rfl
          · rw [decide_eq_false q]; rfl
    · rw [decide_eq_false hin]; simp
  · -- how many lists
    show X.2.2.2.2.2.1 + 1 + cnt (fun k => decide (pubI κ (κ.1 1 j) (κ.2.2.1 0) 9 k < 0)) (κ.2.2.1 0) ≤ κ.2.2.1 0
    have := cnt_add2 (p := fun k => decide (pubI κ (κ.1 1 j) (κ.2.2.1 0) 9 k < 0)) (q := pendB κ (κ.1 1 j)) (r := fun k => decide (κ.1 9 k < 0)) (n := κ.2.2.1 0) (fun k hk => by
      rw [e9 k hk]
      by_cases hpd : pendB κ (κ.1 1 j) k = true
      · rw [if_pos hpd, decide_eq_false hd0]
        exact ⟨fun q => (by cases q), fun _ => decide_eq_true (pend_iff.mp hpd).2.2, fun q => (by cases q.1)⟩
      · rw [if_neg hpd]
        exact ⟨fun q => q, fun q => absurd q hpd, fun q => hpd q.2⟩)
    omega
  · have e := en i hi
    show X.2.2.2.2.2.2.2.2 i = ent (pubI κ (κ.1 1 j) (κ.2.2.1 0), κ.2) i
    rw [ent_congr (κ := κ) (i0 i) (i1 i) (i5 i)]; exact e
  · show pubI κ (κ.1 1 j) (κ.2.2.1 0) 9 i ≤ nI (κ.2.2.1 2)
    rw [e9 i hi]
    split
    · exact Int32.le_refl _
    · exact ef i hi
theorem IV_publish {κ : CS} {X : XT} (h : IV κ X) (hd : κ.2.2.1 2 < 2147483648) (xc : Int32) (hc : (opPublish κ xc).1 = 0) : IV (opPublish κ xc).2.2 (pbX κ X xc) := by
  have hj : xj xc < κ.2.2.1 0 ∧ (opPublish κ xc).2.2 = (pubI κ (κ.1 1 (xj xc)) (κ.2.2.1 0), κ.2) := by
    unfold opPublish at hc ⊢
    cases h1 : inR (κ.2.2.1 0) xc with
    | false => rw [h1] at hc; cases hc
    | true =>
      cases h2 : κ.2.1 0 (xj xc) with
      | false => rw [h1, h2] at hc; cases hc
      | true => exact ⟨inR_lt h1, rfl⟩
  rw [hj.2]
  unfold pbX
  by_cases hp : 0 < cnt (pendB κ (κ.1 1 (xj xc))) (κ.2.2.1 0)
  · rw [decide_eq_true hp]; exact IV_pub h hd hj.1 hp
  · rw [decide_eq_false hp, pub_0 _ (Nat.le_refl _) (by omega)]; exact h
theorem publish_same {κ : CS} (xc : Int32) : (opPublish κ xc).2.2.2.2 = κ.2.2 := by
  rcases opPublish_c (κ := κ) (xc := xc) with e | ⟨_, e⟩ <;> rw [e]
