/-! what the law's search finds: the best chain, the number of good ones -/
def OB (oy : Nat → Nat) (bo : Option (List Nat)) : Prop := match bo with
  | none => oy 1 = 0
  | some w => oy 1 = w.length ∧ 1 ≤ w.length ∧ w.length ≤ 7 ∧ ∀ j, j < w.length → oy (2 + j) = lk w j
theorem OB_0 {oy : Nat → Nat} {bo : Option (List Nat)} (h : OB oy bo) : OB (upn oy 0 (oy 0 + 1)) bo := by
  match bo, h with
  | none, h => exact (upn_ne (by decide)).trans h
  | some w, ⟨a, b, c, e⟩ => exact ⟨(upn_ne (by decide)).trans a, b, c, fun j hj => (upn_ne (by omega)).trans (e j hj)⟩
theorem OB_cp {wy oy : Nat → Nat} {p : List Nat} (ha : Ag wy p) (h1 : 1 ≤ p.length) (h7 : p.length ≤ 7) : OB (cpN wy (upn (upn oy 0 (oy 0 + 1)) 1 p.length) p.length) (some p) :=
  ⟨(cpN_1 _).trans upn_eq, h1, h7, fun j hj => (cpN_at _ j hj).trans (ha j hj)⟩
/-- the best one behind a way that may itself be good -/
def bo1 (κ : CS) (p : List Nat) (bo : Option (List Nat)) : Option (List Nat) := if trB κ (lk p (p.length - 1)) then (match bo with | none => some p | some w => if p.length < w.length then some p else some w) else bo
theorem ckO_ob {κ : CS} {wy oy : Nat → Nat} {p : List Nat} {bo : Option (List Nat)} (ha : Ag wy p) (h1 : 1 ≤ p.length) (h7 : p.length ≤ 7) (h : OB oy bo) : OB (ckO κ wy oy p.length) (bo1 κ p bo) ∧ ckO κ wy oy p.length 0 = oy 0 + (if trB κ (lk p (p.length - 1)) then 1 else 0) := by
  unfold ckO bo1
  have he : (κ.2.1 1 (wy (p.length - 1)) && κ.2.1 2 (wy (p.length - 1))) = trB κ (lk p (p.length - 1)) := by rw [ha _ (by omega)]; rfl
  rw [he]
  cases trB κ (lk p (p.length - 1)) with
  | false => exact ⟨h, rfl⟩
  | true =>
    match bo, h with
    | none, h =>
      have h0 : oy 1 = 0 := h
      rw [decide_eq_true h0]
      exact ⟨OB_cp ha h1 h7, (cpN_0 _).trans ((upn_ne (by decide)).trans upn_eq)⟩
    | some w, h =>
      obtain ⟨a, b, c, e⟩ := h
      rw [decide_eq_false (show ¬ oy 1 = 0 by omega), a]
      by_cases q : p.length < w.length
      · rw [decide_eq_true q]
        simp only [Bool.or_true, if_true, q]
        exact ⟨OB_cp ha h1 h7, (cpN_0 _).trans ((upn_ne (by decide)).trans upn_eq)⟩
      · rw [decide_eq_false q]
        simp only [Bool.or_false, Bool.false_eq_true, if_false, q, if_true]
        exact ⟨OB_0 ⟨a, b, c, e⟩, upn_eq⟩
theorem fs_nil {m : Nat} : fs (fun _ => (none : Option (List Nat))) m = none := by
  induction m with
  | zero => rfl
  | succ m ih => show (fs _ m).or none = none; rw [ih]; rfl
set_option maxHeartbeats 1000000 in
theorem ck_srch {κ : CS} (hI : InvM κ) {on : Int32} : ∀ d p wy oy bo, Ag wy p → 1 ≤ p.length → p.length ≤ 7 → p.length + d = 8 → OB oy bo → OB (ckK κ on d p.length (wy, oy)).2 ((fs (fun e => fst1 κ on e p) (mB d p.length bo)).or bo) ∧ (ckK κ on d p.length (wy, oy)).2 0 = oy 0 + cn κ on d p := by
  intro d
  induction d with
  | zero => intro p wy oy bo _ _ h7 h8 _; exact absurd h8 (by omega)
  | succ d ih =>
    intro p wy oy bo ha h1 h7 h8 hob
    obtain ⟨c1, c2⟩ := ckO_ob (κ := κ) ha h1 h7 hob
    have hlast : wy (p.length - 1) = lk p (p.length - 1) := ha _ (by omega)
    have loop : ∀ f k z, k + f = κ.2.2.1 0 → Ag z.1 p →
        OB z.2 ((fs (fun e => (flt (candB κ (lk p (p.length - 1))) k).findSome? (fun k => if refC κ (lk p) p.length k on = 111 then fst1 κ on e (p ++ [k]) else none)) (mB d (p.length + 1) (bo1 κ p bo))).or (bo1 κ p bo)) →
        z.2 0 = oy 0 + (if trB κ (lk p (p.length - 1)) then 1 else 0) + ((flt (candB κ (lk p (p.length - 1))) k).map (fun k => if refC κ (lk p) p.length k on = 111 then cn κ on d (p ++ [k]) else 0)).sum →
        OB (ckL (fun k z => if candB κ (wy (p.length - 1)) k && decide (refC κ z.1 p.length k on = 111) then ckK κ on d (p.length + 1) (upn z.1 p.length k, z.2) else z) f k z).2 ((fs (fun e => (cl κ (lk p (p.length - 1))).findSome? (fun k => if refC κ (lk p) p.length k on = 111 then fst1 κ on e (p ++ [k]) else none)) (mB d (p.length + 1) (bo1 κ p bo))).or (bo1 κ p bo)) ∧
        (ckL (fun k z => if candB κ (wy (p.length - 1)) k && decide (refC κ z.1 p.length k on = 111) then ckK κ on d (p.length + 1) (upn z.1 p.length k, z.2) else z) f k z).2 0 = oy 0 + (if trB κ (lk p (p.length - 1)) then 1 else 0) + ((cl κ (lk p (p.length - 1))).map (fun k => if refC κ (lk p) p.length k on = 111 then cn κ on d (p ++ [k]) else 0)).sum := by
      intro f
      induction f with
      | zero =>
        intro k z hk _ hb hc
        rw [show k = κ.2.2.1 0 from by omega] at hb hc
        exact ⟨hb, hc⟩
      | succ f ihf =>
        intro k z hk hz hb hc
        show OB (ckL _ f (k + 1) (if candB κ (wy (p.length - 1)) k && decide (refC κ z.1 p.length k on = 111) then ckK κ on d (p.length + 1) (upn z.1 p.length k, z.2) else z)).2 _ ∧ (ckL _ f (k + 1) (if candB κ (wy (p.length - 1)) k && decide (refC κ z.1 p.length k on = 111) then ckK κ on d (p.length + 1) (upn z.1 p.length k, z.2) else z)).2 0 = _
        rw [hlast, refC_ag hz] at *
        have hs := flt_s (p := candB κ (lk p (p.length - 1))) (n := k)
        cases hcd : candB κ (lk p (p.length - 1)) k with
        | false =>
          rw [hcd] at hs
          simp only [Bool.false_and, Bool.false_eq_true, if_false] at *
          exact ihf (k + 1) z (by omega) hz (by rw [hs, List.append_nil]; exact hb) (by rw [hs, List.append_nil]; exact hc)
        | true =>
          rw [hcd] at hs
          simp only [if_true] at hs
          by_cases hr : refC κ (lk p) p.length k on = 111
          · rw [decide_eq_true hr]
            simp only [Bool.true_and, if_true]
            have hsz := refC_sz hI (show k < κ.2.2.1 0 by omega) (show p.length ≤ 40 by omega) hr
            obtain ⟨i1, i2⟩ := ih (p ++ [k]) (upn z.1 p.length k) z.2 _ (Ag_up hz) (by rw [len_s]; omega) (by rw [len_s]; omega) (by rw [len_s]; omega) hb
            rw [len_s] at i1 i2
            refine ihf (k + 1) _ (by omega) (fun j hj => by rw [ckK_pre κ on d (p.length + 1) _ j (by omega)]; show upn z.1 p.length k j = _; rw [upn_ne (by omega)]; exact hz j hj) ?_ ?_
            · rw [fs_key (fun e w hw => by
                obtain ⟨k2, _, hk2⟩ := List.exists_of_findSome?_eq_some hw
                split at hk2
                · have := fst1_len e _ w hk2; rw [len_s] at this; omega
                · cases hk2)] at i1
              have e2 : (fun e => (flt (candB κ (lk p (p.length - 1))) (k + 1)).findSome? (fun k => if refC κ (lk p) p.length k on = 111 then fst1 κ on e (p ++ [k]) else none)) = (fun e => ((flt (candB κ (lk p (p.length - 1))) k).findSome? (fun k => if refC κ (lk p) p.length k on = 111 then fst1 κ on e (p ++ [k]) else none)).or (fst1 κ on e (p ++ [k]))) := by
                funext e; rw [hs, fS_app, if_pos hr]
              rw [e2]; exact i1
            · rw [i2, hc, hs, List.map_append, List.sum_append]
              simp [hr]; omega
          · rw [decide_eq_false hr]
            simp only [Bool.and_false, Bool.false_eq_true, if_false]
            refine ihf (k + 1) z (by omega) hz ?_ ?_
            · have e2 : (fun e => (flt (candB κ (lk p (p.length - 1))) (k + 1)).findSome? (fun k => if refC κ (lk p) p.length k on = 111 then fst1 κ on e (p ++ [k]) else none)) = (fun e => (flt (candB κ (lk p (p.length - 1))) k).findSome? (fun k => if refC κ (lk p) p.length k on = 111 then fst1 κ on e (p ++ [k]) else none)) := by
                funext e; rw [hs, fS_app, if_neg hr, Option.or_none]
              rw [e2]; exact hb
            · rw [hc, hs, List.map_append, List.sum_append]
              simp [hr]
    have h0 := loop (κ.2.2.1 0) 0 (wy, ckO κ wy oy p.length) (by omega) ha (by
      have : (fun e => (flt (candB κ (lk p (p.length - 1))) 0).findSome? (fun k => if refC κ (lk p) p.length k on = 111 then fst1 κ on e (p ++ [k]) else none)) = (fun _ => (none : Option (List Nat))) := rfl
      rw [this, fs_nil]; exact c1) (by rw [show flt (candB κ (lk p (p.length - 1))) 0 = [] from rfl]; exact c2)
    refine ⟨?_, by rw [show cn κ on (d + 1) p = (if trB κ (lk p (p.length - 1)) then 1 else 0) + ((cl κ (lk p (p.length - 1))).map (fun k => if refC κ (lk p) p.length k on = 111 then cn κ on d (p ++ [k]) else 0)).sum from rfl, ← Nat.add_assoc]; exact h0.2⟩
    have g1 := h0.1
    have goal : (fs (fun e => fst1 κ on e p) (mB (d + 1) p.length bo)).or bo = (fs (fun e => (cl κ (lk p (p.length - 1))).findSome? (fun k => if refC κ (lk p) p.length k on = 111 then fst1 κ on e (p ++ [k]) else none)) (mB d (p.length + 1) (bo1 κ p bo))).or (bo1 κ p bo) := by
      unfold bo1
      cases ht : trB κ (lk p (p.length - 1)) with
      | true =>
        have hF0 : fst1 κ on 0 p = some p := by show (if trB κ (lk p (p.length - 1)) then some p else none) = some p; rw [ht]; rfl
        match bo with
        | none =>
          show (fs (fun e => fst1 κ on e p) (d + 1)).or none = (fs _ (p.length - (p.length + 1))).or (some p)
          rw [fs_p (F := fun e => fst1 κ on e p) hF0 _ (show 1 ≤ d + 1 by omega), show p.length - (p.length + 1) = 0 from by omega]; rfl
        | some w =>
          by_cases q : p.length < w.length
          · simp only [if_true, q]
            show (fs (fun e => fst1 κ on e p) (w.length - p.length)).or (some w) = (fs _ (p.length - (p.length + 1))).or (some p)
            rw [fs_p (F := fun e => fst1 κ on e p) hF0 _ (show 1 ≤ w.length - p.length by omega), show p.length - (p.length + 1) = 0 from by omega]; rfl
          · simp only [if_true, q, if_false]
            show (fs _ (w.length - p.length)).or (some w) = (fs _ (w.length - (p.length + 1))).or (some w)
            rw [show w.length - p.length = 0 from by omega, show w.length - (p.length + 1) = 0 from by omega]; rfl
      | false =>
        have hF0 : fst1 κ on 0 p = none := by show (if trB κ (lk p (p.length - 1)) then some p else none) = none; rw [ht]; rfl
        simp only [Bool.false_eq_true, if_false]
        match bo with
        | none => exact congrArg (fun z => Option.or z none) (fs_0 hF0 d)
        | some w =>
          by_cases q : p.length < w.length
          · show (fs _ (w.length - p.length)).or (some w) = (fs _ (w.length - (p.length + 1))).or (some w)
            rw [show w.length - p.length = (w.length - (p.length + 1)) + 1 from by omega]
            exact congrArg (fun z => Option.or z (some w)) (fs_0 hF0 _)
          · show (fs _ (w.length - p.length)).or (some w) = (fs _ (w.length - (p.length + 1))).or (some w)
            rw [show w.length - p.length = 0 from by omega, show w.length - (p.length + 1) = 0 from by omega]; rfl
    rw [goal]; exact g1
theorem fo_ob {κ : CS} (hI : InvM κ) {i : Nat} {on : Int32} : OB (foF κ i on) (bestL κ on i) := by
  unfold foF bestL
  cases beginB κ i on with
  | false => exact rfl
  | true =>
    have := (ck_srch hI (on := on) 7 [i] (upn (fun _ => 0) 0 i) (fun _ => 0) none (cl_one (κ := κ) (on := on) _) (Nat.le_refl 1) (show 1 ≤ 7 by decide) rfl rfl).1
    rw [Option.or_none] at this
    exact this
theorem fo_cnt {κ : CS} (hI : InvM κ) {i : Nat} {on : Int32} (ch : Nat → Nat) : foF κ i on 0 = (gdK κ i on ch).1 := by
  unfold foF gdK
  cases beginB κ i on with
  | false => rfl
  | true =>
    have h1 := (ck_srch hI (on := on) 7 [i] (upn (fun _ => 0) 0 i) (fun _ => 0) none (cl_one (κ := κ) (on := on) _) (Nat.le_refl 1) (show 1 ≤ 7 by decide) rfl rfl).2
    have h2 := cnt_cn (κ := κ) (on := on) 7 [i] (upn ch 0 i) (cl_one (κ := κ) (on := on) ch) (Nat.le_refl 1)
    exact h1.trans ((Nat.zero_add _).trans h2.symm)
theorem fo_size {κ : CS} (hI : InvM κ) {i : Nat} {on : Int32} (ch : Nat → Nat) : foF κ i on 1 = (bst κ i on ch).1 ∧ ∀ j, j < (bst κ i on ch).1 → foF κ i on (2 + j) = (bst κ i on ch).2 j := by
  have h1 := fo_ob hI (i := i) (on := on)
  have h2 := bst_list (κ := κ) (on := on) (i := i) ch
  cases h : bestL κ on i with
  | none =>
    rw [h] at h1 h2
    have a : foF κ i on 1 = 0 := h1
    have c : (bst κ i on ch).1 = 0 := h2
    rw [a, c]; exact ⟨rfl, fun j hj => absurd hj (Nat.not_lt_zero j)⟩
  | some w =>
    rw [h] at h1 h2
    obtain ⟨a, _, _, e⟩ := h1
    have c1 : (bst κ i on ch).1 = w.length := h2.1
    have c2 : Ag (bst κ i on ch).2 w := h2.2
    rw [c1]
    exact ⟨a, fun j hj => (e j hj).trans (c2 j hj).symm⟩
theorem fo_7 {κ : CS} (hI : InvM κ) {i : Nat} {on : Int32} : foF κ i on 1 ≤ 7 := by
  have h1 := fo_ob hI (i := i) (on := on)
  cases h : bestL κ on i with
  | none => rw [h] at h1; have a : foF κ i on 1 = 0 := h1; omega
  | some w => rw [h] at h1; obtain ⟨a, _, b, _⟩ := h1; omega
