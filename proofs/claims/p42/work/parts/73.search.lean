/-! searches and counts over ways that are lists: both sides give these -/
def lk (p : List Nat) (j : Nat) : Nat := p.getD j 0
def Ag (ch : Nat → Nat) (p : List Nat) : Prop := ∀ j, j < p.length → ch j = lk p j
theorem lk_lt {p : List Nat} {k j : Nat} (h : j < p.length) : lk (p ++ [k]) j = lk p j := by
  unfold lk; rw [List.getD_eq_getElem?_getD, List.getD_eq_getElem?_getD, List.getElem?_append_left h]
theorem lk_eq {p : List Nat} {k : Nat} : lk (p ++ [k]) p.length = k := by
  unfold lk; rw [List.getD_eq_getElem?_getD, List.getElem?_append_right (Nat.le_refl _)]; simp
theorem len_s {p : List Nat} {k : Nat} : (p ++ [k]).length = p.length + 1 := by simp
theorem Ag_up {ch : Nat → Nat} {p : List Nat} {k : Nat} (h : Ag ch p) : Ag (upn ch p.length k) (p ++ [k]) := by
  intro j hj
  rw [len_s] at hj
  by_cases e : j = p.length
  · subst e; rw [upn_eq, lk_eq]
  · rw [upn_ne e, h j (by omega), lk_lt (by omega)]
def trB (κ : CS) (i : Nat) : Bool := κ.2.1 1 i && κ.2.1 2 i
def fst1 (κ : CS) (on : Int32) : Nat → List Nat → Option (List Nat)
  | 0, p => if trB κ (lk p (p.length - 1)) then some p else none
  | e + 1, p => (cl κ (lk p (p.length - 1))).findSome? (fun k => if refC κ (lk p) p.length k on = 111 then fst1 κ on e (p ++ [k]) else none)
theorem fst1_len {κ : CS} {on : Int32} : ∀ e p w, fst1 κ on e p = some w → w.length = p.length + e
  | 0, p, w, h => by
    have h1 : (if trB κ (lk p (p.length - 1)) then some p else none) = some w := h
    split at h1
    · cases h1; rfl
    · cases h1
  | e + 1, p, w, h => by
    obtain ⟨k, _, hk⟩ := List.exists_of_findSome?_eq_some (show (cl κ (lk p (p.length - 1))).findSome? (fun k => if refC κ (lk p) p.length k on = 111 then fst1 κ on e (p ++ [k]) else none) = some w from h)
    split at hk
    · have := fst1_len e _ w hk; rw [len_s] at this; omega
    · cases hk
theorem refC_ag {κ : CS} {ch : Nat → Nat} {p : List Nat} {k : Nat} {on : Int32} (h : Ag ch p) : refC κ ch p.length k on = refC κ (lk p) p.length k on := refC_congr h
/-- what the reference's search finds -/
def Fnd (o : Option (List Nat)) (r : Bool × (Nat → Nat)) : Prop := match o with
  | some w => r.1 = true ∧ Ag r.2 w
  | none => r.1 = false
theorem fnd_first {κ : CS} {on : Int32} : ∀ e p ch, Ag ch p → 1 ≤ p.length → Fnd (fst1 κ on e p) (fndK κ on e p.length ch)
  | 0, p, ch, ha, h1 => by
    show Fnd (if trB κ (lk p (p.length - 1)) then some p else none) (κ.2.1 1 (ch (p.length - 1)) && κ.2.1 2 (ch (p.length - 1)), ch)
    rw [ha (p.length - 1) (by omega)]
    unfold trB
    cases κ.2.1 1 (lk p (p.length - 1)) && κ.2.1 2 (lk p (p.length - 1)) with
    | true => exact ⟨rfl, ha⟩
    | false => rfl
  | e + 1, p, ch, ha, h1 => by
    have key : ∀ m k c, Ag c p → Fnd (((List.range' k m).filter (candB κ (lk p (p.length - 1)))).findSome? (fun k => if refC κ (lk p) p.length k on = 111 then fst1 κ on e (p ++ [k]) else none)) (fndL (fun k c => if candB κ (lk p (p.length - 1)) k && decide (refC κ c p.length k on = 111) then fndK κ on e (p.length + 1) (upn c p.length k) else (false, c)) m k c) := by
      intro m
      induction m with
      | zero => intro k c _; rfl
      | succ m ih =>
        intro k c hc
        rw [List.range'_succ, List.filter_cons]
        show Fnd _ (if (if candB κ (lk p (p.length - 1)) k && decide (refC κ c p.length k on = 111) then fndK κ on e (p.length + 1) (upn c p.length k) else (false, c)).1 then (true, (if candB κ (lk p (p.length - 1)) k && decide (refC κ c p.length k on = 111) then fndK κ on e (p.length + 1) (upn c p.length k) else (false, c)).2) else fndL _ m (k + 1) (if candB κ (lk p (p.length - 1)) k && decide (refC κ c p.length k on = 111) then fndK κ on e (p.length + 1) (upn c p.length k) else (false, c)).2)
        cases hk : candB κ (lk p (p.length - 1)) k with
        | false => simpa using ih (k + 1) c hc
        | true =>
          rw [refC_ag hc]
          by_cases hr : refC κ (lk p) p.length k on = 111
          · have hi := fnd_first (κ := κ) (on := on) e (p ++ [k]) (upn c p.length k) (Ag_up hc) (by rw [len_s]; omega)
            rw [len_s] at hi
            simp only [hr, Bool.true_and, decide_true, if_true, List.findSome?_cons]
            cases hf : fst1 κ on e (p ++ [k]) with
            | some w =>
              rw [hf] at hi
              rw [hi.1]; exact ⟨rfl, hi.2⟩
            | none =>
              rw [hf] at hi
              rw [show (fndK κ on e (p.length + 1) (upn c p.length k)).1 = false from hi]
              exact ih (k + 1) _ (fun j hj => by rw [fndK_pre κ on e (p.length + 1) _ j (by omega), upn_ne (by omega)]; exact hc j hj)
          · simp only [hr, decide_false, Bool.and_false, if_false, List.findSome?_cons, if_true]
            exact ih (k + 1) c hc
    have h0 := key (κ.2.2.1 0) 0 ch ha
    rw [← List.range_eq_range'] at h0
    have hlast := ha (p.length - 1) (by omega)
    show Fnd ((cl κ (lk p (p.length - 1))).findSome? _) (fndL (fun k c => if candB κ (ch (p.length - 1)) k && decide (refC κ c p.length k on = 111) then fndK κ on e (p.length + 1) (upn c p.length k) else (false, c)) (κ.2.2.1 0) 0 ch)
    rw [hlast]
    exact h0
/-- the first of a row of searches that finds -/
def fs (F : Nat → Option (List Nat)) : Nat → Option (List Nat)
  | 0 => none
  | m + 1 => (fs F m).or (F m)
def fsd (F : Nat → Option (List Nat)) : Nat → Nat → Option (List Nat)
  | 0, _ => none
  | m + 1, d => (F d).or (fsd F m (d + 1))
theorem fsd_s {F : Nat → Option (List Nat)} : ∀ m d, fsd F (m + 1) d = (fsd F m d).or (F (d + m))
  | 0, d => by show (F d).or none = none.or (F (d + 0)); simp
  | m + 1, d => by
    show (F d).or (fsd F (m + 1) (d + 1)) = ((F d).or (fsd F m (d + 1))).or (F (d + (m + 1)))
    rw [fsd_s m (d + 1), Option.or_assoc, show d + 1 + m = d + (m + 1) from by omega]
theorem fs_fsd {F : Nat → Option (List Nat)} : ∀ m, fs F m = fsd F m 0
  | 0 => rfl
  | m + 1 => by rw [fsd_s, ← fs_fsd m, Nat.zero_add]; rfl
theorem fs_0 {F : Nat → Option (List Nat)} (h : F 0 = none) (m : Nat) : fs F (m + 1) = fs (fun e => F (e + 1)) m := by
  induction m with
  | zero => show none.or (F 0) = none; rw [h]; rfl
  | succ m ih => show (fs F (m + 1)).or (F (m + 1)) = (fs (fun e => F (e + 1)) m).or (F (m + 1)); rw [ih]
theorem fs_p {F : Nat → Option (List Nat)} {p : List Nat} (h : F 0 = some p) : ∀ m, 1 ≤ m → fs F m = some p
  | 1, _ => by show none.or (F 0) = some p; rw [h]; rfl
  | m + 2, _ => by show (fs F (m + 1)).or (F (m + 1)) = some p; rw [fs_p h (m + 1) (by omega)]; rfl
theorem fs_or2 {F G : Nat → Option (List Nat)} {L : Nat} (hF : ∀ e w, F e = some w → w.length = L + e) : ∀ m, fs (fun e => (F e).or (G e)) m = (match fs F m with | none => fs G m | some w => (fs G (w.length - L)).or (some w))
  | 0 => rfl
  | m + 1 => by
    show (fs (fun e => (F e).or (G e)) m).or ((F m).or (G m)) = (match (fs F m).or (F m) with | none => (fs G m).or (G m) | some w => (fs G (w.length - L)).or (some w))
    rw [fs_or2 hF m]
    cases h1 : fs F m with
    | some w =>
      show ((fs G (w.length - L)).or (some w)).or _ = (fs G (w.length - L)).or (some w)
      cases fs G (w.length - L) <;> rfl
    | none =>
      cases h2 : F m with
      | none => rfl
      | some w =>
        show (fs G m).or (some w) = (fs G (w.length - L)).or (some w)
        rw [hF m w h2, show L + m - L = m from by omega]
def mB (d len : Nat) (bo : Option (List Nat)) : Nat := match bo with
  | none => d
  | some w => w.length - len
theorem fs_key {F G : Nat → Option (List Nat)} {L d : Nat} {bo : Option (List Nat)} (hF : ∀ e w, F e = some w → w.length = L + e) :
    (fs G (mB d L ((fs F (mB d L bo)).or bo))).or ((fs F (mB d L bo)).or bo) = (fs (fun e => (F e).or (G e)) (mB d L bo)).or bo := by
  rw [fs_or2 hF]
  cases h1 : fs F (mB d L bo) with
  | none => rfl
  | some w =>
    show (fs G (w.length - L)).or (some w) = ((fs G (w.length - L)).or (some w)).or bo
    cases fs G (w.length - L) <;> rfl
def bestL (κ : CS) (on : Int32) (i : Nat) : Option (List Nat) := if beginB κ i on then fs (fun e => fst1 κ on e [i]) 7 else none
/-- the reference's best chain -/
def Bst (o : Option (List Nat)) (r : Nat × (Nat → Nat)) : Prop := match o with
  | some w => r.1 = w.length ∧ Ag r.2 w
  | none => r.1 = 0
theorem bst_list {κ : CS} {on : Int32} {i : Nat} (ch : Nat → Nat) : Bst (bestL κ on i) (bst κ i on ch) := by
  have key : ∀ m d c, Ag c [i] → Bst (if beginB κ i on then fsd (fun e => fst1 κ on e [i]) m d else none) (bestK κ i on m d c) := by
    intro m
    induction m with
    | zero => intro d c _; cases beginB κ i on <;> exact rfl
    | succ m ih =>
      intro d c hc
      show Bst _ (if beginB κ i on then (if (fndK κ on d 1 c).1 then (1 + d, (fndK κ on d 1 c).2) else bestK κ i on m (d + 1) (fndK κ on d 1 c).2) else (0, c))
      cases hb : beginB κ i on with
      | false => exact rfl
      | true =>
        have hf := fnd_first (κ := κ) (on := on) d [i] c hc (Nat.le_refl 1)
        have hf : Fnd (fst1 κ on d [i]) (fndK κ on d 1 c) := hf
        show Bst ((fst1 κ on d [i]).or (fsd (fun e => fst1 κ on e [i]) m (d + 1))) (if (fndK κ on d 1 c).1 then (1 + d, (fndK κ on d 1 c).2) else bestK κ i on m (d + 1) (fndK κ on d 1 c).2)
        cases h1 : fst1 κ on d [i] with
        | some w =>
          rw [h1] at hf
          rw [if_pos hf.1]
          exact ⟨(fst1_len d [i] w h1).symm, hf.2⟩
        | none =>
          rw [h1] at hf
          rw [if_neg (by rw [show (fndK κ on d 1 c).1 = false from hf]; decide)]
          have := ih (d + 1) (fndK κ on d 1 c).2 (fun j hj => by rw [fndK_pre κ on d 1 c j hj]; exact hc j hj)
          rw [hb] at this
          exact this
  have h := key 7 0 (upn ch 0 i) (fun j hj => by have : j = 0 := by simp at hj; exact hj
                                                 subst this; rw [upn_eq]; rfl)
  unfold bestL
  rw [fs_fsd]
  exact h
/-- a chain of the class that is laid as a list -/
def CL (t : CT) (p : List Nat) : Prop := t.2.1 = p.length ∧ ∀ j, j < p.length → t.1 j = some (lk p j)
theorem CL_wy {t : CT} {p : List Nat} (h : CL t p) {j : Nat} (hj : j < p.length) : wyO t j = lk p j := by unfold wyO; rw [h.2 j hj]; rfl
theorem CL_last {t : CT} {p : List Nat} (h : CL t p) (h1 : 1 ≤ p.length) : lastC t = some (lk p (p.length - 1)) := by
  unfold lastC; rw [h.1, if_neg (by omega)]; exact h.2 _ (by omega)
theorem CL_ref {κ : CS} {t : CT} {p : List Nat} (h : CL t p) (k : Nat) (on : Int32) : refC κ (wyO t) t.2.1 k on = refC κ (lk p) p.length k on := by
  rw [h.1]; exact refC_congr fun r hr => CL_wy h hr
theorem CL_th {κ : CS} {X : XT} (hT : TIE κ X) {t : CT} {p : List Nat} (hC : ShC κ t) (h : CL t p) (h1 : 1 ≤ p.length) : thC κ X t = trB κ (lk p (p.length - 1)) := by
  have hl := CL_last h h1
  rw [thC_some hl, ← (hT _ (lastC_lt hC hl)).1]; rfl
theorem CL_add {t : CT} {p : List Nat} {k : Nat} (h : CL t p) : CL (addC t k) (p ++ [k]) := by
  refine ⟨by rw [len_s, ← h.1]; rfl, fun j hj => ?_⟩
  rw [len_s] at hj
  show (if j = t.2.1 then some k else t.1 j) = some (lk (p ++ [k]) j)
  by_cases e : j = p.length
  · subst e; rw [if_pos h.1.symm, lk_eq]
  · rw [if_neg (by rw [h.1]; exact e), h.2 j (by omega), lk_lt (by omega)]
theorem CL_keep {t t' : CT} {p : List Nat} (h : CL t p) (h2 : t'.2.1 = t.2.1) (h3 : ∀ r, r < t.2.1 → t'.1 r = t.1 r) : CL t' p :=
  ⟨h2.trans h.1, fun j hj => by rw [h3 j (by rw [h.1]; exact hj)]; exact h.2 j hj⟩
def BO (b : CT) (bo : Option (List Nat)) : Prop := match bo with
  | none => b.2.1 = 0
  | some w => CL b w ∧ 1 ≤ w.length
theorem CL_cp {t b : CT} {p : List Nat} (h : CL t p) : CL (cpC t b) p := by
  refine ⟨h.1, fun j hj => ?_⟩
  show (if j < t.2.1 then t.1 j else b.1 j) = _
  rw [if_pos (by rw [h.1]; exact hj)]; exact h.2 j hj
theorem fS_app {α : Type} {G : Nat → Option α} {l : List Nat} {k : Nat} : (l ++ [k]).findSome? G = (l.findSome? G).or (G k) := by
  rw [List.findSome?_append]
  congr 1
  simp only [List.findSome?_cons, List.findSome?_nil]
  cases G k <;> rfl
theorem fb_srch {κ : CS} {X : XT} (hI : InvM κ) (hS : ShX κ X) (hT : TIE κ X) (hH : HLD κ X) : ∀ d t b p bo, CL t p → 1 ≤ p.length → p.length + d = 8 → ShC κ t → ShC κ b → BO b bo → BO (fbK κ X d t b).2 ((fs (fun e => fst1 κ t.2.2 e p) (mB d p.length bo)).or bo) := by
  intro d
  induction d with
  | zero => intro t b p bo h1 h2 h3 h4 _ _; exact absurd h4.1 (by rw [h1.1]; omega)
  | succ d ih =>
    intro t b p bo h1 h2 h3 h4 h5 h6
    have hl := CL_last h1 h2
    have hi := lastC_lt h4 hl
    by_cases hc : 0 < b.2.1 ∧ b.2.1 ≤ t.2.1
    · rw [fbK_p hl hc.1 hc.2]
      match bo, h6 with
      | none, h6 => exact absurd hc.1 (by rw [show b.2.1 = 0 from h6]; decide)
      | some w, h6 =>
        have : mB (d + 1) p.length (some w) = 0 := by
          show w.length - p.length = 0
          rw [← h6.1.1, ← h1.1]; omega
        rw [this]; exact h6
    · have hm : mB (d + 1) p.length bo = mB d (p.length + 1) bo + 1 := by
        match bo, h6 with
        | none, _ => rfl
        | some w, h6 =>
          show w.length - p.length = w.length - (p.length + 1) + 1
          have h61 := h6.1.1
          have h62 := h6.2
          rw [h61, h1.1] at hc
          omega
      have hth := CL_th hT h4 h1 h2
      rw [hm]
      cases hv : thC κ X t with
      | true =>
        rw [fbK_t hl hc hv, fs_p (p := p) (by show (if trB κ (lk p (p.length - 1)) then some p else none) = some p; rw [← hth, hv]; rfl) _ (by omega)]
        exact ⟨CL_cp h1, h2⟩
      | false =>
        rw [fbK_g hl hc hv, fs_0 (by show (if trB κ (lk p (p.length - 1)) then some p else none) = none; rw [← hth, hv]; rfl)]
        have hlen := cl_len hT hS hH hi
        have loop : ∀ f r z, r + f = 3 → KeepC κ t z → CL z.1 p → BO z.2 ((fs (fun e => ((cl κ (lk p (p.length - 1))).take r).findSome? (fun k => if refC κ (lk p) p.length k t.2.2 = 111 then fst1 κ t.2.2 e (p ++ [k]) else none)) (mB d (p.length + 1) bo)).or bo) → BO (fbL (fbB κ X (fbK κ X d) (lk p (p.length - 1))) f r z).2 ((fs (fun e => ((cl κ (lk p (p.length - 1))).take 3).findSome? (fun k => if refC κ (lk p) p.length k t.2.2 = 111 then fst1 κ t.2.2 e (p ++ [k]) else none)) (mB d (p.length + 1) bo)).or bo) := by
          intro f
          induction f with
          | zero => intro r z hr _ _ hb; rw [show r = 3 from by omega] at hb; exact hb
          | succ f ihf =>
            intro r z hr hk hz hb
            have hk' := fbB_keep hI hS hi (by rw [h1.1]; exact h2) (go := fbK κ X d) (fun _ t2 b2 a c e => fbK_keep hI hS d t2 b2 a c (by rw [e]; omega)) r z hk
            have hz' : CL (fbB κ X (fbK κ X d) (lk p (p.length - 1)) r z).1 p := CL_keep h1 (congrArg Prod.fst hk'.2.2.1) hk'.2.2.2
            refine ihf (r + 1) _ (by omega) hk' hz' ?_
            have hday : z.1.2.2 = t.2.2 := congrArg Prod.snd hk.2.2.1
            rw [List.take_succ]
            have hcd := cd_get hT hS hH (r := r) hi (by omega)
            cases hg : (cl κ (lk p (p.length - 1)))[r]? with
            | none => rw [hg] at hcd; rw [fbB_none hcd]; simpa using hb
            | some k =>
              rw [hg] at hcd
              by_cases hq : refC κ (lk p) p.length k t.2.2 = 111
              · have hq2 : refC κ (wyO z.1) z.1.2.1 k z.1.2.2 = 111 := by rw [CL_ref hz, hday]; exact hq
                rw [fbB_some hcd hq2]
                have hkb := (cdC_lt hS hi hcd).1
                have hz7 : z.1.2.1 < 7 := by
                  have := refC_sz hI hkb (by have := hk.1.1; omega) hq2; omega
                have := ih (addC z.1 k) z.2 (p ++ [k]) _ (CL_add hz) (by rw [len_s]; omega) (by rw [len_s]; omega) (addC_ok hk.1 hz7 hkb) hk.2.1 hb
                rw [len_s, show (addC z.1 k).2.2 = t.2.2 from hday] at this
                rw [fs_key (fun e w hw => by
                  obtain ⟨k2, _, hk2⟩ := List.exists_of_findSome?_eq_some hw
                  split at hk2
                  · have := fst1_len e _ w hk2; rw [len_s] at this; omega
                  · cases hk2)] at this
                have e2 : (fun e => ((cl κ (lk p (p.length - 1))).take r ++ (some k).toList).findSome? (fun k => if refC κ (lk p) p.length k t.2.2 = 111 then fst1 κ t.2.2 e (p ++ [k]) else none)) = (fun e => (((cl κ (lk p (p.length - 1))).take r).findSome? (fun k => if refC κ (lk p) p.length k t.2.2 = 111 then fst1 κ t.2.2 e (p ++ [k]) else none)).or (fst1 κ t.2.2 e (p ++ [k]))) := by
                  funext e; rw [Option.toList_some, fS_app, if_pos hq]
                rw [e2]
                exact this
              · rw [fbB_no hcd (by rw [CL_ref hz, hday]; exact hq)]
                have e2 : (fun e => ((cl κ (lk p (p.length - 1))).take r ++ (some k).toList).findSome? (fun k => if refC κ (lk p) p.length k t.2.2 = 111 then fst1 κ t.2.2 e (p ++ [k]) else none)) = (fun e => ((cl κ (lk p (p.length - 1))).take r).findSome? (fun k => if refC κ (lk p) p.length k t.2.2 = 111 then fst1 κ t.2.2 e (p ++ [k]) else none)) := by
                  funext e; rw [Option.toList_some, fS_app, if_neg hq, Option.or_none]
                rw [e2]; exact hb
        have h0 := loop 3 0 (t, b) rfl ⟨h4, h5, rfl, fun _ _ => rfl⟩ h1 (by
          rw [List.take_zero]
          have : ∀ m, fs (fun e => ([] : List Nat).findSome? (fun k => if refC κ (lk p) p.length k t.2.2 = 111 then fst1 κ t.2.2 e (p ++ [k]) else none)) m = none := by
            intro m; induction m with
            | zero => rfl
            | succ m ih => show (fs _ m).or none = none; rw [ih]; rfl
          rw [this]; exact h6)
        rw [List.take_of_length_le hlen] at h0
        exact h0
