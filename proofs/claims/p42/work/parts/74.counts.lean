/-! the class's answers of chains are the reference's -/
theorem begin_iff {κ : CS} {X : XT} (hS : ShX κ X) {i : Nat} (hi : i < κ.2.2.1 0) {d : Int32} : decide (rfI κ i d = 111) = beginB κ i d := by
  by_cases h : rfI κ i d = 111
  · rw [decide_eq_true h, begin_o hS hi h]
  · rw [decide_eq_false h, (begin_n hS hi h).1]
theorem CL_one {f : Nat → Option Nat} {i : Nat} {d : Int32} : CL (va_up f 0 (some i), 1, d) [i] := by
  refine ⟨rfl, fun j hj => ?_⟩
  have : j = 0 := by simp at hj; exact hj
  subst this; rfl
theorem sb_best {κ : CS} {X : XT} (hI : InvM κ) (hS : ShX κ X) (hT : TIE κ X) (hH : HLD κ X) {i : Nat} {on : Int32} {t b : CT} (hi : i < κ.2.2.1 0) (ht : ShC κ t) (hb : ShC κ b) : BO (sbK κ X i on t b).2 (bestL κ on i) := by
  have he := begin_iff hS hi (d := on)
  unfold bestL
  by_cases h : rfI κ i on = 111
  · rw [sbK_y h, ← he, decide_eq_true h]
    have := fb_srch hI hS hT hH 7 _ _ [i] none (CL_one (f := t.1) (i := i) (d := on)) (Nat.le_refl 1) rfl (restart_ok ht hi) (clear_ok hb) rfl
    rw [Option.or_none] at this
    exact this
  · rw [sbK_n h, ← he, decide_eq_false h]; rfl
theorem sb_size {κ : CS} {X : XT} (hI : InvM κ) (hS : ShX κ X) (hT : TIE κ X) (hH : HLD κ X) {i : Nat} {on : Int32} {t b : CT} (hi : i < κ.2.2.1 0) (ht : ShC κ t) (hb : ShC κ b) (ch : Nat → Nat) : (sbK κ X i on t b).2.2.1 = (bst κ i on ch).1 ∧ ∀ j, j < (bst κ i on ch).1 → wyO (sbK κ X i on t b).2 j = (bst κ i on ch).2 j := by
  have h1 := sb_best hI hS hT hH (on := on) hi ht hb
  have h2 := bst_list (κ := κ) (on := on) (i := i) ch
  cases h : bestL κ on i with
  | none =>
    rw [h] at h1 h2
    have a : (sbK κ X i on t b).2.2.1 = 0 := h1
    have c : (bst κ i on ch).1 = 0 := h2
    rw [a, c]; exact ⟨rfl, fun j hj => absurd hj (Nat.not_lt_zero j)⟩
  | some w =>
    rw [h] at h1 h2
    have a : CL (sbK κ X i on t b).2 w := h1.1
    have c1 : (bst κ i on ch).1 = w.length := h2.1
    have c2 : Ag (bst κ i on ch).2 w := h2.2
    rw [c1]
    exact ⟨a.1, fun j hj => (CL_wy a hj).trans (c2 j hj).symm⟩
theorem oc_S {κ : CS} {X : XT} (hI : InvM κ) (hS : ShX κ X) (hT : TIE κ X) (hH : HLD κ X) {t b : CT} (ht : ShC κ t) (hb : ShC κ b) (ch : Nat → Nat) (xc dy : Int32) : ocS κ X t b xc dy = opChainSize κ ch xc dy := by
  unfold ocS opChainSize
  by_cases h : wrongC κ xc dy = 0
  · obtain ⟨j, hj, rfl, _⟩ := wrong_0 h hS.1
    rw [decide_eq_true h, show xj (nI j) = j from nI_clamp (by have := hS.1; omega), (sb_size hI hS hT hH hj ht hb ch).1]
  · rw [decide_eq_false h]; rfl
theorem oc_T {κ : CS} {X : XT} (hI : InvM κ) (hS : ShX κ X) (hT : TIE κ X) (hH : HLD κ X) {t b : CT} (ht : ShC κ t) (hb : ShC κ b) (ch : Nat → Nat) (xc dy xi : Int32) : ocT κ X t b xc dy xi = opChainAt κ ch xc dy xi := by
  unfold ocT opChainAt
  by_cases h : wrongC κ xc dy = 0
  · obtain ⟨j, hj, rfl, _⟩ := wrong_0 h hS.1
    obtain ⟨a, c⟩ := sb_size hI hS hT hH (on := dy) hj ht hb ch
    have h7 : (bst κ j dy ch).1 ≤ 7 := bestK_le κ j dy 7 0 (upn ch 0 j)
    rw [decide_eq_true h, show xj (nI j) = j from nI_clamp (by have := hS.1; omega), a]
    cases hr : inR (bst κ j dy ch).1 xi with
    | false => rfl
    | true =>
      obtain ⟨z, hz, rfl⟩ := inR_spec hr (by omega)
      rw [show xj (nI z) = z from nI_clamp (by omega), c z hz]
  · rw [decide_eq_false h]; rfl
/-- how many ways go on from one and end in trust -/
def cn (κ : CS) (on : Int32) : Nat → List Nat → Nat
  | 0, _ => 0
  | d + 1, p => (if trB κ (lk p (p.length - 1)) then 1 else 0) + ((cl κ (lk p (p.length - 1))).map (fun k => if refC κ (lk p) p.length k on = 111 then cn κ on d (p ++ [k]) else 0)).sum
theorem cnt_cn {κ : CS} {on : Int32} : ∀ d p ch, Ag ch p → 1 ≤ p.length → (cntK κ on d p.length ch).1 = cn κ on d p
  | 0, p, ch, _, _ => rfl
  | d + 1, p, ch, ha, h1 => by
    have key : ∀ m k c, Ag c p → (cntL (fun k c => if candB κ (lk p (p.length - 1)) k && decide (refC κ c p.length k on = 111) then cntK κ on d (p.length + 1) (upn c p.length k) else (0, c)) m k c).1 = (((List.range' k m).filter (candB κ (lk p (p.length - 1)))).map (fun k => if refC κ (lk p) p.length k on = 111 then cn κ on d (p ++ [k]) else 0)).sum := by
      intro m
      induction m with
      | zero => intro k c _; rfl
      | succ m ih =>
        intro k c hc
        rw [List.range'_succ, List.filter_cons]
        show (if candB κ (lk p (p.length - 1)) k && decide (refC κ c p.length k on = 111) then cntK κ on d (p.length + 1) (upn c p.length k) else (0, c)).1 + (cntL _ m (k + 1) (if candB κ (lk p (p.length - 1)) k && decide (refC κ c p.length k on = 111) then cntK κ on d (p.length + 1) (upn c p.length k) else (0, c)).2).1 = _
        cases hk : candB κ (lk p (p.length - 1)) k with
        | false => simpa using ih (k + 1) c hc
        | true =>
          rw [refC_ag hc]
          by_cases hr : refC κ (lk p) p.length k on = 111
          · have hi := cnt_cn (κ := κ) (on := on) d (p ++ [k]) (upn c p.length k) (Ag_up hc) (by rw [len_s]; omega)
            rw [len_s] at hi
            simp only [hr, Bool.true_and, decide_true, if_true, List.map_cons, List.sum_cons]
            rw [hi, ih (k + 1) _ (fun j hj => by rw [cntK_pre κ on d (p.length + 1) _ j (by omega), upn_ne (by omega)]; exact hc j hj)]
          · simp only [hr, decide_false, Bool.and_false, if_false, if_true, List.map_cons, List.sum_cons]
            rw [if_neg (by decide)]
            rw [ih (k + 1) c hc]
    have h0 := key (κ.2.2.1 0) 0 ch ha
    rw [← List.range_eq_range'] at h0
    have hlast := ha (p.length - 1) (by omega)
    show (if κ.2.1 1 (ch (p.length - 1)) && κ.2.1 2 (ch (p.length - 1)) then 1 else 0) + (cntL (fun k c => if candB κ (ch (p.length - 1)) k && decide (refC κ c p.length k on = 111) then cntK κ on d (p.length + 1) (upn c p.length k) else (0, c)) (κ.2.2.1 0) 0 ch).1 = _
    rw [hlast, h0]; rfl
theorem drop_s {l : List Nat} {r k : Nat} (h : l[r]? = some k) : l.drop r = k :: l.drop (r + 1) := by
  obtain ⟨h1, h2⟩ := List.getElem?_eq_some_iff.mp h
  rw [List.drop_eq_getElem_cons h1, h2]
/-- both of the class's counts, over what they ask of a way and of a candidate -/
theorem ct_cn {κ : CS} {X : XT} {th : CT → Bool} {ok : CT → Nat → Bool} {G : CT → Prop} (hok7 : ∀ z k, ShC κ z → k < κ.2.2.1 0 → ok z k = true → z.2.1 < 7) (hI : InvM κ) (hS : ShX κ X) (hT : TIE κ X) (hH : HLD κ X)
    (hth : ∀ t p, ShC κ t → CL t p → 1 ≤ p.length → (G t → th t = trB κ (lk p (p.length - 1))) ∧ (¬ G t → th t = false))
    (hkeep : ∀ t t', KeepT κ t t' → (G t ↔ G t'))
    (hst : ∀ t k, ShC κ t → 1 ≤ t.2.1 → k < κ.2.2.1 0 → ok t k = true → (G (addC t k) ↔ (G t ∧ refC κ (wyO t) t.2.1 k t.2.2 = 111)))
    (hno : ∀ t k, ShC κ t → 1 ≤ t.2.1 → k < κ.2.2.1 0 → ok t k = false → G t → ¬ refC κ (wyO t) t.2.1 k t.2.2 = 111) :
    ∀ d t p, CL t p → 1 ≤ p.length → p.length + d = 8 → ShC κ t → (G t → (ctK th ok X d t).1 = cn κ t.2.2 d p) ∧ (¬ G t → (ctK th ok X d t).1 = 0) := by
  intro d
  induction d with
  | zero => intro t p h1 h2 h3 h4; exact absurd h4.1 (by rw [h1.1]; omega)
  | succ d ih =>
    intro t p h1 h2 h3 h4
    have hl := CL_last h1 h2
    have hi := lastC_lt h4 hl
    have hlen := cl_len hT hS hH hi
    rw [ctK_s hl]
    have loop : ∀ f r z, r + f = 3 → KeepT κ t z.2 → CL z.2 p →
        (G t → (ctL (ctB ok X (ctK th ok X d) (lk p (p.length - 1))) f r z).1 = z.1 + (((cl κ (lk p (p.length - 1))).drop r).map (fun k => if refC κ (lk p) p.length k t.2.2 = 111 then cn κ t.2.2 d (p ++ [k]) else 0)).sum) ∧
        (¬ G t → (ctL (ctB ok X (ctK th ok X d) (lk p (p.length - 1))) f r z).1 = z.1) := by
      intro f
      induction f with
      | zero =>
        intro r z hr _ _
        refine ⟨fun _ => ?_, fun _ => rfl⟩
        rw [List.drop_of_length_le (by omega)]; rfl
      | succ f ihf =>
        intro r z hr hk hz
        have h1' : 1 ≤ t.2.1 := by rw [h1.1]; exact h2
        have hk' := ctB_keep (X := X) (ok := ok) hok7 hS hi h1' (go := ctK th ok X d) (fun _ t2 a e => ctK_keep hok7 hS d t2 a (by omega)) r z hk
        have hz' : CL (ctB ok X (ctK th ok X d) (lk p (p.length - 1)) r z).2 p := CL_keep h1 (congrArg Prod.fst hk'.2.1) hk'.2.2
        obtain ⟨n1, n2⟩ := ihf (r + 1) _ (by omega) hk' hz'
        have hday : z.2.2.2 = t.2.2 := congrArg Prod.snd hk.2.1
        have hsz : z.2.2.1 = t.2.1 := congrArg Prod.fst hk.2.1
        have hcd := cd_get hT hS hH (r := r) hi (by omega)
        show (G t → (ctL (ctB ok X (ctK th ok X d) (lk p (p.length - 1))) f (r + 1) (ctB ok X (ctK th ok X d) (lk p (p.length - 1)) r z)).1 = _) ∧ (¬ G t → (ctL (ctB ok X (ctK th ok X d) (lk p (p.length - 1))) f (r + 1) (ctB ok X (ctK th ok X d) (lk p (p.length - 1)) r z)).1 = _)
        cases hg : (cl κ (lk p (p.length - 1)))[r]? with
        | none =>
          rw [hg] at hcd
          rw [ctB_none hcd] at n1 n2 ⊢
          have hge : (cl κ (lk p (p.length - 1))).length ≤ r := List.getElem?_eq_none_iff.mp hg
          refine ⟨fun g => ?_, n2⟩
          rw [n1 g, List.drop_of_length_le (by omega), List.drop_of_length_le hge]
        | some k =>
          rw [hg] at hcd
          have hkb := (cdC_lt hS hi hcd).1
          rw [drop_s hg, List.map_cons, List.sum_cons]
          cases ho : ok z.2 k with
          | true =>
            have hz7 := hok7 z.2 k hk.1 hkb ho
            obtain ⟨i1, i2⟩ := ih (addC z.2 k) (p ++ [k]) (CL_add hz) (by rw [len_s]; omega) (by rw [len_s]; omega) (addC_ok hk.1 hz7 hkb)
            have hs := hst z.2 k hk.1 (by omega) hkb ho
            rw [ctB_some hcd ho] at n1 n2 ⊢
            have e3 : (addC z.2 k).2.2 = t.2.2 := hday
            rw [e3] at i1
            rw [CL_ref hz, hday, ← hkeep t z.2 hk] at hs
            refine ⟨fun g => ?_, fun g => ?_⟩
            · rw [n1 g]
              by_cases hq : refC κ (lk p) p.length k t.2.2 = 111
              · rw [if_pos hq, i1 (hs.mpr ⟨g, hq⟩)]; omega
              · rw [if_neg hq, i2 (fun c => hq (hs.mp c).2)]; omega
            · rw [n2 g, i2 (fun c => g (hs.mp c).1)]; rfl
          | false =>
            rw [ctB_no hcd ho] at n1 n2 ⊢
            refine ⟨fun g => ?_, n2⟩
            have hq := hno z.2 k hk.1 (by omega) hkb ho ((hkeep t z.2 hk).mp g)
            rw [CL_ref hz, hday] at hq
            rw [n1 g, if_neg hq, Nat.zero_add]
    obtain ⟨a1, a2⟩ := loop 3 0 (if th t then 1 else 0, t) rfl ⟨h4, rfl, fun _ _ => rfl⟩ h1
    obtain ⟨b1, b2⟩ := hth t p h4 h1 h2
    refine ⟨fun g => ?_, fun g => ?_⟩
    · rw [a1 g, b1 g]; rfl
    · rw [a2 g, b2 g]; rfl
theorem cl_cn {κ : CS} {X : XT} (hI : InvM κ) (hS : ShX κ X) (hT : TIE κ X) (hH : HLD κ X) {d : Nat} {t : CT} {p : List Nat} (h1 : CL t p) (h2 : 1 ≤ p.length) (h3 : p.length + d = 8) (h4 : ShC κ t) : (clK κ X d t).1 = cn κ t.2.2 d p :=
  (ct_cn (G := fun _ => True) (okL_7 hI) hI hS hT hH (fun t p a b c => ⟨fun _ => CL_th hT a b c, fun q => absurd trivial q⟩) (fun _ _ _ => Iff.rfl) (fun t k a b c e => ⟨fun _ => ⟨trivial, of_decide_eq_true e⟩, fun _ => trivial⟩) (fun t k a b c e _ => of_decide_eq_false e) d t p h1 h2 h3 h4).1 trivial
/-- each certificate of a chain stands where it stands -/
def fitA (κ : CS) (t : CT) : Bool := allN (fun r => fitC κ t (wyO t r) r) t.2.1
theorem fitC_congr {κ : CS} {t t' : CT} {nx pl : Nat} (hd : t'.2.2 = t.2.2) (h : ∀ r, r < pl → wyO t' r = wyO t r) : fitC κ t' nx pl = fitC κ t nx pl := by
  unfold fitC fitsB
  rw [hd, allN_congr (q := fun k => okN κ nx (wyO t k)) (fun k hk => by rw [h k hk])]
theorem fitA_keep {κ : CS} {t t' : CT} (h : KeepT κ t t') : fitA κ t = fitA κ t' := by
  obtain ⟨_, h2, h3⟩ := h
  have hs : t'.2.1 = t.2.1 := congrArg Prod.fst h2
  have hd : t'.2.2 = t.2.2 := congrArg Prod.snd h2
  have hw : ∀ r, r < t.2.1 → wyO t' r = wyO t r := fun r hr => by unfold wyO; rw [h3 r hr]
  unfold fitA
  rw [hs]
  exact allN_congr fun r hr => by rw [hw r hr, fitC_congr hd (fun z hz => hw z (by omega))]
theorem fitA_add {κ : CS} {t : CT} {k : Nat} : fitA κ (addC t k) = (fitA κ t && fitC κ t k t.2.1) := by
  have hw : ∀ r, r < t.2.1 → wyO (addC t k) r = wyO t r := fun r hr => by
    unfold wyO; show (if r = t.2.1 then some k else t.1 r).getD 0 = _; rw [if_neg (by omega)]
  have hk : wyO (addC t k) t.2.1 = k := by unfold wyO; show (if t.2.1 = t.2.1 then some k else t.1 t.2.1).getD 0 = _; rw [if_pos rfl]; rfl
  unfold fitA
  show (allN (fun r => fitC κ (addC t k) (wyO (addC t k) r) r) t.2.1 && fitC κ (addC t k) (wyO (addC t k) t.2.1) t.2.1) = _
  rw [hk, fitC_congr (t' := addC t k) (t := t) rfl (fun z hz => hw z hz), allN_congr (q := fun r => fitC κ t (wyO t r) r) (fun r hr => by rw [hw r hr, fitC_congr (t' := addC t k) (t := t) rfl (fun z hz => hw z (by omega))])]
theorem ref_fit {κ : CS} {X : XT} (hS : ShX κ X) {t : CT} {k : Nat} (hk : k < κ.2.2.1 0) (h1 : 1 ≤ t.2.1) : refC κ (wyO t) t.2.1 k t.2.2 = 111 ↔ (hasC t k = false ∧ fitC κ t k t.2.1 = true) := by
  cases hh : hasC t k with
  | true =>
    have : anyN (inW (wyO t) k) t.2.1 = true := hh
    unfold refC; rw [this]; simp
  | false =>
    have hno : anyN (inW (wyO t) k) t.2.1 = false := hh
    unfold fitC
    rw [decide_eq_false (show ¬ t.2.1 = 0 by omega)]
    by_cases hr : rfI κ k t.2.2 = 111
    · rw [refC_post hS hk hno hr, decide_eq_true hr]
      cases κ.2.1 0 k <;> cases decide (κ.1 6 k < nI (t.2.1 - 1)) <;> cases fitsB κ (wyO t) t.2.1 k <;> simp
    · rw [refC_pre hS hk hno hr, decide_eq_false hr]
      simp [hr]
theorem cj_cn {κ : CS} {X : XT} (hI : InvM κ) (hS : ShX κ X) (hT : TIE κ X) (hH : HLD κ X) {d : Nat} {t : CT} {p : List Nat} (h1 : CL t p) (h2 : 1 ≤ p.length) (h3 : p.length + d = 8) (h4 : ShC κ t) : (cjK κ X d t).1 = if fitA κ t then cn κ t.2.2 d p else 0 := by
  have := ct_cn (X := X) (th := goodC κ X) (ok := okJ) (G := fun t => fitA κ t = true) (okJ_7 (κ := κ)) hI hS hT hH
    (fun t p a b c => ⟨fun g => by unfold goodC; rw [CL_th hT a b c, show allN (fun r => fitC κ t (wyO t r) r) t.2.1 = true from g, Bool.and_true], fun g => by unfold goodC; rw [show allN (fun r => fitC κ t (wyO t r) r) t.2.1 = false from (Bool.not_eq_true _ ▸ g : fitA κ t = false), Bool.and_false]⟩)
    (fun t t' h => by rw [fitA_keep h])
    (fun t k a b c e => by
      unfold okJ at e; rw [Bool.and_eq_true] at e
      have e1 : hasC t k = false := by simpa using e.1
      rw [fitA_add, Bool.and_eq_true, ref_fit hS c b]
      exact ⟨fun q => ⟨q.1, e1, q.2⟩, fun q => ⟨q.1, q.2.2⟩⟩)
    (fun t k a b c e _ q => by
      unfold okJ at e
      have h6 := refC_sz hI c (by have := a.1; omega) q
      rw [(ref_fit hS c b).mp q |>.1, decide_eq_true (show t.2.1 < 7 by omega)] at e
      cases e) d t p h1 h2 h3 h4
  cases hf : fitA κ t with
  | true => exact this.1 hf
  | false => exact this.2 (by rw [hf]; decide)
theorem cl_one {κ : CS} {i : Nat} {on : Int32} (ch : Nat → Nat) : Ag (upn ch 0 i) [i] := fun j hj => by
  have : j = 0 := by simp at hj; exact hj
  subst this; rw [upn_eq]; rfl
theorem oc_G {κ : CS} {X : XT} (hI : InvM κ) (hS : ShX κ X) (hT : TIE κ X) (hH : HLD κ X) {t : CT} (ht : ShC κ t) (ch : Nat → Nat) (xc dy : Int32) : ocG κ X t xc dy = opGood κ ch xc dy := by
  unfold ocG opGood
  by_cases h : wrongC κ xc dy = 0
  · obtain ⟨j, hj, rfl, _⟩ := wrong_0 h hS.1
    rw [decide_eq_true h, show xj (nI j) = j from nI_clamp (by have := hS.1; omega), cj_cn hI hS hT hH (CL_one (f := t.1) (i := j) (d := dy)) (Nat.le_refl 1) rfl (restart_ok ht hj)]
    have hf : fitA κ (va_up t.1 0 (some j), 1, dy) = beginB κ j dy := by
      rw [← begin_iff hS hj]
      show (true && (decide (rfI κ j dy = 111) && (true || _))) = _
      simp
    rw [hf]; unfold gdK
    cases beginB κ j dy with
    | false => rfl
    | true => exact congrArg (fun z => ((0, nI z) : Nat × Int32)) (cnt_cn (κ := κ) (on := dy) 7 [j] (upn ch 0 j) (cl_one (κ := κ) (on := dy) ch) (Nat.le_refl 1)).symm
  · rw [decide_eq_false h]; rfl
theorem oc_H {κ : CS} {X : XT} (hI : InvM κ) (hS : ShX κ X) (hT : TIE κ X) (hH : HLD κ X) {t : CT} (ht : ShC κ t) (ch : Nat → Nat) (xc dy : Int32) : ocH κ X t xc dy = opGood κ ch xc dy := by
  unfold ocH opGood
  by_cases h : wrongC κ xc dy = 0
  · obtain ⟨j, hj, rfl, _⟩ := wrong_0 h hS.1
    rw [decide_eq_true h, show xj (nI j) = j from nI_clamp (by have := hS.1; omega)]
    unfold gwK2 gdK
    rw [begin_iff hS hj]
    cases beginB κ j dy with
    | false => rfl
    | true =>
      show (0, nI (clK κ X 7 (va_up t.1 0 (some j), 1, dy)).1) = (0, nI (cntK κ dy 7 1 (upn ch 0 j)).1)
      rw [cl_cn hI hS hT hH (CL_one (f := t.1) (i := j) (d := dy)) (Nat.le_refl 1) rfl (restart_ok ht hj)]
      exact congrArg (fun z => ((0, nI z) : Nat × Int32)) (cnt_cn (κ := κ) (on := dy) 7 [j] (upn ch 0 j) (cl_one (κ := κ) (on := dy) ch) (Nat.le_refl 1)).symm
  · rw [decide_eq_false h]; rfl
theorem mc_mc {κ : CS} {X : XT} (hI : InvM κ) (hS : ShX κ X) (hT : TIE κ X) (hH : HLD κ X) {t b : CT} (ht : ShC κ t) (hb : ShC κ b) (ch : Nat → Nat) : ∀ k, k ≤ κ.2.2.1 0 → (mcC κ X t b k).1 = (mcK κ ch k).1 ∧ (mcC κ X t b k).2.1 = (mcK κ ch k).2.1
  | 0, _ => ⟨rfl, rfl⟩
  | k + 1, hk => by
    obtain ⟨a1, a2⟩ := mc_mc hI hS hT hH ht hb ch k (by omega)
    obtain ⟨o1, o2, _⟩ := mcC_ok hI hS ht hb k (by omega)
    have hs := (sb_size hI hS hT hH (on := nI (κ.2.2.1 2)) (show k < κ.2.2.1 0 by omega) o1 o2 (mcK κ ch k).2.2).1
    refine ⟨?_, ?_⟩
    · show (mcC κ X t b k).1 + (sbK κ X k (nI (κ.2.2.1 2)) (mcC κ X t b k).2.2.1 (mcC κ X t b k).2.2.2).2.2.1 = (mcK κ ch k).1 + (bst κ k (nI (κ.2.2.1 2)) (mcK κ ch k).2.2).1
      rw [a1, hs]
    · show (mcC κ X t b k).2.1 + (if decide (0 < (sbK κ X k (nI (κ.2.2.1 2)) (mcC κ X t b k).2.2.1 (mcC κ X t b k).2.2.2).2.2.1) then 1 else 0) = (mcK κ ch k).2.1 + (if decide (0 < (bst κ k (nI (κ.2.2.1 2)) (mcK κ ch k).2.2).1) then 1 else 0)
      rw [a2, hs]
theorem sd_cnt {κ : CS} {X : XT} (hS : ShX κ X) (hE : ∀ i, i < κ.2.2.1 0 → κ.1 9 i ≤ nI (κ.2.2.1 2)) : cnt (sdB κ) (κ.2.2.1 0) = cnt (sndB κ) (κ.2.2.1 0) := cnt_congr fun _ hk => sd_eq hS hE hk
