/-! the root over a proof is the root -/
theorem rtG_dep (J : Int64 → Int64 → Int64) (E : Nat → Int64) : ∀ d d' f sz, sz ≤ 40 → sz ≤ 2 ^ d → sz ≤ 2 ^ d' → d < 7 → d' < 7 → 1 ≤ sz → rtG J E d f sz = rtG J E d' f sz := by
  have h0 : ∀ d f, rtG J E d f 1 = E f := by
    intro d f; cases d with
    | zero => rfl
    | succ d => rfl
  intro d
  induction d with
  | zero => intro d' f sz _ h1 _ _ _ h; rw [show sz = 1 from by simp at h1; omega, h0, h0]
  | succ d ih =>
    intro d' f sz h40 h1 h2 h7 h8 h
    by_cases e : sz = 1
    · rw [e, h0, h0]
    · cases d' with
      | zero => simp at h2; omega
      | succ d' =>
        obtain ⟨hs1, hs2, hs3, hs4⟩ := spl_spec sz (by omega) (by omega)
        have a := hs4 d (by omega) h1
        have b := hs4 d' (by omega) h2
        show (if decide (sz = 1) then E f else J (rtG J E d f (spl sz)) (rtG J E d (f + spl sz) (sz - spl sz))) = (if decide (sz = 1) then E f else J (rtG J E d' f (spl sz)) (rtG J E d' (f + spl sz) (sz - spl sz)))
        rw [ih d' f (spl sz) (by omega) a b (by omega) (by omega) hs1, ih d' (f + spl sz) (sz - spl sz) (by omega) (by omega) (by omega) (by omega) (by omega) (by omega)]
theorem rtG_6 (J : Int64 → Int64 → Int64) (E : Nat → Int64) {f sz : Nat} (h1 : 2 ≤ sz) (h2 : sz ≤ 40) : rtG J E 6 f sz = J (rtG J E 6 f (spl sz)) (rtG J E 6 (f + spl sz) (sz - spl sz)) := by
  obtain ⟨hs1, hs2, hs3, hs4⟩ := spl_spec sz (by omega) (by omega)
  have a : spl sz ≤ 2 ^ 5 := hs4 5 (by omega) (by show sz ≤ 64; omega)
  have a' : spl sz ≤ 32 := a
  show (if decide (sz = 1) then E f else J (rtG J E 5 f (spl sz)) (rtG J E 5 (f + spl sz) (sz - spl sz))) = _
  rw [decide_eq_false (show ¬ sz = 1 by omega), rtG_dep J E 5 6 f (spl sz) (by omega) a (by show _ ≤ 64; omega) (by omega) (by omega) hs1, rtG_dep J E 5 6 (f + spl sz) (sz - spl sz) (by omega) (by show _ ≤ 32; omega) (by show _ ≤ 64; omega) (by omega) (by omega) (by omega)]
  rfl
theorem rt_6 (κ : CS) {f sz : Nat} (h1 : 2 ≤ sz) (h2 : sz ≤ 40) : rt κ 6 f sz = jn (rt κ 6 f (spl sz)) (rt κ 6 (f + spl sz) (sz - spl sz)) := by
  rw [rt_G, rt_G, rt_G]; exact rtG_6 jn (ent κ) h1 h2
theorem rt_61 (κ : CS) {f : Nat} : rt κ 6 f 1 = ent κ f := by rw [rt_G]; rfl
theorem dsK_pre {κ : CS} {sm : Nat} : ∀ d fr sz q, ∀ i, i < q.2.2 → (dsK κ sm false d fr sz q).1 i = q.1 i ∧ (dsK κ sm false d fr sz q).2.1 i = q.2.1 i := by
  intro d
  induction d with
  | zero => intro fr sz q i _; exact ⟨rfl, rfl⟩
  | succ d ih =>
    intro fr sz q i hi
    show (if decide (sz ≤ 1) then fiP κ false fr sz q else if false && decide (sm = fr + sz) then fiP κ false fr sz q else if decide (sm ≤ fr + spl sz) then dsK κ sm false d fr (spl sz) (puP q (rt κ 6 (fr + spl sz) (sz - spl sz)) false) else dsK κ sm false d (fr + spl sz) (sz - spl sz) (puP q (rt κ 6 fr (spl sz)) true)).1 i = q.1 i ∧ (if decide (sz ≤ 1) then fiP κ false fr sz q else if false && decide (sm = fr + sz) then fiP κ false fr sz q else if decide (sm ≤ fr + spl sz) then dsK κ sm false d fr (spl sz) (puP q (rt κ 6 (fr + spl sz) (sz - spl sz)) false) else dsK κ sm false d (fr + spl sz) (sz - spl sz) (puP q (rt κ 6 fr (spl sz)) true)).2.1 i = q.2.1 i
    have hne : i ≠ q.2.2 := by omega
    have key : ∀ (h : Int64) (b : Bool), i < (puP q h b).2.2 ∧ (puP q h b).1 i = q.1 i ∧ (puP q h b).2.1 i = q.2.1 i := by
      intro h b
      refine ⟨by show i < q.2.2 + 1; omega, ?_, ?_⟩
      · show vp_updL q.1 q.2.2 h i = q.1 i; simp [vp_updL, hne]
      · show upb q.2.1 q.2.2 b i = q.2.1 i; simp [upb, hne]
    by_cases h1 : sz ≤ 1
    · rw [decide_eq_true h1]; exact ⟨rfl, rfl⟩
    · rw [decide_eq_false h1]
      by_cases h2 : sm ≤ fr + spl sz
      · rw [decide_eq_true h2]
        obtain ⟨k1, k2, k3⟩ := key (rt κ 6 (fr + spl sz) (sz - spl sz)) false
        obtain ⟨a, b⟩ := ih fr (spl sz) _ i k1
        exact ⟨a.trans k2, b.trans k3⟩
      · rw [decide_eq_false h2]
        obtain ⟨k1, k2, k3⟩ := key (rt κ 6 fr (spl sz)) true
        obtain ⟨a, b⟩ := ih (fr + spl sz) (sz - spl sz) _ i k1
        exact ⟨a.trans k2, b.trans k3⟩
theorem rfP_ds {κ : CS} {en : Nat} : ∀ d fr sz q, sz ≤ 2 ^ d → 1 ≤ sz → sz ≤ 40 → d < 7 → fr ≤ en → en < fr + sz → rfP jn (dsK κ (en + 1) false d fr sz q) (dsK κ (en + 1) false d fr sz q).2.2 (ent κ en) = rfP jn (dsK κ (en + 1) false d fr sz q) q.2.2 (rt κ 6 fr sz) := by
  have base : ∀ d fr sz q, sz ≤ 1 → 1 ≤ sz → fr ≤ en → en < fr + sz → rfP jn (dsK κ (en + 1) false d fr sz q) (dsK κ (en + 1) false d fr sz q).2.2 (ent κ en) = rfP jn (dsK κ (en + 1) false d fr sz q) q.2.2 (rt κ 6 fr sz) := by
    intro d fr sz q h1 h2 h3 h4
    have e1 : sz = 1 := by omega
    have e2 : fr = en := by omega
    subst e1; subst e2
    rw [dsK_z (Or.inl h1), rt_61]; rfl
  intro d
  induction d with
  | zero => intro fr sz q hp h1 _ _ h3 h4; exact base 0 fr sz q (by simp at hp; omega) h1 h3 h4
  | succ d ih =>
    intro fr sz q hp h1 h40 h7 h3 h4
    by_cases hs : sz ≤ 1
    · exact base (d + 1) fr sz q hs h1 h3 h4
    · obtain ⟨hs1, hs2, hs3, hs4⟩ := spl_spec sz (by omega) (by omega)
      have hs5 := hs4 d (by omega) hp
      by_cases h2 : en + 1 ≤ fr + spl sz
      · have e0 := dsK_a (κ := κ) (sm := en + 1) (gr := false) (d := d + 1) (fr := fr) (lf := sz) (q := q) hs rfl h2 hp
        rw [show d + 1 - 1 = d from rfl] at e0
        rw [e0]
        have hi := ih fr (spl sz) (puP q (rt κ 6 (fr + spl sz) (sz - spl sz)) false) hs5 hs1 (by omega) (by omega) h3 (by omega)
        rw [hi]
        obtain ⟨a, b⟩ := dsK_pre (κ := κ) (sm := en + 1) d fr (spl sz) (puP q (rt κ 6 (fr + spl sz) (sz - spl sz)) false) q.2.2 (Nat.lt_succ_self _)
        generalize dsK κ (en + 1) false d fr (spl sz) (puP q (rt κ 6 (fr + spl sz) (sz - spl sz)) false) = R at *
        have b2 : R.2.1 q.2.2 = false := b.trans (by show upb q.2.1 q.2.2 false q.2.2 = false; simp [upb])
        have a2 : R.1 q.2.2 = rt κ 6 (fr + spl sz) (sz - spl sz) := a.trans (by show vp_updL q.1 q.2.2 _ q.2.2 = _; simp [vp_updL])
        have h9 := rfP_f (J := jn) (q := R) (n := q.2.2 + 1) (r := rt κ 6 fr (spl sz)) (by omega) b2
        rw [show q.2.2 + 1 - 1 = q.2.2 from rfl, a2, ← rt_6 κ (by omega) h40] at h9
        exact h9.symm
      · have e0 := dsK_b (κ := κ) (sm := en + 1) (gr := false) (d := d + 1) (fr := fr) (lf := sz) (q := q) hs rfl h2 hp
        rw [show d + 1 - 1 = d from rfl] at e0
        rw [e0]
        have hi := ih (fr + spl sz) (sz - spl sz) (puP q (rt κ 6 fr (spl sz)) true) (by omega) (by omega) (by omega) (by omega) (by omega) (by omega)
        rw [hi]
        obtain ⟨a, b⟩ := dsK_pre (κ := κ) (sm := en + 1) d (fr + spl sz) (sz - spl sz) (puP q (rt κ 6 fr (spl sz)) true) q.2.2 (Nat.lt_succ_self _)
        generalize dsK κ (en + 1) false d (fr + spl sz) (sz - spl sz) (puP q (rt κ 6 fr (spl sz)) true) = R at *
        have b2 : R.2.1 q.2.2 = true := b.trans (by show upb q.2.1 q.2.2 true q.2.2 = true; simp [upb])
        have a2 : R.1 q.2.2 = rt κ 6 fr (spl sz) := a.trans (by show vp_updL q.1 q.2.2 _ q.2.2 = _; simp [vp_updL])
        have h9 := rfP_t (J := jn) (q := R) (n := q.2.2 + 1) (r := rt κ 6 (fr + spl sz) (sz - spl sz)) (by omega) b2
        rw [show q.2.2 + 1 - 1 = q.2.2 from rfl, a2, ← rt_6 κ (by omega) h40] at h9
        exact h9.symm
