/-! begun: the book before and behind its two roots -/
section BGS
variable {N : Nat → Int32} {κ : CS} {k : Nat}
def N00 : Nat → Int32 := fun _ => nI 0
theorem NT_0 : NT N00 kap0 := ⟨rfl, rfl, rfl, rfl, fun c hc => absurd hc (Nat.not_lt_zero c), fun _ _ _ _ _ => rfl, fun h => absurd rfl h, fun k hk => absurd hk (Nat.not_lt_zero k)⟩
def BG (N : Nat → Int32) (κ : CS) (k : Nat) : Prop := NT N κ ∧ κ.2.2.1 0 = k ∧ (k = 0 ∨ LAW N κ) ∧ ∀ i, i < k → κ.2.1 2 i = true
theorem bg_0 : BG N00 kap0 0 := ⟨NT_0, rfl, Or.inl rfl, fun i hi => absurd hi (Nat.not_lt_zero i)⟩
abbrev RK (κ : CS) (nm ds : Int32) (a : Nat) : CS := setB (auK (mkK (kyK κ) nm (nI (κ.2.2.1 1 + 1)) nm (nI (κ.2.2.1 1 + 1)) ds) (κ.2.2.1 0) (nI a)) 1 (κ.2.2.1 0) true
set_option maxHeartbeats 2000000 in
theorem NT_root (h : NT N κ) (hF : FRS κ) (hn4 : κ.2.2.1 0 < 40) (nm ds : Int32) {a : Nat} (ha : a ≤ 5) : NT (rtN N (κ.2.2.1 0) (κ.2.2.1 1) nm ds (nI a)) (RK κ nm ds a) := by
  obtain ⟨f7, f8, fB⟩ := hF _ (Nat.le_refl _)
  have n2 := h.n2
  have hneg : ¬ nI a < 0 := nI_pos (by omega)
  refine NT_mk h hn4 (k1 := κ.2.2.1 1 + 1) rfl rfl rfl rfl rfl (fun c hc f hf => ?_) ?_ ?_ ?_ ?_
  · rw [sb_col (by omega) f hf, au_col (by omega) f hf]
    exact (mk_col (κ := kyK κ) (show c ≠ κ.2.2.1 0 by omega) f hf).trans rfl
  · exact (pk_un (by omega)).trans mkN_n0
  · exact (pk_un (by omega)).trans (mkN_n1.trans up_eq)
  · obtain ⟨m0, m1, m2, m3, m4, m5, m6, m7, m8, m9, m10, m11, m12, m13⟩ := mkN_new (N := upd N 1 (nI (κ.2.2.1 1 + 1))) (n := κ.2.2.1 0) (nm := nm) (ky := nI (κ.2.2.1 1 + 1)) (bn := nm) (bk := nI (κ.2.2.1 1 + 1)) (ds := ds) (ln := nI a) (fun f hf => (pk_un (by omega)).trans (h.fr (Nat.le_refl _) hn4 hf))
    have u2 : upd N 1 (nI (κ.2.2.1 1 + 1)) 2 = nI (κ.2.2.1 2) := (pk_un (by decide)).trans n2
    rw [u2] at m4 m5
    rw [if_neg hneg] at m6
    refine fin14 ⟨(pk_un (by omega)).trans (m0.trans ?_), (pk_un (by omega)).trans (m1.trans ?_), (pk_un (by omega)).trans (m2.trans ?_), (pk_un (by omega)).trans (m3.trans ?_), (pk_un (by omega)).trans (m4.trans ?_), (pk_un (by omega)).trans (m5.trans ?_), (pk_un (by omega)).trans (m6.trans ?_), (pk_un (by omega)).trans (m7.trans ?_), (pk_un (by omega)).trans (m8.trans ?_), (pk_un (by omega)).trans (m9.trans ?_), (pk_un (by omega)).trans (m10.trans ?_), (pk_un (by omega)).trans (m11.trans ?_), (pk_un (by omega)).trans (m12.trans ?_), up_eq.trans ?_⟩ <;>
      simp [colv, lenI, setB, auK, mkK, kyK, upI, upB, upd, upb, upn, zb, f7, f8, fB]
  · intro j h0 h1 hj
    exact (pk_un (by omega)).trans ((mkN_old h0 (by omega)).trans (pk_un h1))
theorem RK_n {nm ds : Int32} {a : Nat} : (RK κ nm ds a).2.2.1 0 = κ.2.2.1 0 + 1 := rfl
theorem RK_r {nm ds : Int32} {a : Nat} : (RK κ nm ds a).2.1 1 (κ.2.2.1 0) = true := by simp [setB, auK, mkK, kyK, upB, upb]
theorem RK_2 {nm ds : Int32} {a i : Nat} : (RK κ nm ds a).2.1 2 i = κ.2.1 2 i := by simp [setB, auK, mkK, kyK, upB, upb]
theorem bg_root (h : BG N κ k) (hF : FRS κ) (hk : k < 40) (nm ds : Int32) (hnm : nameB nm = true) {a : Nat} (ha : a ≤ 5) : LAW (rtN N (κ.2.2.1 0) (κ.2.2.1 1) nm ds (nI a)) (RK κ nm ds a) := by
  obtain ⟨hN, e, hl, _⟩ := h
  rcases hl with e0 | hl
  · have e1 : κ.2.2.1 0 = 0 := by omega
    refine ⟨NT_root hN hF (by omega) nm ds ha, by rw [RK_n]; omega, ?_, fun i hi h2 => ?_, fun i hi => ?_⟩
    · have := RK_r (κ := κ) (nm := nm) (ds := ds) (a := a)
      rw [e1] at this; exact this
    · rw [RK_n, e1] at hi
      have := RK_r (κ := κ) (nm := nm) (ds := ds) (a := a)
      rw [e1] at this
      rw [show i = 0 by omega]; exact this
    · rw [RK_n, e1] at hi
      have e9 : (RK κ nm ds a).1 0 (κ.2.2.1 0) = nm := by simp [setB, auK, mkK, kyK, upI, upd, upn]
      rw [e1] at e9
      rw [show i = 0 by omega, e9]; exact hnm
  · exact law_root hl hF (by omega) nm ds hnm ha
theorem cnt_all {p : Nat → Bool} : ∀ n, (∀ i, i < n → p i = true) → cnt p n = n
  | 0, _ => rfl
  | n + 1, h => by rw [← cnt_t (h n (by omega)), cnt_all n (fun i hi => h i (by omega))]
/-- behind a root and the trust in it -/
theorem bg_next {N1 : Nat → Int32} {κ1 : CS} (hL : LAW N1 κ1) (hn : κ1.2.2.1 0 ≤ 40) (e : κ1.2.2.1 0 = k + 1) (hr : κ1.2.1 1 k = true) (h2 : ∀ i, i < k → κ1.2.1 2 i = true) : BG (upd N1 (10 + 14 * k + 12) (nI 1)) (setB κ1 2 k true) (k + 1) ∧ cnt (upB κ1.2.1 2 k true 2) (κ1.2.2.1 0) = k + 1 := by
  have hl := law_trust hL (ci := k) (by omega) hn hr true
  have h9 : ∀ i, i < k + 1 → upB κ1.2.1 2 k true 2 i = true := fun i hi => by
    by_cases q : i = k
    · rw [q]; simp [upB, upb]
    · rw [upB_ne (Or.inr q)]; exact h2 i (by omega)
  exact ⟨⟨hl.1, e, Or.inr hl, h9⟩, by rw [e]; exact cnt_all _ h9⟩
theorem bg_law (h : BG N κ 2) : LAW N κ := h.2.2.1.resolve_left (by decide)
end BGS
theorem nm_12 {x : Nat} (h : x < 2) : nameB (nI (1 + x)) = true := by
  rcases (show x = 0 ∨ x = 1 by omega) with e | e <;> subst e <;> decide
theorem ln_15 {x : Nat} (h : x < 5) : isInB (nI (1 + x)) (nI 0) (nI 5) = true := by rw [isInB_nI (by omega) (by decide) (by decide)]; exact decide_eq_true ⟨by omega, by omega⟩
theorem dy_60 : isInB (nI 60) (nI 1) (nI 999) = true := by decide
/-- a world with its first address given -/
def rb (u : LT) (v : Nat) : LT := (u.1, u.2.1, (fun i j => if i = 0 ∧ j = 0 then v else u.2.2.1 i j), u.2.2.2)
theorem rb_id (u : LT) : rb u (u.2.2.1 0 0) = u := by
  obtain ⟨N, κ, ad, X⟩ := u
  show (N, κ, (fun i j => if i = 0 ∧ j = 0 then ad 0 0 else ad i j), X) = (N, κ, ad, X)
  congr 3
  funext i j
  by_cases q : i = 0 ∧ j = 0
  · rw [if_pos q, q.1, q.2]
  · rw [if_neg q]
