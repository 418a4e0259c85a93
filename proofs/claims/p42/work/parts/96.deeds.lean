/-! the law's deeds keep what holds between them -/
section DEEDS
variable {N : Nat → Int32} {κ : CS}
theorem mkN_n0 {n : Nat} {nm ky bn bk ds ln : Int32} : mkN N n nm ky bn bk ds ln 0 = nI (n + 1) := up_eq
theorem mkN_n1 {n : Nat} {nm ky bn bk ds ln : Int32} : mkN N n nm ky bn bk ds ln 1 = N 1 := mkN_old (by decide) (by omega)
theorem law_mk {N1 : Nat → Int32} {κ1 : CS} (h : LAW N κ) (hNT : NT N1 κ1) (e0 : κ1.2.2.1 0 = κ.2.2.1 0 + 1) (hB : ∀ g i, i < κ.2.2.1 0 → κ1.2.1 g i = κ.2.1 g i) (h2 : κ1.2.1 2 (κ.2.2.1 0) = false) (h0 : ∀ i, i < κ.2.2.1 0 → κ1.1 0 i = κ.1 0 i) (hnm : nameB (κ1.1 0 (κ.2.2.1 0)) = true) : LAW N1 κ1 := by
  obtain ⟨a, b, c, e, e2⟩ := h
  refine ⟨hNT, by omega, by rw [hB 1 0 (by omega)]; exact c, fun i hi h9 => ?_, fun i hi => ?_⟩
  · rw [e0] at hi
    by_cases q : i = κ.2.2.1 0
    · rw [q, h2] at h9; cases h9
    · rw [hB 2 i (by omega)] at h9; rw [hB 1 i (by omega)]; exact e i (by omega) h9
  · rw [e0] at hi
    by_cases q : i = κ.2.2.1 0
    · rw [q]; exact hnm
    · rw [h0 i (by omega)]; exact e2 i (by omega)
set_option maxHeartbeats 2000000 in
theorem law_root (h : LAW N κ) (hF : FRS κ) (hn4 : κ.2.2.1 0 < 40) (nm ds : Int32) (hnm : nameB nm = true) {a : Nat} (ha : a ≤ 5) : LAW (rtN N (κ.2.2.1 0) (κ.2.2.1 1) nm ds (nI a)) (setB (auK (mkK (kyK κ) nm (nI (κ.2.2.1 1 + 1)) nm (nI (κ.2.2.1 1 + 1)) ds) (κ.2.2.1 0) (nI a)) 1 (κ.2.2.1 0) true) := by
  obtain ⟨f7, f8, fB⟩ := hF _ (Nat.le_refl _)
  have n2 := h.1.n2
  have hneg : ¬ nI a < 0 := nI_pos (by omega)
  refine law_mk h (NT_mk h.1 hn4 (k1 := κ.2.2.1 1 + 1) rfl rfl rfl rfl rfl (fun c hc f hf => ?_) ?_ ?_ ?_ ?_) rfl (fun g i hi => ?_) ?_ (fun i hi => ?_) ?_
  · rw [sb_col (by omega) f hf, au_col (by omega) f hf]
    exact (mk_col (κ := kyK κ) (show c ≠ κ.2.2.1 0 by omega) f hf).trans rfl
  · exact (pk_un (by omega)).trans mkN_n0
  · exact (pk_un (by omega)).trans (mkN_n1.trans up_eq)
  · obtain ⟨m0, m1, m2, m3, m4, m5, m6, m7, m8, m9, m10, m11, m12, m13⟩ := mkN_new (N := upd N 1 (nI (κ.2.2.1 1 + 1))) (n := κ.2.2.1 0) (nm := nm) (ky := nI (κ.2.2.1 1 + 1)) (bn := nm) (bk := nI (κ.2.2.1 1 + 1)) (ds := ds) (ln := nI a) (fun f hf => (pk_un (by omega)).trans (FR0 h hn4 f hf))
    have u2 : upd N 1 (nI (κ.2.2.1 1 + 1)) 2 = nI (κ.2.2.1 2) := (pk_un (by decide)).trans n2
    rw [u2] at m4 m5
    rw [if_neg hneg] at m6
    refine fin14 ⟨(pk_un (by omega)).trans (m0.trans ?_), (pk_un (by omega)).trans (m1.trans ?_), (pk_un (by omega)).trans (m2.trans ?_), (pk_un (by omega)).trans (m3.trans ?_), (pk_un (by omega)).trans (m4.trans ?_), (pk_un (by omega)).trans (m5.trans ?_), (pk_un (by omega)).trans (m6.trans ?_), (pk_un (by omega)).trans (m7.trans ?_), (pk_un (by omega)).trans (m8.trans ?_), (pk_un (by omega)).trans (m9.trans ?_), (pk_un (by omega)).trans (m10.trans ?_), (pk_un (by omega)).trans (m11.trans ?_), (pk_un (by omega)).trans (m12.trans ?_), up_eq.trans ?_⟩ <;>
      simp [colv, lenI, setB, auK, mkK, kyK, upI, upB, upd, upb, upn, zb, f7, f8, fB]
  · intro j h0 h1 hj
    exact (pk_un (by omega)).trans ((mkN_old h0 (by omega)).trans (pk_un h1))
  · show upB (upB κ.2.1 0 (κ.2.2.1 0) true) 1 (κ.2.2.1 0) true g i = κ.2.1 g i
    rw [upB_ne (Or.inr (by omega)), upB_ne (Or.inr (by omega))]
  · show upB (upB κ.2.1 0 (κ.2.2.1 0) true) 1 (κ.2.2.1 0) true 2 (κ.2.2.1 0) = false
    rw [upB_ne (Or.inl (by decide)), upB_ne (Or.inl (by decide))]; exact fB 2
  · have hne : i ≠ κ.2.2.1 0 := by omega
    show (setB (auK (mkK (kyK κ) nm (nI (κ.2.2.1 1 + 1)) nm (nI (κ.2.2.1 1 + 1)) ds) (κ.2.2.1 0) (nI a)) 1 (κ.2.2.1 0) true).1 0 i = _
    simp [setB, auK, mkK, kyK, upI, upd, upn, hne]
  · have e9 : (setB (auK (mkK (kyK κ) nm (nI (κ.2.2.1 1 + 1)) nm (nI (κ.2.2.1 1 + 1)) ds) (κ.2.2.1 0) (nI a)) 1 (κ.2.2.1 0) true).1 0 (κ.2.2.1 0) = nm := by simp [setB, auK, mkK, kyK, upI, upd, upn]
    rw [e9]; exact hnm
set_option maxHeartbeats 2000000 in
theorem law_issueA (h : LAW N κ) (hF : FRS κ) (hn4 : κ.2.2.1 0 < 40) {ci : Nat} (hc : ci < κ.2.2.1 0) (nm ds : Int32) (hnm : nameB nm = true) {a : Nat} (ha : a ≤ 5) : LAW (chN N (κ.2.2.1 0) (κ.2.2.1 1) ci nm ds (nI a)) (auK (mkK (kyK κ) nm (nI (κ.2.2.1 1 + 1)) (κ.1 0 ci) (κ.1 1 ci) ds) (κ.2.2.1 0) (nI a)) := by
  obtain ⟨f7, f8, fB⟩ := hF _ (Nat.le_refl _)
  have n2 := h.1.n2
  have hneg : ¬ nI a < 0 := nI_pos (by omega)
  refine law_mk h (NT_mk h.1 hn4 (k1 := κ.2.2.1 1 + 1) rfl rfl rfl rfl rfl (fun c hc f hf => ?_) ?_ ?_ ?_ ?_) rfl (fun g i hi => ?_) ?_ (fun i hi => ?_) ?_
  · rw [au_col (by omega) f hf]
    exact (mk_col (κ := kyK κ) (show c ≠ κ.2.2.1 0 by omega) f hf).trans rfl
  · exact mkN_n0
  · exact mkN_n1.trans up_eq
  · obtain ⟨m0, m1, m2, m3, m4, m5, m6, m7, m8, m9, m10, m11, m12, m13⟩ := mkN_new (N := upd N 1 (nI (κ.2.2.1 1 + 1))) (n := κ.2.2.1 0) (nm := nm) (ky := nI (κ.2.2.1 1 + 1)) (bn := N (10 + 14 * ci)) (bk := N (10 + 14 * ci + 1)) (ds := ds) (ln := nI a) (fun f hf => (pk_un (by omega)).trans (FR0 h hn4 f hf))
    have u2 : upd N 1 (nI (κ.2.2.1 1 + 1)) 2 = nI (κ.2.2.1 2) := (pk_un (by decide)).trans n2
    rw [u2] at m4 m5
    rw [if_neg hneg] at m6
    refine fin14 ⟨m0.trans ?_, m1.trans ?_, m2.trans ((h.1.c0 hc).trans ?_), m3.trans ((h.1.c1 hc).trans ?_), m4.trans ?_, m5.trans ?_, m6.trans ?_, m7.trans ?_, m8.trans ?_, m9.trans ?_, m10.trans ?_, m11.trans ?_, m12.trans ?_, m13.trans ?_⟩ <;>
      simp [colv, lenI, setB, auK, mkK, kyK, upI, upB, upd, upb, upn, zb, f7, f8, fB]
  · intro j h0 h1 hj
    exact (mkN_old h0 (by omega)).trans (pk_un h1)
  · show upB κ.2.1 0 (κ.2.2.1 0) true g i = κ.2.1 g i
    rw [upB_ne (Or.inr (by omega))]
  · show upB κ.2.1 0 (κ.2.2.1 0) true 2 (κ.2.2.1 0) = false
    rw [upB_ne (Or.inl (by decide))]; exact fB 2
  · have hne : i ≠ κ.2.2.1 0 := by omega
    show (auK (mkK (kyK κ) nm (nI (κ.2.2.1 1 + 1)) (κ.1 0 ci) (κ.1 1 ci) ds) (κ.2.2.1 0) (nI a)).1 0 i = _
    simp [setB, auK, mkK, kyK, upI, upd, upn, hne]
  · have e9 : (auK (mkK (kyK κ) nm (nI (κ.2.2.1 1 + 1)) (κ.1 0 ci) (κ.1 1 ci) ds) (κ.2.2.1 0) (nI a)).1 0 (κ.2.2.1 0) = nm := by simp [setB, auK, mkK, kyK, upI, upd, upn]
    rw [e9]; exact hnm
set_option maxHeartbeats 2000000 in
theorem law_issue (h : LAW N κ) (hF : FRS κ) (hn4 : κ.2.2.1 0 < 40) {ci : Nat} (hc : ci < κ.2.2.1 0) (nm ds : Int32) (hnm : nameB nm = true) : LAW (chN N (κ.2.2.1 0) (κ.2.2.1 1) ci nm ds (-1)) (mkK (kyK κ) nm (nI (κ.2.2.1 1 + 1)) (κ.1 0 ci) (κ.1 1 ci) ds) := by
  obtain ⟨f7, f8, fB⟩ := hF _ (Nat.le_refl _)
  have n2 := h.1.n2
  refine law_mk h (NT_mk h.1 hn4 (k1 := κ.2.2.1 1 + 1) rfl rfl rfl rfl rfl (fun c hc f hf => ?_) ?_ ?_ ?_ ?_) rfl (fun g i hi => ?_) ?_ (fun i hi => ?_) ?_
  · exact (mk_col (κ := kyK κ) (show c ≠ κ.2.2.1 0 by omega) f hf).trans rfl
  · exact mkN_n0
  · exact mkN_n1.trans up_eq
  · obtain ⟨m0, m1, m2, m3, m4, m5, m6, m7, m8, m9, m10, m11, m12, m13⟩ := mkN_new (N := upd N 1 (nI (κ.2.2.1 1 + 1))) (n := κ.2.2.1 0) (nm := nm) (ky := nI (κ.2.2.1 1 + 1)) (bn := N (10 + 14 * ci)) (bk := N (10 + 14 * ci + 1)) (ds := ds) (ln := -1) (fun f hf => (pk_un (by omega)).trans (FR0 h hn4 f hf))
    have u2 : upd N 1 (nI (κ.2.2.1 1 + 1)) 2 = nI (κ.2.2.1 2) := (pk_un (by decide)).trans n2
    rw [u2] at m4 m5
    rw [if_pos (by decide)] at m6
    refine fin14 ⟨m0.trans ?_, m1.trans ?_, m2.trans ((h.1.c0 hc).trans ?_), m3.trans ((h.1.c1 hc).trans ?_), m4.trans ?_, m5.trans ?_, m6.trans ?_, m7.trans ?_, m8.trans ?_, m9.trans ?_, m10.trans ?_, m11.trans ?_, m12.trans ?_, m13.trans ?_⟩ <;>
      simp [colv, lenI, setB, auK, mkK, kyK, upI, upB, upd, upb, upn, zb, f7, f8, fB]
  · intro j h0 h1 hj
    exact (mkN_old h0 (by omega)).trans (pk_un h1)
  · rfl
  · exact fB 2
  · have hne : i ≠ κ.2.2.1 0 := by omega
    show (mkK (kyK κ) nm (nI (κ.2.2.1 1 + 1)) (κ.1 0 ci) (κ.1 1 ci) ds).1 0 i = _
    simp [setB, auK, mkK, kyK, upI, upd, upn, hne]
  · have e9 : (mkK (kyK κ) nm (nI (κ.2.2.1 1 + 1)) (κ.1 0 ci) (κ.1 1 ci) ds).1 0 (κ.2.2.1 0) = nm := by simp [setB, auK, mkK, kyK, upI, upd, upn]
    rw [e9]; exact hnm
set_option maxHeartbeats 2000000 in
theorem law_cross (h : LAW N κ) (hF : FRS κ) (hn4 : κ.2.2.1 0 < 40) (nm ky bn bk ds : Int32) (hnm : nameB nm = true) {a : Nat} (ha : a ≤ 5) : LAW (mkN N (κ.2.2.1 0) nm ky bn bk ds (nI a)) (auK (mkK κ nm ky bn bk ds) (κ.2.2.1 0) (nI a)) := by
  obtain ⟨f7, f8, fB⟩ := hF _ (Nat.le_refl _)
  have n2 := h.1.n2
  have hneg : ¬ nI a < 0 := nI_pos (by omega)
  refine law_mk h (NT_mk h.1 hn4 (k1 := κ.2.2.1 1) rfl rfl rfl rfl rfl (fun c hc f hf => ?_) ?_ ?_ ?_ ?_) rfl (fun g i hi => ?_) ?_ (fun i hi => ?_) ?_
  · rw [au_col (by omega) f hf]
    exact mk_col (show c ≠ κ.2.2.1 0 by omega) f hf
  · exact mkN_n0
  · exact mkN_n1.trans h.1.n1
  · obtain ⟨m0, m1, m2, m3, m4, m5, m6, m7, m8, m9, m10, m11, m12, m13⟩ := mkN_new (N := N) (n := κ.2.2.1 0) (nm := nm) (ky := ky) (bn := bn) (bk := bk) (ds := ds) (ln := nI a) (fun f hf => FR0 h hn4 f hf)
    rw [n2] at m4 m5
    rw [if_neg hneg] at m6
    refine fin14 ⟨m0.trans ?_, m1.trans ?_, m2.trans ?_, m3.trans ?_, m4.trans ?_, m5.trans ?_, m6.trans ?_, m7.trans ?_, m8.trans ?_, m9.trans ?_, m10.trans ?_, m11.trans ?_, m12.trans ?_, m13.trans ?_⟩ <;>
      simp [colv, lenI, setB, auK, mkK, kyK, upI, upB, upd, upb, upn, zb, f7, f8, fB]
  · intro j h0 h1 hj
    exact mkN_old h0 (by omega)
  · show upB κ.2.1 0 (κ.2.2.1 0) true g i = κ.2.1 g i
    rw [upB_ne (Or.inr (by omega))]
  · show upB κ.2.1 0 (κ.2.2.1 0) true 2 (κ.2.2.1 0) = false
    rw [upB_ne (Or.inl (by decide))]; exact fB 2
  · have hne : i ≠ κ.2.2.1 0 := by omega
    show (auK (mkK κ nm ky bn bk ds) (κ.2.2.1 0) (nI a)).1 0 i = _
    simp [setB, auK, mkK, kyK, upI, upd, upn, hne]
  · have e9 : (auK (mkK κ nm ky bn bk ds) (κ.2.2.1 0) (nI a)).1 0 (κ.2.2.1 0) = nm := by simp [setB, auK, mkK, kyK, upI, upd, upn]
    rw [e9]; exact hnm
theorem law_col (h : LAW N κ) {κ1 : CS} {ci fi : Nat} (hc : ci < κ.2.2.1 0) (hn : κ.2.2.1 0 ≤ 40) (hf : fi < 14) {v : Int32} (hv : v = colv κ1 ci fi) (hk : κ1.2.2 = κ.2.2) (h1 : ∀ c f, f < 14 → (c ≠ ci ∨ f ≠ fi) → colv κ1 c f = colv κ c f) (hB1 : ∀ i, κ1.2.1 1 i = κ.2.1 1 i) (hB2 : ∀ i, i < κ.2.2.1 0 → κ1.2.1 2 i = true → κ.2.1 1 i = true) (hf0 : fi ≠ 0) : LAW (upd N (10 + 14 * ci + fi) v) κ1 := by
  obtain ⟨a, b, c, e, e2⟩ := h
  exact ⟨NT_col a hc hn hf hv hk h1, by rw [hk]; exact b, by rw [hB1]; exact c, by rw [hk]; intro i hi h9; rw [hB1]; exact hB2 i hi h9, by rw [hk]; intro i hi; rw [show κ1.1 0 i = κ.1 0 i from h1 i 0 (by decide) (Or.inr (fun q => hf0 q.symm))]; exact e2 i hi⟩
theorem si_col {f0 i : Nat} {v : Int32} {fi : Nat} (hf : (f0 = 7 ∧ fi = 8) ∨ (f0 = 8 ∧ fi = 9) ∨ (f0 = 9 ∧ fi = 10)) : ∀ c f, f < 14 → (c ≠ i ∨ f ≠ fi) → colv (setI κ f0 i v) c f = colv κ c f := by
  intro c f hf14 hne
  have e : ∀ g, (g ≠ f0 ∨ c ≠ i) → upI κ.1 f0 i v g c = κ.1 g c := fun g hg => upI_ne hg
  rcases hf with ⟨rfl, rfl⟩ | ⟨rfl, rfl⟩ | ⟨rfl, rfl⟩ <;>
  (match f, hf14 with
  | 0, _ => exact e 0 (Or.inl (by decide))
  | 1, _ => exact e 1 (Or.inl (by decide))
  | 2, _ => exact e 4 (Or.inl (by decide))
  | 3, _ => exact e 5 (Or.inl (by decide))
  | 4, _ => exact e 2 (Or.inl (by decide))
  | 5, _ => exact e 3 (Or.inl (by decide))
  | 6, _ => rfl
  | 7, _ => exact congrArg (fun z => if κ.2.1 0 c then z else (-1 : Int32)) (e 6 (Or.inl (by decide)))
  | 8, _ => exact e 7 (by first | exact Or.inl (by decide) | exact hne.elim Or.inr (fun q => absurd rfl q))
  | 9, _ => exact e 8 (by first | exact Or.inl (by decide) | exact hne.elim Or.inr (fun q => absurd rfl q))
  | 10, _ => exact e 9 (by first | exact Or.inl (by decide) | exact hne.elim Or.inr (fun q => absurd rfl q))
  | 11, _ => rfl
  | 12, _ => rfl
  | 13, _ => rfl)
theorem law_set (h : LAW N κ) {ci : Nat} (hc : ci < κ.2.2.1 0) (hn : κ.2.2.1 0 ≤ 40) (xp xe : Int32) : LAW (upd (upd N (10 + 14 * ci + 8) xp) (10 + 14 * ci + 9) xe) (setI (setI κ 7 ci xp) 8 ci xe) := by
  have h1 : LAW (upd N (10 + 14 * ci + 8) xp) (setI κ 7 ci xp) := law_col h hc hn (by decide) (show xp = upI κ.1 7 ci xp 7 ci from upI_eq.symm) rfl (fun c f hf hne => si_col (Or.inl ⟨rfl, rfl⟩) c f hf hne) (fun _ => rfl) h.2.2.2.1 (by decide)
  exact law_col h1 hc hn (by decide) (show xe = upI (setI κ 7 ci xp).1 8 ci xe 8 ci from upI_eq.symm) rfl (fun c f hf hne => si_col (Or.inr (Or.inl ⟨rfl, rfl⟩)) c f hf hne) (fun _ => rfl) h1.2.2.2.1 (by decide)
theorem upd_id {j : Nat} {v : Int32} (h : N j = v) : upd N j v = N := by
  funext k
  by_cases q : k = j
  · rw [q, up_eq, h]
  · exact pk_un q
theorem sb_col2 {b i : Nat} {v : Bool} {fi : Nat} (hf : (b = 2 ∧ fi = 12) ∨ (b = 3 ∧ fi = 11)) : ∀ c f, f < 14 → (c ≠ i ∨ f ≠ fi) → colv (setB κ b i v) c f = colv κ c f := by
  intro c f hf14 hne
  by_cases q : c = i
  · have hq : f ≠ fi := hne.elim (fun z => absurd q z) id
    have e : ∀ g, g ≠ b → upB κ.2.1 b i v g c = κ.2.1 g c := fun g hg => upB_ne (Or.inl hg)
    rcases hf with ⟨rfl, rfl⟩ | ⟨rfl, rfl⟩ <;>
    (match f, hf14 with
    | 0, _ => rfl
    | 1, _ => rfl
    | 2, _ => rfl
    | 3, _ => rfl
    | 4, _ => rfl
    | 5, _ => rfl
    | 6, _ => exact congrArg zb (e 0 (by decide))
    | 7, _ => exact congrArg (fun z : Bool => if z then κ.1 6 c else (-1 : Int32)) (e 0 (by decide))
    | 8, _ => rfl
    | 9, _ => rfl
    | 10, _ => rfl
    | 11, _ => exact congrArg zb (e 3 (by first | decide | exact absurd rfl hq))
    | 12, _ => exact congrArg zb (e 2 (by first | decide | exact absurd rfl hq))
    | 13, _ => exact congrArg zb (e 1 (by decide)))
  · exact sb_col q f hf14
theorem law_trust (h : LAW N κ) {ci : Nat} (hc : ci < κ.2.2.1 0) (hn : κ.2.2.1 0 ≤ 40) (hr : κ.2.1 1 ci = true) (b : Bool) : LAW (upd N (10 + 14 * ci + 12) (zb b)) (setB κ 2 ci b) :=
  law_col h hc hn (by decide) (show zb b = zb (upB κ.2.1 2 ci b 2 ci) from by rw [upB_eq]) rfl (fun c f hf hne => sb_col2 (Or.inl ⟨rfl, rfl⟩) c f hf hne) (fun i => upB_ne (B := κ.2.1) (f := 2) (j := ci) (x := b) (g := 1) (i := i) (Or.inl (by decide))) (fun i hi h9 => by
    by_cases q : i = ci
    · rw [q]; exact hr
    · exact h.2.2.2.1 i hi ((upB_ne (B := κ.2.1) (f := 2) (j := ci) (x := b) (g := 2) (i := i) (Or.inr q)).symm.trans h9)) (by decide)
theorem law_mark (h : LAW N κ) {ci : Nat} (hc : ci < κ.2.2.1 0) (hn : κ.2.2.1 0 ≤ 40) : LAW (upd N (10 + 14 * ci + 11) (nI 1)) (setB κ 3 ci true) :=
  law_col h hc hn (by decide) (show nI 1 = zb (upB κ.2.1 3 ci true 3 ci) from by rw [upB_eq]; rfl) rfl (fun c f hf hne => sb_col2 (Or.inr ⟨rfl, rfl⟩) c f hf hne) (fun i => upB_ne (B := κ.2.1) (f := 3) (j := ci) (x := true) (g := 1) (i := i) (Or.inl (by decide))) (fun i hi h9 => h.2.2.2.1 i hi ((upB_ne (B := κ.2.1) (f := 3) (j := ci) (x := true) (g := 2) (i := i) (Or.inl (by decide))).symm.trans h9)) (by decide)
/-- the lists: the first of the effects -/
theorem law_pub {ky : Int32} {j : Nat} (h : LAW N (pubI κ ky j, κ.2)) (hj : j < κ.2.2.1 0) (hn : κ.2.2.1 0 ≤ 40) {v : Int32} (hv : v = if pendB κ ky j then nI (κ.2.2.1 2) else κ.1 9 j) : LAW (upd N (10 + 14 * j + 10) v) (pubI κ ky (j + 1), κ.2) :=
  law_col h hj hn (by decide) (hv.trans (show _ = upI (pubI κ ky j) 9 j _ 9 j from upI_eq.symm)) rfl (fun c f hf hne => si_col (κ := (pubI κ ky j, κ.2)) (Or.inr (Or.inr ⟨rfl, rfl⟩)) c f hf hne) (fun _ => rfl) h.2.2.2.1 (by decide)
theorem pub_none {ky : Int32} (h : cnt (pendB κ ky) (κ.2.2.1 0) = 0) (hL : LAW N κ) : LAW N (pubI κ ky (κ.2.2.1 0), κ.2) := by
  have hp : ∀ c, c < κ.2.2.1 0 → pendB κ ky c = false := fun c hc => by
    cases q : pendB κ ky c with
    | false => rfl
    | true => have := cnt_lt q (κ.2.2.1 0) hc; omega
  refine ⟨NT_ext hL.1 rfl (fun c hc f hf => ?_), hL.2.1, hL.2.2.1, hL.2.2.2.1, fun i hi => by show nameB (pubI κ ky (κ.2.2.1 0) 0 i) = true; rw [pubI_ne κ ky 0 (by decide)]; exact hL.2.2.2.2 i hi⟩
  have e : ∀ g, pubI κ ky (κ.2.2.1 0) g c = κ.1 g c := fun g => by
    by_cases q : g = 9
    · subst q; rw [pub_9 _ _ hc, hp c hc]; simp
    · rw [pubI_ne κ ky g q]
  match f, hf with
  | 0, _ => exact e 0
  | 1, _ => exact e 1
  | 2, _ => exact e 4
  | 3, _ => exact e 5
  | 4, _ => exact e 2
  | 5, _ => exact e 3
  | 6, _ => rfl
  | 7, _ => exact congrArg (fun z => if κ.2.1 0 c then z else (-1 : Int32)) (e 6)
  | 8, _ => exact e 7
  | 9, _ => exact e 8
  | 10, _ => exact e 9
  | 11, _ => rfl
  | 12, _ => rfl
  | 13, _ => rfl
theorem law_day (h : LAW N κ) (j : Nat) : LAW (upd N 2 (nI j)) (setN κ 2 j) := by
  obtain ⟨⟨a0, a1, a2, a3, a4, a5, a6, a7⟩, b, c, e⟩ := h
  exact ⟨⟨(pk_un (by decide)).trans a0, (pk_un (by decide)).trans a1, up_eq, (pk_un (by decide)).trans a3, fun c hc f hf => (pk_un (by omega)).trans (a4 c hc f hf), fun c hc hc4 f hf => (pk_un (by omega)).trans (a5 c hc hc4 f hf), fun hw => (pk_un (by decide)).trans (a6 hw), fun k hk => (pk_un (by omega)).trans (a7 k hk)⟩, b, c, e⟩
theorem law_begin (h : LAW N κ) (hn : κ.2.2.1 0 ≤ 40) (ci : Nat) (on : Int32) : LAW (upd (upd (upd N (600 + 0) (nI ci)) 3 (nI 1)) 4 on) (κ.1, κ.2.1, upn κ.2.2.1 3 1, upn κ.2.2.2.1 0 ci, on) := by
  obtain ⟨⟨a0, a1, a2, a3, a4, a5, a6, a7⟩, b, c, e⟩ := h
  have ex : ∀ j, j ≠ 600 → j ≠ 3 → j ≠ 4 → upd (upd (upd N (600 + 0) (nI ci)) 3 (nI 1)) 4 on j = N j := fun j q1 q2 q3 => (pk_un q3).trans ((pk_un q2).trans (pk_un q1))
  refine ⟨⟨(ex 0 (by decide) (by decide) (by decide)).trans a0, (ex 1 (by decide) (by decide) (by decide)).trans a1, (ex 2 (by decide) (by decide) (by decide)).trans a2, (pk_un (by decide)).trans up_eq, fun c hc f hf => ?_, fun c hc hc4 f hf => (ex _ (by omega) (by omega) (by omega)).trans (a5 c hc hc4 f hf), fun _ => up_eq, fun k hk => ?_⟩, b, c, e⟩
  · have hc2 : c < κ.2.2.1 0 := hc
    exact (ex _ (by omega) (by omega) (by omega)).trans (a4 c hc f hf)
  · have hk2 : k < upn κ.2.2.1 3 1 3 := hk
    rw [upn_eq] at hk2
    rw [show k = 0 by omega]
    exact (pk_un (by decide)).trans ((pk_un (by decide)).trans (up_eq.trans (show nI ci = nI (upn κ.2.2.2.1 0 ci 0) from by rw [upn_eq])))
theorem law_step (h : LAW N κ) (hn : κ.2.2.1 0 ≤ 40) (h7 : κ.2.2.1 3 ≤ 7) (hw0 : κ.2.2.1 3 ≠ 0) (ci : Nat) : LAW (upd (upd N (600 + κ.2.2.1 3) (nI ci)) 3 (nI (κ.2.2.1 3 + 1))) (κ.1, κ.2.1, upn κ.2.2.1 3 (κ.2.2.1 3 + 1), upn κ.2.2.2.1 (κ.2.2.1 3) ci, κ.2.2.2.2) := by
  obtain ⟨⟨a0, a1, a2, a3, a4, a5, a6, a7⟩, b, c, e⟩ := h
  have ex : ∀ j, j ≠ 600 + κ.2.2.1 3 → j ≠ 3 → upd (upd N (600 + κ.2.2.1 3) (nI ci)) 3 (nI (κ.2.2.1 3 + 1)) j = N j := fun j q1 q2 => (pk_un q2).trans (pk_un q1)
  refine ⟨⟨(ex 0 (by omega) (by decide)).trans a0, (ex 1 (by omega) (by decide)).trans a1, (ex 2 (by omega) (by decide)).trans a2, up_eq, fun c hc f hf => ?_, fun c hc hc4 f hf => (ex _ (by omega) (by omega)).trans (a5 c hc hc4 f hf), fun _ => (ex 4 (by omega) (by decide)).trans (a6 hw0), fun k hk => ?_⟩, b, c, e⟩
  · have hc2 : c < κ.2.2.1 0 := hc
    exact (ex _ (by omega) (by omega)).trans (a4 c hc f hf)
  · have hk2 : k < upn κ.2.2.1 3 (κ.2.2.1 3 + 1) 3 := hk
    rw [upn_eq] at hk2
    show upd (upd N (600 + κ.2.2.1 3) (nI ci)) 3 (nI (κ.2.2.1 3 + 1)) (600 + k) = nI (upn κ.2.2.2.1 (κ.2.2.1 3) ci k)
    by_cases q : k = κ.2.2.1 3
    · rw [q, upn_eq]; exact (pk_un (by omega)).trans up_eq
    · rw [upn_ne q]; exact (ex _ (by omega) (by omega)).trans (a7 k (by omega))
end DEEDS
