/-! the book after each deed -/
theorem NT_col {N : Nat → Int32} {κ κ1 : CS} (h : NT N κ) {ci fi : Nat} (hc : ci < κ.2.2.1 0) (hn : κ.2.2.1 0 ≤ 40) (hf : fi < 14) {v : Int32} (hv : v = colv κ1 ci fi) (hk : κ1.2.2 = κ.2.2) (h1 : ∀ c f, f < 14 → (c ≠ ci ∨ f ≠ fi) → colv κ1 c f = colv κ c f) : NT (upd N (10 + 14 * ci + fi) v) κ1 := by
  obtain ⟨a0, a1, a2, a3, a4, a5, a6, a7⟩ := h
  have e : ∀ j, j ≠ 10 + 14 * ci + fi → upd N (10 + 14 * ci + fi) v j = N j := fun j hj => pk_un hj
  refine ⟨by rw [e _ (by omega), hk]; exact a0, by rw [e _ (by omega), hk]; exact a1, by rw [e _ (by omega), hk]; exact a2, by rw [e _ (by omega), hk]; exact a3, ?_, ?_, ?_, ?_⟩
  · rw [hk]; intro c hc2 f hf2
    by_cases q : 10 + 14 * c + f = 10 + 14 * ci + fi
    · have q1 : c = ci := by omega
      have q2 : f = fi := by omega
      subst q1; subst q2
      rw [show upd N (10 + 14 * c + f) v (10 + 14 * c + f) = v from up_eq]; exact hv
    · rw [e _ q, h1 c f hf2 (by omega)]; exact a4 c hc2 f hf2
  · rw [hk]; intro c hc2 hc3 f hf2
    rw [e _ (by omega)]; exact a5 c hc2 hc3 f hf2
  · rw [hk]; intro hw; rw [e _ (by omega)]; exact a6 hw
  · rw [hk]; intro k hk2
    by_cases q : 600 + k = 10 + 14 * ci + fi
    · omega
    · rw [e _ q]; exact a7 k hk2
theorem NT_ext {N : Nat → Int32} {κ κ1 : CS} (h : NT N κ) (hk : κ1.2.2 = κ.2.2) (h1 : ∀ c, c < κ.2.2.1 0 → ∀ f, f < 14 → colv κ1 c f = colv κ c f) : NT N κ1 := by
  obtain ⟨a0, a1, a2, a3, a4, a5, a6, a7⟩ := h
  refine ⟨by rw [hk]; exact a0, by rw [hk]; exact a1, by rw [hk]; exact a2, by rw [hk]; exact a3, ?_, by rw [hk]; exact a5, by rw [hk]; exact a6, by rw [hk]; exact a7⟩
  rw [hk]; intro c hc f hf; rw [h1 c hc f hf]; exact a4 c hc f hf
theorem NT_same {N : Nat → Int32} {κ : CS} (h : NT N κ) (j : Nat) : NT (upd N j (N j)) κ := by
  have e : upd N j (N j) = N := by funext k; unfold upd; split <;> simp [*]
  rw [e]; exact h
theorem NT_mk {N N1 : Nat → Int32} {κ κ1 : CS} (h : NT N κ) (hn4 : κ.2.2.1 0 < 40) {k1 : Nat} (e0 : κ1.2.2.1 0 = κ.2.2.1 0 + 1) (e1 : κ1.2.2.1 1 = k1) (e2 : κ1.2.2.1 2 = κ.2.2.1 2) (e3 : κ1.2.2.1 3 = κ.2.2.1 3) (ew : κ1.2.2.2 = κ.2.2.2)
    (hc : ∀ c, c < κ.2.2.1 0 → ∀ f, f < 14 → colv κ1 c f = colv κ c f) (n0 : N1 0 = nI (κ.2.2.1 0 + 1)) (n1 : N1 1 = nI k1) (hnew : ∀ f, f < 14 → N1 (10 + 14 * κ.2.2.1 0 + f) = colv κ1 (κ.2.2.1 0) f) (hold : ∀ j, j ≠ 0 → j ≠ 1 → (j < 10 + 14 * κ.2.2.1 0 ∨ 24 + 14 * κ.2.2.1 0 ≤ j) → N1 j = N j) : NT N1 κ1 := by
  obtain ⟨a0, a1, a2, a3, a4, a5, a6, a7⟩ := h
  refine ⟨by rw [e0]; exact n0, by rw [e1]; exact n1, by rw [e2, hold 2 (by decide) (by decide) (by omega)]; exact a2, by rw [e3, hold 3 (by decide) (by decide) (by omega)]; exact a3, ?_, ?_, ?_, ?_⟩
  · rw [e0]; intro c hc2 f hf
    by_cases q : c = κ.2.2.1 0
    · rw [q]; exact hnew f hf
    · rw [hold _ (by omega) (by omega) (by omega), hc c (by omega) f hf]; exact a4 c (by omega) f hf
  · rw [e0]; intro c hc2 hc3 f hf
    rw [hold _ (by omega) (by omega) (by omega)]; exact a5 c (by omega) hc3 f hf
  · rw [e3, ew, hold 4 (by decide) (by decide) (by omega)]; exact a6
  · rw [e3, ew]; intro k hk; rw [hold _ (by omega) (by omega) (by omega)]; exact a7 k hk
theorem mk_col {κ : CS} {nm ky bn bk dy : Int32} {c : Nat} (h : c ≠ κ.2.2.1 0) : ∀ f, f < 14 → colv (mkK κ nm ky bn bk dy) c f = colv κ c f := by
  intro f hf
  match f, hf with
  | 0, _ => simp [colv, mkK, upI, upd, h]
  | 1, _ => simp [colv, mkK, upI, upd, h]
  | 2, _ => simp [colv, mkK, upI, upd, h]
  | 3, _ => simp [colv, mkK, upI, upd, h]
  | 4, _ => simp [colv, mkK, upI, upd, h]
  | 5, _ => simp [colv, mkK, upI, upd, h]
  | 6, _ => rfl
  | 7, _ => simp [colv, lenI, mkK, upI]
  | 8, _ => simp [colv, mkK, upI]
  | 9, _ => simp [colv, mkK, upI]
  | 10, _ => simp [colv, mkK, upI, upd, h]
  | 11, _ => rfl
  | 12, _ => rfl
  | 13, _ => rfl
theorem au_col {κ : CS} {i : Nat} {ln : Int32} {c : Nat} (h : c ≠ i) : ∀ f, f < 14 → colv (auK κ i ln) c f = colv κ c f := by
  intro f hf
  match f, hf with
  | 0, _ => simp [colv, auK, upI]
  | 1, _ => simp [colv, auK, upI]
  | 2, _ => simp [colv, auK, upI]
  | 3, _ => simp [colv, auK, upI]
  | 4, _ => simp [colv, auK, upI]
  | 5, _ => simp [colv, auK, upI]
  | 6, _ => simp [colv, auK, upB, upb, h]
  | 7, _ => simp [colv, lenI, auK, upI, upd, upB, upb, h]
  | 8, _ => simp [colv, auK, upI]
  | 9, _ => simp [colv, auK, upI]
  | 10, _ => simp [colv, auK, upI]
  | 11, _ => simp [colv, auK, upB]
  | 12, _ => simp [colv, auK, upB]
  | 13, _ => simp [colv, auK, upB]
theorem sb_col {κ : CS} {b i : Nat} {v : Bool} {c : Nat} (h : c ≠ i) : ∀ f, f < 14 → colv (setB κ b i v) c f = colv κ c f := by
  intro f hf
  have e : ∀ g, upB κ.2.1 b i v g c = κ.2.1 g c := fun g => upB_ne (Or.inr h)
  match f, hf with
  | 0, _ => rfl
  | 1, _ => rfl
  | 2, _ => rfl
  | 3, _ => rfl
  | 4, _ => rfl
  | 5, _ => rfl
  | 6, _ => exact congrArg zb (e 0)
  | 7, _ => show (if upB κ.2.1 b i v 0 c then κ.1 6 c else -1) = _; rw [e 0]; rfl
  | 8, _ => rfl
  | 9, _ => rfl
  | 10, _ => rfl
  | 11, _ => exact congrArg zb (e 3)
  | 12, _ => exact congrArg zb (e 2)
  | 13, _ => exact congrArg zb (e 1)
theorem mkN_old {N : Nat → Int32} {n : Nat} {nm ky bn bk ds ln : Int32} {j : Nat} (h0 : j ≠ 0) (h : j < 10 + 14 * n ∨ 21 + 14 * n ≤ j) : mkN N n nm ky bn bk ds ln j = N j := by
  unfold mkN
  rw [pk_un h0, pk_un (by omega), pk_un (by omega), pk_un (by omega), pk_un (by omega), pk_un (by omega), pk_un (by omega), pk_un (by omega), pk_un (by omega), pk_un (by omega)]
/-- the new row's places -/
theorem mkN_new {N : Nat → Int32} {n : Nat} {nm ky bn bk ds ln : Int32} (hz : ∀ f, f < 14 → N (10 + 14 * n + f) = nI 0) :
    mkN N n nm ky bn bk ds ln (10 + 14 * n) = nm ∧ mkN N n nm ky bn bk ds ln (10 + 14 * n + 1) = ky ∧ mkN N n nm ky bn bk ds ln (10 + 14 * n + 2) = bn ∧ mkN N n nm ky bn bk ds ln (10 + 14 * n + 3) = bk ∧ mkN N n nm ky bn bk ds ln (10 + 14 * n + 4) = N 2 ∧ mkN N n nm ky bn bk ds ln (10 + 14 * n + 5) = N 2 + ds - nI 1 ∧ mkN N n nm ky bn bk ds ln (10 + 14 * n + 6) = (if ln < 0 then nI 0 else nI 1) ∧ mkN N n nm ky bn bk ds ln (10 + 14 * n + 7) = ln ∧ mkN N n nm ky bn bk ds ln (10 + 14 * n + 8) = nI 0 ∧ mkN N n nm ky bn bk ds ln (10 + 14 * n + 9) = nI 0 ∧ mkN N n nm ky bn bk ds ln (10 + 14 * n + 10) = -1 ∧ mkN N n nm ky bn bk ds ln (10 + 14 * n + 11) = nI 0 ∧ mkN N n nm ky bn bk ds ln (10 + 14 * n + 12) = nI 0 ∧ mkN N n nm ky bn bk ds ln (10 + 14 * n + 13) = nI 0 := by
  have z8 := hz 8 (by decide); have z9 := hz 9 (by decide); have z11 := hz 11 (by decide); have z12 := hz 12 (by decide); have z13 := hz 13 (by decide)
  unfold mkN
  refine ⟨?_, ?_, ?_, ?_, ?_, ?_, ?_, ?_, ?_, ?_, ?_, ?_, ?_, ?_⟩ <;> simp [upd, z8, z9, z11, z12, z13]
theorem fin14 {P : Nat → Prop} (h : P 0 ∧ P 1 ∧ P 2 ∧ P 3 ∧ P 4 ∧ P 5 ∧ P 6 ∧ P 7 ∧ P 8 ∧ P 9 ∧ P 10 ∧ P 11 ∧ P 12 ∧ P 13) : ∀ f, f < 14 → P f := by
  obtain ⟨a0, a1, a2, a3, a4, a5, a6, a7, a8, a9, a10, a11, a12, a13⟩ := h
  intro f hf
  match f, hf with
  | 0, _ => exact a0
  | 1, _ => exact a1
  | 2, _ => exact a2
  | 3, _ => exact a3
  | 4, _ => exact a4
  | 5, _ => exact a5
  | 6, _ => exact a6
  | 7, _ => exact a7
  | 8, _ => exact a8
  | 9, _ => exact a9
  | 10, _ => exact a10
  | 11, _ => exact a11
  | 12, _ => exact a12
  | 13, _ => exact a13
