/-! the class's world: 17 fixed cells, the certificates, the holders, their rows -/
/-- subject's and issuer's holder of a certificate; a holder's name, how many it holds, which; the lists: how many, their days, their members; the log's entries -/
abbrev XT : Type := (Nat → Nat) × (Nat → Nat) × (Nat → Int32) × (Nat → Nat) × (Nat → Nat → Option Nat) × Nat × (Nat → Int32) × (Nat → Int64) × (Nat → Int64)
abbrev xsb (X : XT) : Nat → Nat := X.1
abbrev xis (X : XT) : Nat → Nat := X.2.1
abbrev xnm (X : XT) : Nat → Int32 := X.2.2.1
abbrev xhc (X : XT) : Nat → Nat := X.2.2.2.1
abbrev xhd (X : XT) : Nat → Nat → Option Nat := X.2.2.2.2.1
abbrev xlz (X : XT) : Nat := X.2.2.2.2.2.1
abbrev xld (X : XT) : Nat → Int32 := X.2.2.2.2.2.2.1
abbrev xlm (X : XT) : Nat → Int64 := X.2.2.2.2.2.2.2.1
abbrev xle (X : XT) : Nat → Int64 := X.2.2.2.2.2.2.2.2
/-- a chain: its row, its size, its day -/
abbrev CT : Type := (Nat → Option Nat) × Nat × Int32
/-- the proof: hashes, which stand first, how many -/
abbrev PT : Type := (Nat → Int64) × (Nat → Bool) × Nat
def rfa (ad : Nat → Nat → Nat) (f : Nat → Option Nat) : Nat → Option Nat := fun i => (f i).map (ad 1)
def made (n : Nat) (i : Nat) : Option Nat := if i < n then some i else none
def aR (f : Nat → Option Nat) : (Nat → Int32) ⊕ (Nat → Int64) ⊕ (Nat → UInt32) ⊕ (Nat → UInt64) ⊕ (Nat → Option Nat) := .inr (.inr (.inr (.inr f)))
def lenI (κ : CS) (i : Nat) : Int32 := if κ.2.1 0 i then κ.1 6 i else -1
def crt (ad : Nat → Nat → Nat) (κ : CS) (X : XT) (i : Nat) : List Value := [.int (nI i), .ref (ad 2 (xsb X i)), .ref (ad 2 (xis X i)), .int (κ.1 2 i), .int (κ.1 3 i), .int (lenI κ i), .int (κ.1 7 i), .int (κ.1 8 i), .int (zb (κ.2.1 2 i)), .int (zb (κ.2.1 3 i)), .int (κ.1 9 i)]
def hld (ad : Nat → Nat → Nat) (X : XT) (h : Nat) : List Value := [.int (xnm X h), .int (nI (h + 1)), .ref (ad 3 h), .int (nI (xhc X h))]
def chn (ad : Nat → Nat → Nat) (q : Nat) (c : CT) : List Value := [.ref (ad 0 (12 + 2 * q)), .int (nI c.2.1), .int c.2.2]
def iFx (ad : Nat → Nat → Nat) (g : Nat → ClassId) (cn ky ln : Nat) (md : Nat → Option Nat) (dy : Nat) (X : XT) (cs : Nat → CT) (lf : Nat → Int64) (pr : PT) : va_W :=
  [(ad 0 0, .inr (8, [.ref (ad 0 1), .ref (ad 0 2), .ref (ad 0 5), .ref (ad 0 11), .ref (ad 0 13), .ref (ad 0 15), .int (nI cn), .int (nI ky), .int (nI dy)])),
   (ad 0 1, .inl (g 3, 40, aR (rfa ad md))), (ad 0 2, .inr (5, [.ref (ad 0 3), .ref (ad 0 4), .int (nI (xlz X))])), (ad 0 3, .inl (g 0, 40, .inl (xld X))), (ad 0 4, .inl (g 1, 40, .inr (.inl (xlm X)))),
   (ad 0 5, .inr (6, [.ref (ad 0 6), .ref (ad 0 7), .ref (ad 0 8), .int (nI ln)])), (ad 0 6, .inl (g 1, 40, .inr (.inl (xle X)))), (ad 0 7, .inl (g 1, 8, .inr (.inl lf))), (ad 0 8, .inr (7, [.ref (ad 0 9), .ref (ad 0 10), .int (nI pr.2.2)])), (ad 0 9, .inl (g 1, 8, .inr (.inl pr.1))), (ad 0 10, .inl (g 2, 8, .inl (fun i => zb (pr.2.1 i)))),
   (ad 0 11, .inr (3, chn ad 0 (cs 0))), (ad 0 12, .inl (g 3, 7, aR (rfa ad (cs 0).1))), (ad 0 13, .inr (3, chn ad 1 (cs 1))), (ad 0 14, .inl (g 3, 7, aR (rfa ad (cs 1).1))), (ad 0 15, .inr (3, chn ad 2 (cs 2))), (ad 0 16, .inl (g 3, 7, aR (rfa ad (cs 2).1)))]
def iCs (ad : Nat → Nat → Nat) (n : Nat) (κ : CS) (X : XT) : va_W := (List.range n).map fun i => (ad 1 i, .inr (2, crt ad κ X i))
def iHs (ad : Nat → Nat → Nat) (m : Nat) (X : XT) : va_W := (List.range m).map fun h => (ad 2 h, .inr (4, hld ad X h))
def iVs (ad : Nat → Nat → Nat) (g : Nat → ClassId) (m : Nat) (X : XT) : va_W := (List.range m).map fun h => (ad 3 h, .inl (g 3, 3, aR (rfa ad (xhd X h))))
def iG (ad : Nat → Nat → Nat) (g : Nat → ClassId) (cn ky n m ln : Nat) (md : Nat → Option Nat) (κ : CS) (X : XT) (cs : Nat → CT) (lf : Nat → Int64) (pr : PT) : va_W := iFx ad g cn ky ln md (κ.2.2.1 2) X cs lf pr ++ (iCs ad n κ X ++ (iHs ad m X ++ iVs ad g m X))
abbrev iW (ad : Nat → Nat → Nat) (g : Nat → ClassId) (κ : CS) (X : XT) (cs : Nat → CT) (lf : Nat → Int64) (pr : PT) : va_W := iG ad g (κ.2.2.1 0) (κ.2.2.1 1) (κ.2.2.1 0) (κ.2.2.1 1) (κ.2.2.1 0) (made (κ.2.2.1 0)) κ X cs lf pr
section IG
variable {ad : Nat → Nat → Nat} {g : Nat → ClassId} {cn ky n m ln : Nat} {md : Nat → Option Nat} {κ κ' : CS} {X X' : XT} {cs : Nat → CT} {lf : Nat → Int64} {pr : PT}
theorem iG_c {i : Nat} (h : i < n) : (iG ad g cn ky n m ln md κ X cs lf pr)[17 + i]? = some (ad 1 i, .inr (2, crt ad κ X i)) := by
  unfold iG
  rw [List.getElem?_append_right (by show 17 ≤ 17 + i; omega), show (17 + i - (iFx ad g cn ky ln md (κ.2.2.1 2) X cs lf pr).length) = i from by show 17 + i - 17 = i; omega]
  rw [List.getElem?_append_left (by simp [iCs]; exact h)]
  simp [iCs, h]
theorem iG_h {i : Nat} (h : i < m) : (iG ad g cn ky n m ln md κ X cs lf pr)[17 + n + i]? = some (ad 2 i, .inr (4, hld ad X i)) := by
  unfold iG
  rw [List.getElem?_append_right (by show 17 ≤ 17 + n + i; omega), show (17 + n + i - (iFx ad g cn ky ln md (κ.2.2.1 2) X cs lf pr).length) = n + i from by show 17 + n + i - 17 = n + i; omega]
  rw [List.getElem?_append_right (by simp [iCs]), show n + i - (iCs ad n κ X).length = i from by simp [iCs]]
  rw [List.getElem?_append_left (by simp [iHs]; exact h)]
  simp [iHs, h]
theorem iG_v {i : Nat} (h : i < m) : (iG ad g cn ky n m ln md κ X cs lf pr)[17 + n + m + i]? = some (ad 3 i, .inl (g 3, 3, aR (rfa ad (xhd X i)))) := by
  unfold iG
  rw [List.getElem?_append_right (by show 17 ≤ 17 + n + m + i; omega), show (17 + n + m + i - (iFx ad g cn ky ln md (κ.2.2.1 2) X cs lf pr).length) = n + m + i from by show 17 + n + m + i - 17 = n + m + i; omega]
  rw [List.getElem?_append_right (by simp [iCs]; omega), show n + m + i - (iCs ad n κ X).length = m + i from by simp [iCs]; omega]
  rw [List.getElem?_append_right (by simp [iHs]), show m + i - (iHs ad m X).length = i from by simp [iHs]]
  simp [iVs, h]
theorem iG_ch {q : Nat} (h : q < 3) : (iG ad g cn ky n m ln md κ X cs lf pr)[11 + 2 * q]? = some (ad 0 (11 + 2 * q), .inr (3, chn ad q (cs q))) := by
  match q, h with
  | 0, _ => rfl
  | 1, _ => rfl
  | 2, _ => rfl
theorem iG_ro {q : Nat} (h : q < 3) : (iG ad g cn ky n m ln md κ X cs lf pr)[12 + 2 * q]? = some (ad 0 (12 + 2 * q), .inl (g 3, 7, aR (rfa ad (cs q).1))) := by
  match q, h with
  | 0, _ => rfl
  | 1, _ => rfl
  | 2, _ => rfl
def upc (cs : Nat → CT) (q : Nat) (c : CT) : Nat → CT := fun j => if j = q then c else cs j
theorem upc_eq {q : Nat} {c : CT} : upc cs q c q = c := if_pos rfl
theorem upc_ne {q j : Nat} {c : CT} (h : j ≠ q) : upc cs q c j = cs j := if_neg h
theorem upc_upc {q : Nat} {c d : CT} : upc (upc cs q c) q d = upc cs q d := by
  funext j; unfold upc; split <;> rfl
theorem upc_self {q : Nat} : upc cs q (cs q) = cs := by
  funext j; unfold upc; split
  · next h => rw [h]
  · rfl
theorem iG_setch {q s : Nat} {d : Int32} (h : q < 3) : (iG ad g cn ky n m ln md κ X cs lf pr).set (11 + 2 * q) (ad 0 (11 + 2 * q), .inr (3, chn ad q ((cs q).1, s, d))) = iG ad g cn ky n m ln md κ X (upc cs q ((cs q).1, s, d)) lf pr := by
  match q, h with
  | 0, _ => rfl
  | 1, _ => rfl
  | 2, _ => rfl
theorem iG_setro {q : Nat} {r : Nat → Option Nat} (h : q < 3) : (iG ad g cn ky n m ln md κ X cs lf pr).set (12 + 2 * q) (ad 0 (12 + 2 * q), .inl (g 3, 7, aR (rfa ad r))) = iG ad g cn ky n m ln md κ X (upc cs q (r, (cs q).2)) lf pr := by
  match q, h with
  | 0, _ => rfl
  | 1, _ => rfl
  | 2, _ => rfl
theorem map_rng {α : Type} {f f' : Nat → α} {n i : Nat} {v : α} (hi : i < n) (hv : f' i = v) (hf : ∀ j, j < n → j ≠ i → f' j = f j) : ((List.range n).map f).set i v = (List.range n).map f' := by
  apply List.ext_getElem
  · simp
  · intro j h1 h2
    simp at h1 h2
    rw [List.getElem_set]
    split
    · next e => subst e; simp [hv]
    · next e => simp [hf j h2 (fun q => e q.symm)]
/-- a certificate's field is put: the ints and booleans that its cell shows -/
theorem iG_setc {i : Nat} {fs : List Value} (h : i < n) (hd : κ'.2.2.1 2 = κ.2.2.1 2) (hi : crt ad κ' X i = fs) (ho : ∀ j, j < n → j ≠ i → crt ad κ' X j = crt ad κ X j) : (iG ad g cn ky n m ln md κ X cs lf pr).set (17 + i) (ad 1 i, .inr (2, fs)) = iG ad g cn ky n m ln md κ' X cs lf pr := by
  unfold iG
  rw [hd, List.set_append_right _ _ (by show 17 ≤ 17 + i; omega), show (17 + i - (iFx ad g cn ky ln md (κ.2.2.1 2) X cs lf pr).length) = i from by show 17 + i - 17 = i; omega]
  rw [List.set_append_left _ _ (by simp [iCs]; exact h)]
  refine congrArg (iFx ad g cn ky ln md (κ.2.2.1 2) X cs lf pr ++ ·) (congrArg (· ++ _) ?_)
  exact map_rng h (by rw [hi]) (fun j hj hne => by rw [ho j hj hne])
end IG
theorem made_some {n i j : Nat} (h : made n i = some j) : i < n ∧ j = i := by
  unfold made at h; split at h
  · next q => cases h; exact ⟨q, rfl⟩
  · cases h
theorem made_none {n i : Nat} (h : made n i = none) : n ≤ i := by
  unfold made at h; split at h
  · cases h
  · omega
theorem rfa_none {ad : Nat → Nat → Nat} {f : Nat → Option Nat} {i : Nat} (h : rfa ad f i = none) : f i = none := by
  unfold rfa at h; cases q : f i with
  | none => rfl
  | some j => rw [q] at h; cases h
theorem rfa_some {ad : Nat → Nat → Nat} {f : Nat → Option Nat} {i x : Nat} (h : rfa ad f i = some x) : ∃ j, f i = some j ∧ x = ad 1 j := by
  unfold rfa at h; cases q : f i with
  | none => rw [q] at h; cases h
  | some j => rw [q] at h; cases h; exact ⟨j, rfl, rfl⟩
/-- two certificates, or two holders, of the world are one where their addresses are -/
theorem iG_ad1 {ad : Nat → Nat → Nat} {g : Nat → ClassId} {cn ky n m ln : Nat} {md : Nat → Option Nat} {κ : CS} {X : XT} {cs : Nat → CT} {lf : Nat → Int64} {pr : PT} {A : Nat → Prop} {i j : Nat} (h : va_D A (iG ad g cn ky n m ln md κ X cs lf pr)) (hi : i < n) (hj : j < n) (he : ad 1 i = ad 1 j) : i = j := by
  have := h.1 _ _ _ _ (iG_c hi) (iG_c hj) he
  omega
theorem iG_ad2 {ad : Nat → Nat → Nat} {g : Nat → ClassId} {cn ky n m ln : Nat} {md : Nat → Option Nat} {κ : CS} {X : XT} {cs : Nat → CT} {lf : Nat → Int64} {pr : PT} {A : Nat → Prop} {i j : Nat} (h : va_D A (iG ad g cn ky n m ln md κ X cs lf pr)) (hi : i < m) (hj : j < m) (he : ad 2 i = ad 2 j) : i = j := by
  have := h.1 _ _ _ _ (iG_h hi) (iG_h hj) he
  omega
