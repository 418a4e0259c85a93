/-! the class's world grows: a holder with its row, a certificate -/
def adH (ad : Nat → Nat → Nat) (m q r : Nat) : Nat → Nat → Nat := fun k i => match k with
  | 2 => if i = m then q else ad 2 i
  | 3 => if i = m then r else ad 3 i
  | k => ad k i
def adC (ad : Nat → Nat → Nat) (n q : Nat) : Nat → Nat → Nat := fun k i => match k with
  | 1 => if i = n then q else ad 1 i
  | k => ad k i
theorem adH2 {ad : Nat → Nat → Nat} {m q r i : Nat} (h : i < m) : adH ad m q r 2 i = ad 2 i := by show (if i = m then q else ad 2 i) = _; rw [if_neg (by omega)]
theorem adH3 {ad : Nat → Nat → Nat} {m q r i : Nat} (h : i < m) : adH ad m q r 3 i = ad 3 i := by show (if i = m then r else ad 3 i) = _; rw [if_neg (by omega)]
theorem adH2m {ad : Nat → Nat → Nat} {m q r : Nat} : adH ad m q r 2 m = q := by show (if m = m then q else ad 2 m) = _; rw [if_pos rfl]
theorem adH3m {ad : Nat → Nat → Nat} {m q r : Nat} : adH ad m q r 3 m = r := by show (if m = m then r else ad 3 m) = _; rw [if_pos rfl]
theorem adC1 {ad : Nat → Nat → Nat} {n q i : Nat} (h : i < n) : adC ad n q 1 i = ad 1 i := by show (if i = n then q else ad 1 i) = _; rw [if_neg (by omega)]
theorem adC1n {ad : Nat → Nat → Nat} {n q : Nat} : adC ad n q 1 n = q := by show (if n = n then q else ad 1 n) = _; rw [if_pos rfl]
def hlX (X : XT) (m : Nat) (nm : Int32) : XT := (X.1, X.2.1, upd X.2.2.1 m nm, upn X.2.2.2.1 m 0, (fun h => if h = m then (fun _ => none) else X.2.2.2.2.1 h), X.2.2.2.2.2)
def ceX (X : XT) (n h1 h2 : Nat) : XT := (upn X.1 n h1, upn X.2.1 n h2, X.2.2)
def rcX (X : XT) (h n : Nat) : XT := (X.1, X.2.1, X.2.2.1, upn X.2.2.2.1 h (X.2.2.2.1 h + 1), (fun j => if j = h then va_up (X.2.2.2.2.1 h) (X.2.2.2.1 h) (some n) else X.2.2.2.2.1 j), X.2.2.2.2.2)
def apX (X : XT) (n : Nat) (v : Int64) : XT := (X.1, X.2.1, X.2.2.1, X.2.2.2.1, X.2.2.2.2.1, X.2.2.2.2.2.1, X.2.2.2.2.2.2.1, X.2.2.2.2.2.2.2.1, vp_updL X.2.2.2.2.2.2.2.2 n v)
theorem perm_mid {α : Type} (V : List α) (x y : α) : (V ++ [x, y]).Perm ([x] ++ (V ++ [y])) := by
  rw [show V ++ [x, y] = V ++ x :: [y] from rfl]
  exact List.perm_middle
theorem iG_growH {ad : Nat → Nat → Nat} {g : Nat → ClassId} {cn ky n m ln : Nat} {md : Nat → Option Nat} {κ : CS} {X : XT} {cs : Nat → CT} {lf : Nat → Int64} {pr : PT} {q r : Nat} {nm : Int32} (hsb : ∀ i, i < n → X.1 i < m ∧ X.2.1 i < m) :
    (iG ad g cn ky n m ln md κ X cs lf pr ++ ([(q, .inr (4, [.int nm, .int (nI (m + 1)), .ref r, .int (nI 0)])), (r, .inl (g 3, 3, aR (fun _ => none)))] : va_W)).Perm (iG (adH ad m q r) g cn ky n (m + 1) ln md κ (hlX X m nm) cs lf pr) := by
  have e1 : iCs (adH ad m q r) n κ (hlX X m nm) = iCs ad n κ X := by
    refine List.map_congr_left fun i hi => ?_
    have hi := List.mem_range.mp hi
    show (ad 1 i, Sum.inr (2, [Value.int (nI i), .ref (adH ad m q r 2 (X.1 i)), .ref (adH ad m q r 2 (X.2.1 i)), _, _, _, _, _, _, _, _])) = _
    rw [adH2 (hsb i hi).1, adH2 (hsb i hi).2]; rfl
  have e2 : iHs (adH ad m q r) (m + 1) (hlX X m nm) = iHs ad m X ++ [(q, .inr (4, [.int nm, .int (nI (m + 1)), .ref r, .int (nI 0)]))] := by
    unfold iHs
    rw [List.range_succ, List.map_append]
    congr 1
    · refine List.map_congr_left fun i hi => ?_
      have hi := List.mem_range.mp hi
      show (adH ad m q r 2 i, Sum.inr (4, [Value.int (upd X.2.2.1 m nm i), .int (nI (i + 1)), .ref (adH ad m q r 3 i), .int (nI (upn X.2.2.2.1 m 0 i))])) = _
      rw [adH2 hi, adH3 hi, show upd X.2.2.1 m nm i = X.2.2.1 i from if_neg (by omega), show upn X.2.2.2.1 m 0 i = X.2.2.2.1 i from if_neg (by omega)]; rfl
    · show [(adH ad m q r 2 m, Sum.inr (4, [Value.int (upd X.2.2.1 m nm m), .int (nI (m + 1)), .ref (adH ad m q r 3 m), .int (nI (upn X.2.2.2.1 m 0 m))]))] = _
      rw [adH2m, adH3m, show upd X.2.2.1 m nm m = nm from if_pos rfl, show upn X.2.2.2.1 m 0 m = 0 from if_pos rfl]
  have e3 : iVs (adH ad m q r) g (m + 1) (hlX X m nm) = iVs ad g m X ++ [(r, .inl (g 3, 3, aR (fun _ => none)))] := by
    unfold iVs
    rw [List.range_succ, List.map_append]
    congr 1
    · refine List.map_congr_left fun i hi => ?_
      have hi := List.mem_range.mp hi
      show (adH ad m q r 3 i, Sum.inl (g 3, 3, aR (rfa ad (if i = m then (fun _ => none) else X.2.2.2.2.1 i)))) = _
      rw [adH3 hi, if_neg (by omega)]
    · show [(adH ad m q r 3 m, Sum.inl (g 3, 3, aR (rfa ad (if m = m then (fun _ => none) else X.2.2.2.2.1 m))))] = _
      rw [adH3m, if_pos rfl]; rfl
  show ((iFx ad g cn ky ln md (κ.2.2.1 2) X cs lf pr ++ (iCs ad n κ X ++ (iHs ad m X ++ iVs ad g m X))) ++ _).Perm (iFx ad g cn ky ln md (κ.2.2.1 2) X cs lf pr ++ (iCs (adH ad m q r) n κ (hlX X m nm) ++ (iHs (adH ad m q r) (m + 1) (hlX X m nm) ++ iVs (adH ad m q r) g (m + 1) (hlX X m nm))))
  rw [e1, e2, e3]
  simp only [List.append_assoc]
  exact List.Perm.append_left _ (List.Perm.append_left _ (List.Perm.append_left _ (perm_mid _ _ _)))
/-- a chain's row, with nothing beyond its seven places -/
def nrC (c : CT) : CT := (fun r => if r < 7 then c.1 r else none, c.2)
theorem cell_q {cA : ClassId} {n : Nat} {f f' : Nat → Option Nat} (h : ∀ r, r < n → f r = f' r) : vp_cell cA (n, aR f) = vp_cell cA (n, aR f') := by
  show arrV cA n (fun j => va_rf (f j)) = arrV cA n (fun j => va_rf (f' j))
  unfold arrV
  congr 1
  have e : (fun j : Fin n => va_rf (f j.val)) = fun j : Fin n => va_rf (f' j.val) := funext fun j => by rw [h j.val j.isLt]
  rw [e]
theorem at_q {D : va_G} {cl : List vw_C} {a : Nat} {cA : ClassId} {n : Nat} {f f' : Nat → Option Nat} {H : Heap} (h : ∀ r, r < n → f r = f' r) (hq : va_at D cl (a, .inl (cA, n, aR f)) H) : va_at D cl (a, .inl (cA, n, aR f')) H := by
  have h1 : H[a]? = some (vp_cell cA (n, aR f)) := hq
  show H[a]? = some (vp_cell cA (n, aR f'))
  rw [h1, cell_q h]
theorem nr_at {ad : Nat → Nat → Nat} {c : CT} : ∀ r, r < 7 → rfa ad c.1 r = rfa ad (nrC c).1 r := fun r hr => by
  show (c.1 r).map (ad 1) = (if r < 7 then c.1 r else none).map (ad 1)
  rw [if_pos hr]
theorem iFx_nr {D : va_G} {cl : List vw_C} {ad : Nat → Nat → Nat} {g : Nat → ClassId} {cn ky ln : Nat} {md : Nat → Option Nat} {dy : Nat} {X : XT} {cs : Nat → CT} {lf : Nat → Int64} {pr : PT} {H : Heap} (h : va_P D cl (iFx ad g cn ky ln md dy X cs lf pr) H) : va_P D cl (iFx ad g cn ky ln md dy X (fun q => nrC (cs q)) lf pr) H := by
  intro k x hk
  match k, hk with
  | 0, hk => exact h 0 x hk
  | 1, hk => exact h 1 x hk
  | 2, hk => exact h 2 x hk
  | 3, hk => exact h 3 x hk
  | 4, hk => exact h 4 x hk
  | 5, hk => exact h 5 x hk
  | 6, hk => exact h 6 x hk
  | 7, hk => exact h 7 x hk
  | 8, hk => exact h 8 x hk
  | 9, hk => exact h 9 x hk
  | 10, hk => exact h 10 x hk
  | 11, hk => exact h 11 x hk
  | 12, hk => cases hk; exact at_q nr_at (h 12 _ rfl)
  | 13, hk => exact h 13 x hk
  | 14, hk => cases hk; exact at_q nr_at (h 14 _ rfl)
  | 15, hk => exact h 15 x hk
  | 16, hk => cases hk; exact at_q nr_at (h 16 _ rfl)
  | k + 17, hk => cases hk
theorem iG_nr {D : va_G} {ad : Nat → Nat → Nat} {g : Nat → ClassId} {cn ky n m ln : Nat} {md : Nat → Option Nat} {κ : CS} {X : XT} {cs : Nat → CT} {lf : Nat → Int64} {pr : PT} {H : Heap} (h : va_P D vwCl (iG ad g cn ky n m ln md κ X cs lf pr) H) : va_P D vwCl (iG ad g cn ky n m ln md κ X (fun q => nrC (cs q)) lf pr) H := by
  obtain ⟨h1, h2⟩ := P_app.mp h
  exact P_app.mpr ⟨iFx_nr h1, h2⟩
theorem iG_nrD {A : Nat → Prop} {ad : Nat → Nat → Nat} {g : Nat → ClassId} {cn ky n m ln : Nat} {md : Nat → Option Nat} {κ : CS} {X : XT} {cs : Nat → CT} {lf : Nat → Int64} {pr : PT} (h : va_D A (iG ad g cn ky n m ln md κ X cs lf pr)) : va_D A (iG ad g cn ky n m ln md κ X (fun q => nrC (cs q)) lf pr) := by
  have hm : (iG ad g cn ky n m ln md κ X cs lf pr).map (fun x => x.1) = (iG ad g cn ky n m ln md κ X (fun q => nrC (cs q)) lf pr).map (fun x => x.1) := by unfold iG; simp only [List.map_append]; rfl
  obtain ⟨h1, h2⟩ := D_iff.mp h
  refine D_iff.mpr ⟨hm ▸ h1, fun x hx => ?_⟩
  have : x.1 ∈ (iG ad g cn ky n m ln md κ X cs lf pr).map (fun x => x.1) := by rw [hm]; exact List.mem_map.mpr ⟨x, hx, rfl⟩
  obtain ⟨x', hx', he⟩ := List.mem_map.mp this
  rw [← he]; exact h2 x' hx'
theorem rfa_C {ad : Nat → Nat → Nat} {n q : Nat} {f : Nat → Option Nat} (h : ∀ r k, f r = some k → k < n) : rfa (adC ad n q) f = rfa ad f := by
  funext r
  show (f r).map (adC ad n q 1) = (f r).map (ad 1)
  cases hf : f r with
  | none => rfl
  | some k => show some (adC ad n q 1 k) = some (ad 1 k); rw [adC1 (h r k hf)]
theorem iG_growC {ad : Nat → Nat → Nat} {g : Nat → ClassId} {cn ky n m ln : Nat} {κ κ' : CS} {X : XT} {cs : Nat → CT} {lf : Nat → Int64} {pr : PT} {q h1 h2 : Nat} (hd : κ'.2.2.1 2 = κ.2.2.1 2) (hk : ∀ i, i < n → crt ad κ' X i = crt ad κ X i) (hh : ∀ h, h < m → ∀ r k, X.2.2.2.2.1 h r = some k → k < n) (hc : ∀ j, j < 3 → ∀ r k, (cs j).1 r = some k → k < n) :
    (iG ad g cn ky n m ln (made n) κ X cs lf pr ++ ([(q, .inr (2, crt ad κ' (ceX X n h1 h2) n))] : va_W)).Perm (iG (adC ad n q) g cn ky (n + 1) m ln (made n) κ' (ceX X n h1 h2) cs lf pr) := by
  have e0 : iFx (adC ad n q) g cn ky ln (made n) (κ'.2.2.1 2) (ceX X n h1 h2) cs lf pr = iFx ad g cn ky ln (made n) (κ.2.2.1 2) X cs lf pr := by
    rw [hd]; unfold iFx
    rw [rfa_C (f := made n) (fun r k h => by obtain ⟨a, b⟩ := made_some h; omega), rfa_C (f := (cs 0).1) (hc 0 (by decide)), rfa_C (f := (cs 1).1) (hc 1 (by decide)), rfa_C (f := (cs 2).1) (hc 2 (by decide))]; rfl
  have e1 : iCs (adC ad n q) (n + 1) κ' (ceX X n h1 h2) = iCs ad n κ X ++ [(q, .inr (2, crt ad κ' (ceX X n h1 h2) n))] := by
    unfold iCs
    rw [List.range_succ, List.map_append]
    congr 1
    · refine List.map_congr_left fun i hi => ?_
      have hi := List.mem_range.mp hi
      rw [adC1 hi, ← hk i hi]
      show (ad 1 i, Sum.inr (2, [Value.int (nI i), .ref (ad 2 (upn X.1 n h1 i)), .ref (ad 2 (upn X.2.1 n h2 i)), _, _, _, _, _, _, _, _])) = _
      rw [show upn X.1 n h1 i = X.1 i from if_neg (by omega), show upn X.2.1 n h2 i = X.2.1 i from if_neg (by omega)]; rfl
    · show [(adC ad n q 1 n, _)] = _
      rw [adC1n]; rfl
  have e2 : iHs (adC ad n q) m (ceX X n h1 h2) = iHs ad m X := rfl
  have e3 : iVs (adC ad n q) g m (ceX X n h1 h2) = iVs ad g m X := by
    refine List.map_congr_left fun i hi => ?_
    have hi := List.mem_range.mp hi
    show (ad 3 i, Sum.inl (g 3, 3, aR (rfa (adC ad n q) (X.2.2.2.2.1 i)))) = _
    rw [rfa_C (hh i hi)]
  show ((iFx ad g cn ky ln (made n) (κ.2.2.1 2) X cs lf pr ++ (iCs ad n κ X ++ (iHs ad m X ++ iVs ad g m X))) ++ _).Perm (iFx (adC ad n q) g cn ky ln (made n) (κ'.2.2.1 2) (ceX X n h1 h2) cs lf pr ++ (iCs (adC ad n q) (n + 1) κ' (ceX X n h1 h2) ++ (iHs (adC ad n q) m (ceX X n h1 h2) ++ iVs (adC ad n q) g m (ceX X n h1 h2))))
  rw [e0, e1, e2, e3]
  simp only [List.append_assoc]
  refine List.Perm.append_left _ (List.Perm.append_left _ ?_)
  rw [← List.append_assoc]
  exact List.perm_append_comm
