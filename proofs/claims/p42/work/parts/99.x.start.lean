/-! the start: what the law's entry gives -/
def allT (s : State) (args : Array Value) : Prop := ∀ w ∈ lw_tbl, w.before args s = true
theorem all_w {w : Cond} (h : w ∈ wAll) : w ∈ lw_tbl := (List.mem_filter.mp h).1
theorem st_arr {args : Array Value} {s : State} {ty : FieldType} (hno : ∀ C, ty ≠ .object C) (h : (Cond.arrayClass ty).before args s = true) : ∃ cA, ArrOfT s cA ty ∧ va_RA s cA ty := by
  obtain ⟨cA, kA, comp, h1, h2, h3⟩ := Cond.arrayClass_spec h
  refine ⟨cA, fun n z => ⟨(fun k h => by cases h), kA, h2, comp, h3⟩, ?_⟩
  cases ty <;> first | exact h1 | exact absurd rfl (hno _)
theorem st_arrO {args : Array Value} {s : State} {C : String} (h : (Cond.arrayOver (.object C)).before args s = true) : ∃ cA, ArrOfT s cA (.object C) ∧ va_RA s cA (.object C) := by
  obtain ⟨comp, cA, kA, h1, _, h2, h3, h4⟩ := Cond.arrayOver_spec h
  exact ⟨cA, fun n z => ⟨(fun k h => by cases h), kA, h2, comp, h3⟩, kA, comp, h2, h3, h1, h4⟩
theorem iwJ0 : ∀ w ∈ u_ws RJ0 TJ0 2, w ∈ lw_tbl := (List.forall_mem_cons.mpr ⟨(tb1 (List.mem_of_getElem? (i := 202) rfl)), (List.forall_mem_cons.mpr ⟨(tb1 (List.mem_of_getElem? (i := 204) rfl)), (fun _ h => absurd h List.not_mem_nil)⟩)⟩)
theorem iwJx : ∀ w ∈ u_ws RJx00060 TJx00060 6, w ∈ lw_tbl := (List.forall_mem_cons.mpr ⟨(tb3 (List.mem_of_getElem? (i := 152) rfl)), (List.forall_mem_cons.mpr ⟨(tb3 (List.mem_of_getElem? (i := 153) rfl)), (List.forall_mem_cons.mpr ⟨(tb3 (List.mem_of_getElem? (i := 154) rfl)), (List.forall_mem_cons.mpr ⟨(tb3 (List.mem_of_getElem? (i := 155) rfl)), (List.forall_mem_cons.mpr ⟨(tb3 (List.mem_of_getElem? (i := 156) rfl)), (List.forall_mem_cons.mpr ⟨(tb3 (List.mem_of_getElem? (i := 157) rfl)), (fun _ h => absurd h List.not_mem_nil)⟩)⟩)⟩)⟩)⟩)⟩)
theorem st_cls {args : Array Value} {s : State} (hts : allT s args) : ∀ q ∈ vwCl, ∃ (cC : ClassId) (iS : Nat → Nat), u_Kn s q.1 q.2.1 q.2.2 cC iS := (List.forall_mem_cons.mpr ⟨(u_known hts iwJ0 (hts _ (tb1 (List.mem_of_getElem? (i := 200) rfl)))), (List.forall_mem_cons.mpr ⟨(u_known hts iwJx (hts _ (tb3 (List.mem_of_getElem? (i := 145) rfl)))), (List.forall_mem_cons.mpr ⟨(u_known hts (fun w h => all_w (iwX0 w h)) (hts _ (all_w nX0))), (List.forall_mem_cons.mpr ⟨(u_known hts (fun w h => all_w (iwX1 w h)) (hts _ (all_w nX1))), (List.forall_mem_cons.mpr ⟨(u_known hts (fun w h => all_w (iwX2 w h)) (hts _ (all_w nX2))), (List.forall_mem_cons.mpr ⟨(u_known hts (fun w h => all_w (iwX3 w h)) (hts _ (all_w nX3))), (List.forall_mem_cons.mpr ⟨(u_known hts (fun w h => all_w (iwX4 w h)) (hts _ (all_w nX4))), (List.forall_mem_cons.mpr ⟨(u_known hts (fun w h => all_w (iwX5 w h)) (hts _ (all_w nX5))), (List.forall_mem_cons.mpr ⟨(u_known hts (fun w h => all_w (iwX6 w h)) (hts _ (all_w nX6))), (fun _ h => absurd h List.not_mem_nil)⟩)⟩)⟩)⟩)⟩)⟩)⟩)⟩)⟩)
theorem st_D {args : Array Value} {s : State} (hts : allT s args) : ∃ D : va_G, ∀ (c : Nat) (q : vw_C), vwCl[c]? = some q → u_Kn s q.1 q.2.1 q.2.2 (D.1 c) (D.2 c) := by
  have h : ∀ c : Nat, ∃ x : ClassId × (Nat → Nat), ∀ q : vw_C, vwCl[c]? = some q → u_Kn s q.1 q.2.1 q.2.2 x.1 x.2 := by
    intro c
    cases hc : vwCl[c]? with
    | none => exact ⟨((0 : Nat), fun _ => 0), fun q hq => by cases hq⟩
    | some q =>
      obtain ⟨cC, iS, hk⟩ := st_cls hts q (List.mem_of_getElem? hc)
      exact ⟨(cC, iS), fun q' hq => by cases hq; exact hk⟩
  exact ⟨(fun c => (Classical.choose (h c)).1, fun c => (Classical.choose (h c)).2), fun c q hq => Classical.choose_spec (h c) q hq⟩
theorem st_K {args : Array Value} {s : State} (hts : allT s args) (b L : Nat) (xs : Nat → Int32) : ∃ (D : va_G) (g : Nat → ClassId), va_K D vwCl (tysA g) s ∧ g 10 = b ∧ g 11 = L ∧ scX g = xs := by
  obtain ⟨D, hD⟩ := st_D hts
  obtain ⟨a0, b0⟩ := st_arr (ty := .int) (fun C h => by cases h) (hts _ (all_w ac45))
  obtain ⟨a1, b1⟩ := st_arr (ty := .long) (fun C h => by cases h) (hts _ (all_w ac46))
  obtain ⟨a2, b2⟩ := st_arr (ty := .boolean) (fun C h => by cases h) (hts _ (all_w ac69))
  obtain ⟨a3, b3⟩ := st_arrO (C := "Certhold$Certificate") (hts _ (tb1 (List.mem_of_getElem? (i := 28) rfl)))
  refine ⟨D, fun k => if k = 0 then a0 else if k = 1 then a1 else if k = 2 then a2 else if k = 3 then a3 else if k = 10 then b else if k = 11 then L else (xs (k - 12)).toBitVec.toNat, ⟨hD, fun k q hk => ?_⟩, rfl, rfl, ?_⟩
  · exact (List.forall_mem_cons.mpr ⟨b0, List.forall_mem_cons.mpr ⟨b1, List.forall_mem_cons.mpr ⟨b2, List.forall_mem_cons.mpr ⟨b3, fun _ h => absurd h List.not_mem_nil⟩⟩⟩⟩ : ∀ q ∈ [(a0, FieldType.int), (a1, .long), (a2, .boolean), (a3, .object "Certhold$Certificate")], ArrOfT s q.1 q.2 ∧ va_RA s q.1 q.2) q (List.mem_of_getElem? hk)
  · funext j
    unfold scX
    dsimp only
    rw [if_neg (by omega), if_neg (by omega), if_neg (by omega), if_neg (by omega), if_neg (by omega), if_neg (by omega), show 12 + j - 12 = j by omega]
    apply Int32.toBitVec_inj.mp
    show BitVec.ofNat 32 _ = _
    simp
theorem st_str {args : Array Value} {s : State} {cur : ClassId} (hc : s.vm.findClass RX6 = some cur) {k : Nat} {tx : String} (h : (Cond.stringRef RX6 k tx).before args s = true) : ∃ a, vk_R RX6 k tx a s := by
  obtain ⟨_, _, _, a, _, _, _, _, _, he⟩ := Cond.stringRef_spec hc h
  exact ⟨a, vk_R.of h he⟩
theorem st_strs {args : Array Value} {s : State} (hts : allT s args) : ∀ q ∈ strL, ∃ a, vk_R RX6 q.1 q.2 a s := by
  obtain ⟨cC, iS, hk⟩ := u_known (s := s) (args := args) (ws := wAll) (fun w h => hts w (all_w h)) iwX6 (hts _ (all_w nX6))
  have hc := hk.2.1
  exact (List.forall_mem_cons.mpr ⟨(st_str hc (hts _ (tb1 (List.mem_of_getElem? (i := 211) rfl)))), (List.forall_mem_cons.mpr ⟨(st_str hc (hts _ (tb2 (List.mem_of_getElem? (i := 1) rfl)))), (List.forall_mem_cons.mpr ⟨(st_str hc (hts _ (tb2 (List.mem_of_getElem? (i := 23) rfl)))), (List.forall_mem_cons.mpr ⟨(st_str hc (hts _ (tb2 (List.mem_of_getElem? (i := 33) rfl)))), (List.forall_mem_cons.mpr ⟨(st_str hc (hts _ (tb2 (List.mem_of_getElem? (i := 50) rfl)))), (List.forall_mem_cons.mpr ⟨(st_str hc (hts _ (tb2 (List.mem_of_getElem? (i := 61) rfl)))), (List.forall_mem_cons.mpr ⟨(st_str hc (hts _ (tb2 (List.mem_of_getElem? (i := 177) rfl)))), (List.forall_mem_cons.mpr ⟨(st_str hc (hts _ (tb2 (List.mem_of_getElem? (i := 185) rfl)))), (List.forall_mem_cons.mpr ⟨(st_str hc (hts _ (tb2 (List.mem_of_getElem? (i := 190) rfl)))), (List.forall_mem_cons.mpr ⟨(st_str hc (hts _ (tb2 (List.mem_of_getElem? (i := 209) rfl)))), (List.forall_mem_cons.mpr ⟨(st_str hc (hts _ (tb2 (List.mem_of_getElem? (i := 217) rfl)))), (List.forall_mem_cons.mpr ⟨(st_str hc (hts _ (tb2 (List.mem_of_getElem? (i := 229) rfl)))), (List.forall_mem_cons.mpr ⟨(st_str hc (hts _ (tb2 (List.mem_of_getElem? (i := 230) rfl)))), (List.forall_mem_cons.mpr ⟨(st_str hc (hts _ (tb3 (List.mem_of_getElem? (i := 37) rfl)))), (List.forall_mem_cons.mpr ⟨(st_str hc (hts _ (tb3 (List.mem_of_getElem? (i := 171) rfl)))), (List.forall_mem_cons.mpr ⟨(st_str hc (hts _ (tb3 (List.mem_of_getElem? (i := 185) rfl)))), (List.forall_mem_cons.mpr ⟨(st_str hc (hts _ (tb4 (List.mem_of_getElem? (i := 88) rfl)))), (List.forall_mem_cons.mpr ⟨(st_str hc (hts _ (tb4 (List.mem_of_getElem? (i := 122) rfl)))), (fun _ h => absurd h List.not_mem_nil)⟩)⟩)⟩)⟩)⟩)⟩)⟩)⟩)⟩)⟩)⟩)⟩)⟩)⟩)⟩)⟩)⟩)⟩)
theorem st_NC {args : Array Value} {s : State} (hg : (Jvm.Cond.and given_1 narrow_1).before args s = true) : NC s := by
  have hs := flat_of_before _ hg
  intro a ha b hb hab
  simp only [exN, List.mem_cons, List.not_mem_nil, or_false] at ha hb
  rcases ha with rfl | rfl | rfl | rfl | rfl <;> rcases hb with rfl | rfl | rfl | rfl | rfl <;> first | exact absurd rfl hab | exact va_Nc.of (hs _ (by decide +kernel))
theorem st_SP {args : Array Value} {s : State} {A : Nat → Prop} {g : Nat → ClassId} {b L : Nat} {xs : Nat → Int32} (hts : allT s args) (hg : (Jvm.Cond.and given_1 narrow_1).before args s = true) (hA : ∀ a : Nat, a < s.heap.size → ¬ A a) (h10 : g 10 = b) (h11 : g 11 = L) (hx : scX g = xs) (hX : va_X b L xs s s.heap) (hb : b < s.heap.size) (hL : L ≤ 260) : SP g A s := by
  have hs := flat_of_before _ hg
  refine ⟨vx_Zqof (hts _ (tb1 (List.mem_of_getElem? (i := 147) rfl))) (hts _ (tb1 (List.mem_of_getElem? (i := 6) rfl))) (hs _ (by decide +kernel)) hA, vx_Zqof (hts _ (tb1 (List.mem_of_getElem? (i := 149) rfl))) (hts _ (tb1 (List.mem_of_getElem? (i := 6) rfl))) (hs _ (by decide +kernel)) hA, st_strs hts, va_AO.of (hts _ (tb1 (List.mem_of_getElem? (i := 28) rfl))), fun w hw ha => va_Nw.of (auxW_on ha) (hts w hw), st_NC hg, ?_, ?_, ?_, ?_⟩
  · rw [h10, h11, hx]; exact hX
  · rw [h10]; exact hb
  · rw [h10]; exact hA b hb
  · rw [h11]; exact hL
