set_option maxHeartbeats 4000000 in
/-- from the entry, for every script of at most 260 ints, the law comes to its end with true -/
theorem whole_start {p : Program} {e : Env} {s : State} {m : MethodId} {below : List Frame} {meth : Method} {c : Code} (l : Launch) (hflags : l.flags = flags0) {b L : Nat} {xs : Nat → Int32} (hL : L ≤ 260) (C0 : lw_At p s m meth c b L xs) : W p l e room_1 s m #[Value.ref b] below meth c s.heap [] 0 0 (lw_Z below #[Value.ref b] s) (entryFrame m ([Value.ref b] : List Value).toArray 7) := by
  obtain ⟨hx, hb, hr, hml, hown, hts, hX, hbl, hlk, hg⟩ := C0
  have htr : l.stackTraces = false := by unfold Launch.stackTraces; rw [hflags]; decide +kernel
  obtain ⟨D, g, hK, h10, h11, hsc⟩ := st_K hts b L xs
  have hA : ∀ q, s.heap.size ≤ q → s.heap.size ≤ q := fun _ h => h
  have cx : CX p l s m #[Value.ref b] meth c RL cL_law ret 7 D g (fun q => s.heap.size ≤ q) := ⟨hx, hb, hr, hml, hown, fun w h => hts w (all_w h), hlk, hK, hA, st_SP hts hg (fun a h => Nat.not_le.mpr h) h10 h11 hsc hX hbl hL⟩
  have fin : ∀ (ws : va_W) (L' : List (Nat × Value)), J p l e room_1 s m #[Value.ref b] below meth c D (fun q => s.heap.size ≤ q) 7 (lw_Z below #[Value.ref b] s) 600312 7292577 ws L' 387 [.int (nI 1)] := by
    intro ws L'
    intro H locs ls hP hD hS hl
    exact va_forget hS.2.2 (W.base (lw_ret (Drawn.sameBut.refl s.drawn lw_cs) hx hb hr hlk dL_law_387))
  have key : J p l e room_1 s m #[Value.ref b] below meth c D (fun q => s.heap.size ≤ q) 7 (lw_Z below #[Value.ref b] s) 0 0 [] [(0, .ref (g 10))] 0 [] := lw_0 htr fin cx
  rw [h10] at key
  rw [lg_entry_eq]
  exact key s.heap [] _ (fun k q h => absurd h (by simp)) ⟨fun i j p q h => absurd h (by simp), fun k q h => absurd h (by simp)⟩ va_S.rf (lv_entry [Value.ref b] (n := 7) (Nat.le_of_ble_eq_true rfl))
