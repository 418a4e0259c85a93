/-! worlds up to order; a callee over its own cells: what stands beside them stays -/
theorem P_iff {D : va_G} {cl : List vw_C} {ws : va_W} {H : Heap} : va_P D cl ws H ↔ ∀ x ∈ ws, va_at D cl x H :=
  ⟨fun h x hx => by obtain ⟨k, hk⟩ := List.mem_iff_getElem?.mp hx; exact h k x hk, fun h k q hk => h q (List.mem_of_getElem? hk)⟩
theorem D_iff {A : Nat → Prop} {ws : va_W} : va_D A ws ↔ (ws.map (fun x => x.1)).Nodup ∧ ∀ x ∈ ws, A x.1 := by
  constructor
  · intro h
    refine ⟨?_, fun x hx => by obtain ⟨k, hk⟩ := List.mem_iff_getElem?.mp hx; exact h.2 k x hk⟩
    rw [List.Nodup, List.pairwise_iff_getElem]
    intro i j hi hj hij he
    simp at hi hj
    rw [List.getElem_map, List.getElem_map] at he
    have := h.1 i j ws[i] ws[j] (List.getElem?_eq_getElem hi) (List.getElem?_eq_getElem hj) he
    omega
  · intro h
    obtain ⟨h1, h2⟩ := h
    rw [List.Nodup, List.pairwise_iff_getElem] at h1
    refine ⟨fun i j p q hi hj hpq => ?_, fun k q hk => h2 q (List.mem_of_getElem? hk)⟩
    obtain ⟨hi1, hi2⟩ := List.getElem?_eq_some_iff.mp hi
    obtain ⟨hj1, hj2⟩ := List.getElem?_eq_some_iff.mp hj
    rcases Nat.lt_trichotomy i j with c | c | c
    · exact absurd (by rw [List.getElem_map, List.getElem_map, hi2, hj2]; exact hpq) (h1 i j (by simpa using hi1) (by simpa using hj1) c)
    · exact c
    · exact absurd (by rw [List.getElem_map, List.getElem_map, hi2, hj2]; exact hpq.symm) (h1 j i (by simpa using hj1) (by simpa using hi1) c)
theorem P_perm {D : va_G} {cl : List vw_C} {ws ws' : va_W} {H : Heap} (h : ws.Perm ws') (hP : va_P D cl ws H) : va_P D cl ws' H := P_iff.mpr fun x hx => P_iff.mp hP x (h.mem_iff.mpr hx)
theorem D_perm {A : Nat → Prop} {ws ws' : va_W} (h : ws.Perm ws') (hD : va_D A ws) : va_D A ws' := D_iff.mpr ⟨((h.map _).nodup_iff).mp (D_iff.mp hD).1, fun x hx => (D_iff.mp hD).2 x (h.mem_iff.mpr hx)⟩
theorem P_app {D : va_G} {cl : List vw_C} {w1 w2 : va_W} {H : Heap} : va_P D cl (w1 ++ w2) H ↔ va_P D cl w1 H ∧ va_P D cl w2 H := by
  rw [P_iff, P_iff, P_iff]; exact List.forall_mem_append
theorem D_app {A : Nat → Prop} {w1 w2 : va_W} : va_D A (w1 ++ w2) ↔ va_D A w1 ∧ va_D A w2 ∧ ∀ x ∈ w1, ∀ y ∈ w2, x.1 ≠ y.1 := by
  rw [D_iff, D_iff, D_iff, List.map_append, List.nodup_append, List.forall_mem_append]
  constructor
  · rintro ⟨⟨a, b, c⟩, d, e⟩
    exact ⟨⟨a, d⟩, ⟨b, e⟩, fun x hx y hy => c x.1 (List.mem_map.mpr ⟨x, hx, rfl⟩) y.1 (List.mem_map.mpr ⟨y, hy, rfl⟩)⟩
  · rintro ⟨⟨a, d⟩, ⟨b, e⟩, c⟩
    refine ⟨⟨a, b, ?_⟩, d, e⟩
    intro x hx y hy
    obtain ⟨x', hx1, rfl⟩ := List.mem_map.mp hx
    obtain ⟨y', hy1, rfl⟩ := List.mem_map.mp hy
    exact c x' hx1 y' hy1
/-- the cells of A but those of a world -/
def aA (A : Nat → Prop) (wr : va_W) : Nat → Prop := fun q => A q ∧ ∀ x ∈ wr, x.1 ≠ q
theorem PRE.perm {D : va_G} {g : Nat → ClassId} {A : Nat → Prop} {ws ws' : va_W} {U : State} (hp : ws.Perm ws') (h : PRE D g A ws U) : PRE D g A ws' U := ⟨P_perm hp h.1, h.2.1, D_perm hp h.2.2.1, h.2.2.2⟩
theorem SP.narrow {g : Nat → ClassId} {A B : Nat → Prop} {U : State} (h : SP g A U) (hAB : ∀ q, B q → A q) : SP g B U := ⟨h.1.narrow hAB, h.2.1.narrow hAB, h.2.2.1, h.2.2.2.1, h.2.2.2.2.1, h.2.2.2.2.2.1, h.2.2.2.2.2.2.1, h.2.2.2.2.2.2.2.1, fun q => h.2.2.2.2.2.2.2.2.1 (hAB _ q), h.2.2.2.2.2.2.2.2.2⟩
theorem PRE.cut {D : va_G} {g : Nat → ClassId} {A : Nat → Prop} {w wr : va_W} {U : State} (h : PRE D g A (w ++ wr) U) : PRE D g (aA A wr) w U := by
  obtain ⟨h1, h2, h3, h4, h5⟩ := h
  obtain ⟨p1, p2⟩ := P_app.mp h1
  obtain ⟨d1, d2, d3⟩ := D_app.mp h3
  refine ⟨p1, h2, D_iff.mpr ⟨(D_iff.mp d1).1, fun x hx => ⟨(D_iff.mp d1).2 x hx, fun y hy => (d3 x hx y hy).symm⟩⟩, fun q hq => ⟨h4 q hq, fun x hx => ?_⟩, h5.narrow (fun q hq => hq.1)⟩
  obtain ⟨k, hk⟩ := List.mem_iff_getElem?.mp hx
  have := (p2 k x hk).lt
  omega
theorem F_wide {A : Nat → Prop} {wr : va_W} {st t : State} (h : va_F (aA A wr) st t) : va_F A st t := ⟨h.1, fun q h1 h2 => h.2 q h1 (fun z => h2 z.1)⟩
theorem F_keep {D : va_G} {cl : List vw_C} {A : Nat → Prop} {wr : va_W} {st t : State} (hP : va_P D cl wr st.heap) (h : va_F (aA A wr) st t) : va_P D cl wr t.heap :=
  hP.kept fun k q hk => h.2 q.1 (hP k q hk).lt (fun z => z.2 q (List.mem_of_getElem? hk) rfl)
theorem PO.glue {D : va_G} {A : Nat → Prop} {w wr : va_W} {t : State} (h1 : PO D (aA A wr) w t) (h2 : va_P D vwCl wr t.heap) (h3 : va_D A wr) : PO D A (w ++ wr) t :=
  ⟨P_app.mpr ⟨h1.1, h2⟩, D_app.mpr ⟨D_iff.mpr ⟨(D_iff.mp h1.2).1, fun x hx => ((D_iff.mp h1.2).2 x hx).1⟩, h3, fun x hx y hy => (((D_iff.mp h1.2).2 x hx).2 y hy).symm⟩⟩
theorem PRE.rest {D : va_G} {g : Nat → ClassId} {A : Nat → Prop} {w wr : va_W} {U : State} (h : PRE D g A (w ++ wr) U) : va_P D vwCl wr U.heap ∧ va_D A wr := ⟨(P_app.mp h.1).2, (D_app.mp h.2.2.1).2.1⟩
theorem PO.perm {D : va_G} {A : Nat → Prop} {ws ws' : va_W} {t : State} (hp : ws.Perm ws') (h : PO D A ws t) : PO D A ws' t := ⟨P_perm hp h.1, D_perm hp h.2⟩
section FR
variable {l : Launch} {y : MethodName} {ws0 : List Cond} {rm : Room} {av : List Value} {D : va_G} {g : Nat → ClassId} {A : Nat → Prop} {w wr ws : va_W} {S : Type} {W' W2 : S → va_W} {mc ms : Nat}
theorem frI {post : Int32 → S → Prop} (hp : ws.Perm (w ++ wr)) (hq : ∀ u, (W' u ++ wr).Perm (W2 u)) (hM : Met l y ws0 rm (va_Pc av (PRE D g (aA A wr) w)) (va_Qi post (fun u => PO D (aA A wr) (W' u)) (aA A wr)) mc ms (aA A wr)) : Met l y ws0 rm (va_Pc av (PRE D g A ws)) (va_Qi post (fun u => PO D A (W2 u)) A) mc ms A :=
  Jvm.Free.MetFree.mono hM (fun a s h => ⟨h.1, (h.2.perm hp).cut⟩) (fun _ _ _ _ _ h => h) (fun a s o t h ⟨⟨⟨r, u, ho, h1, h2⟩, hF⟩, L, hL, hf⟩ => ⟨⟨⟨r, u, ho, h1, (h2.glue (F_keep (h.2.perm hp).rest.1 hF) (h.2.perm hp).rest.2).perm (hq u)⟩, F_wide hF⟩, L, hL, fun q hq => (hf q hq).1⟩)
theorem frL {post : Int64 → S → Prop} (hp : ws.Perm (w ++ wr)) (hq : ∀ u, (W' u ++ wr).Perm (W2 u)) (hM : Met l y ws0 rm (va_Pc av (PRE D g (aA A wr) w)) (va_Ql post (fun u => PO D (aA A wr) (W' u)) (aA A wr)) mc ms (aA A wr)) : Met l y ws0 rm (va_Pc av (PRE D g A ws)) (va_Ql post (fun u => PO D A (W2 u)) A) mc ms A :=
  Jvm.Free.MetFree.mono hM (fun a s h => ⟨h.1, (h.2.perm hp).cut⟩) (fun _ _ _ _ _ h => h) (fun a s o t h ⟨⟨⟨r, u, ho, h1, h2⟩, hF⟩, L, hL, hf⟩ => ⟨⟨⟨r, u, ho, h1, (h2.glue (F_keep (h.2.perm hp).rest.1 hF) (h.2.perm hp).rest.2).perm (hq u)⟩, F_wide hF⟩, L, hL, fun q hq => (hf q hq).1⟩)
theorem frF {post : UInt32 → S → Prop} (hp : ws.Perm (w ++ wr)) (hq : ∀ u, (W' u ++ wr).Perm (W2 u)) (hM : Met l y ws0 rm (va_Pc av (PRE D g (aA A wr) w)) (va_Qf post (fun u => PO D (aA A wr) (W' u)) (aA A wr)) mc ms (aA A wr)) : Met l y ws0 rm (va_Pc av (PRE D g A ws)) (va_Qf post (fun u => PO D A (W2 u)) A) mc ms A :=
  Jvm.Free.MetFree.mono hM (fun a s h => ⟨h.1, (h.2.perm hp).cut⟩) (fun _ _ _ _ _ h => h) (fun a s o t h ⟨⟨⟨r, u, ho, h1, h2⟩, hF⟩, L, hL, hf⟩ => ⟨⟨⟨r, u, ho, h1, (h2.glue (F_keep (h.2.perm hp).rest.1 hF) (h.2.perm hp).rest.2).perm (hq u)⟩, F_wide hF⟩, L, hL, fun q hq => (hf q hq).1⟩)
theorem frD {post : UInt64 → S → Prop} (hp : ws.Perm (w ++ wr)) (hq : ∀ u, (W' u ++ wr).Perm (W2 u)) (hM : Met l y ws0 rm (va_Pc av (PRE D g (aA A wr) w)) (va_Qd post (fun u => PO D (aA A wr) (W' u)) (aA A wr)) mc ms (aA A wr)) : Met l y ws0 rm (va_Pc av (PRE D g A ws)) (va_Qd post (fun u => PO D A (W2 u)) A) mc ms A :=
  Jvm.Free.MetFree.mono hM (fun a s h => ⟨h.1, (h.2.perm hp).cut⟩) (fun _ _ _ _ _ h => h) (fun a s o t h ⟨⟨⟨r, u, ho, h1, h2⟩, hF⟩, L, hL, hf⟩ => ⟨⟨⟨r, u, ho, h1, (h2.glue (F_keep (h.2.perm hp).rest.1 hF) (h.2.perm hp).rest.2).perm (hq u)⟩, F_wide hF⟩, L, hL, fun q hq => (hf q hq).1⟩)
theorem frV {post : S → Prop} (hp : ws.Perm (w ++ wr)) (hq : ∀ u, (W' u ++ wr).Perm (W2 u)) (hM : Met l y ws0 rm (va_Pc av (PRE D g (aA A wr) w)) (va_Qv post (fun u => PO D (aA A wr) (W' u)) (aA A wr)) mc ms (aA A wr)) : Met l y ws0 rm (va_Pc av (PRE D g A ws)) (va_Qv post (fun u => PO D A (W2 u)) A) mc ms A :=
  Jvm.Free.MetFree.mono hM (fun a s h => ⟨h.1, (h.2.perm hp).cut⟩) (fun _ _ _ _ _ h => h) (fun a s o t h ⟨⟨⟨u, ho, h1, h2⟩, hF⟩, L, hL, hf⟩ => ⟨⟨⟨u, ho, h1, (h2.glue (F_keep (h.2.perm hp).rest.1 hF) (h.2.perm hp).rest.2).perm (hq u)⟩, F_wide hF⟩, L, hL, fun q hq => (hf q hq).1⟩)
theorem frX {Q1 Q2 : Array Value → State → Outcome → State → Prop} {XP : String → Prop} {wx wx2 : va_W} (hp : ws.Perm (w ++ wr)) (hqx : (wx ++ wr).Perm wx2)
    (hQ : ∀ a s o t, va_P D vwCl wr s.heap → va_D A wr → Q1 a s o t → Q2 a s o t)
    (hM : vx_Met l y ws0 rm (va_Pc av (PRE D g (aA A wr) w)) Q1 (XQ XP D (aA A wr) wx) mc ms (aA A wr)) : vx_Met l y ws0 rm (va_Pc av (PRE D g A ws)) Q2 (XQ XP D A wx2) mc ms A := by
  refine Jvm.Free.MetFree.mono hM (fun a s h => ⟨h.1, (h.2.perm hp).cut⟩) (fun _ _ _ _ _ h => h) (fun a s o t h q => ?_)
  obtain ⟨r1, r2⟩ := (h.2.perm hp).rest
  rcases q with ⟨h1, L, hL, hf⟩ | ⟨z, ho, E, ce, L, ⟨u, hu, ⟨hX, hB⟩, hF⟩, h3, h4, h5, h6, h7, h8⟩
  · exact Or.inl ⟨hQ a s o t r1 r2 h1, L, hL, fun q hq => (hf q hq).1⟩
  · exact Or.inr ⟨z, ho, E, ce, L, ⟨u, hu, ⟨hX, (hB.glue (F_keep r1 hF) r2).perm hqx⟩, F_wide hF⟩, h3, h4, h5, h6, h7, fun q hq => (h8 q hq).1⟩
theorem qI {post : Int32 → S → Prop} (hq : ∀ u, (W' u ++ wr).Perm (W2 u)) : ∀ a s o t, va_P D vwCl wr s.heap → va_D A wr → va_Qi post (fun u => PO D (aA A wr) (W' u)) (aA A wr) a s o t → va_Qi post (fun u => PO D A (W2 u)) A a s o t :=
  fun _ _ _ _ r1 r2 ⟨⟨r, u, ho, h1, h2⟩, hF⟩ => ⟨⟨r, u, ho, h1, (h2.glue (F_keep r1 hF) r2).perm (hq u)⟩, F_wide hF⟩
theorem qL {post : Int64 → S → Prop} (hq : ∀ u, (W' u ++ wr).Perm (W2 u)) : ∀ a s o t, va_P D vwCl wr s.heap → va_D A wr → va_Ql post (fun u => PO D (aA A wr) (W' u)) (aA A wr) a s o t → va_Ql post (fun u => PO D A (W2 u)) A a s o t :=
  fun _ _ _ _ r1 r2 ⟨⟨r, u, ho, h1, h2⟩, hF⟩ => ⟨⟨r, u, ho, h1, (h2.glue (F_keep r1 hF) r2).perm (hq u)⟩, F_wide hF⟩
theorem qF {post : UInt32 → S → Prop} (hq : ∀ u, (W' u ++ wr).Perm (W2 u)) : ∀ a s o t, va_P D vwCl wr s.heap → va_D A wr → va_Qf post (fun u => PO D (aA A wr) (W' u)) (aA A wr) a s o t → va_Qf post (fun u => PO D A (W2 u)) A a s o t :=
  fun _ _ _ _ r1 r2 ⟨⟨r, u, ho, h1, h2⟩, hF⟩ => ⟨⟨r, u, ho, h1, (h2.glue (F_keep r1 hF) r2).perm (hq u)⟩, F_wide hF⟩
theorem qD {post : UInt64 → S → Prop} (hq : ∀ u, (W' u ++ wr).Perm (W2 u)) : ∀ a s o t, va_P D vwCl wr s.heap → va_D A wr → va_Qd post (fun u => PO D (aA A wr) (W' u)) (aA A wr) a s o t → va_Qd post (fun u => PO D A (W2 u)) A a s o t :=
  fun _ _ _ _ r1 r2 ⟨⟨r, u, ho, h1, h2⟩, hF⟩ => ⟨⟨r, u, ho, h1, (h2.glue (F_keep r1 hF) r2).perm (hq u)⟩, F_wide hF⟩
end FR
section JJP
variable {p : Program} {l : Launch} {e : Env} {R : Room} {s : State} {m : MethodId} {args : Array Value} {below : List Frame} {meth : Method} {c : Code} {nL : Nat} {D : va_G} {A : Nat → Prop} {Q : State → Prop} {cells slots : Nat} {ws ws' : va_W} {L : List (Nat × Value)} {pc : Nat} {st : List Value}
theorem J_perm (h : ws.Perm ws') (kk : J p l e R s m args below meth c D A nL Q cells slots ws' L pc st) : J p l e R s m args below meth c D A nL Q cells slots ws L pc st := J_wsub (fun _ hP => P_perm h hP) (fun hD => D_perm h hD) kk
end JJP
