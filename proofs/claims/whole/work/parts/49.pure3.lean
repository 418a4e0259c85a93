/-! joining as entries come gives what dividing gives -/
def rtG (J : Int64 → Int64 → Int64) (E : Nat → Int64) : Nat → Nat → Nat → Int64
  | 0, f, _ => E f
  | d + 1, f, sz => if decide (sz = 1) then E f else J (rtG J E d f (spl sz)) (rtG J E d (f + spl sz) (sz - spl sz))
theorem rt_G (κ : CS) : ∀ d f sz, rt κ d f sz = rtG jn (ent κ) d f sz
  | 0, _, _ => rfl
  | d + 1, f, sz => by
    show (if decide (sz = 1) then ent κ f else jn (rt κ d f (spl sz)) (rt κ d (f + spl sz) (sz - spl sz))) = (if decide (sz = 1) then ent κ f else jn (rtG jn (ent κ) d f (spl sz)) (rtG jn (ent κ) d (f + spl sz) (sz - spl sz)))
    rw [rt_G κ d f, rt_G κ d (f + spl sz)]
def rjR (J : Int64 → Int64 → Int64) (E lf : Nat → Int64) (n : Nat) : Int64 := rfF J (rjS J E lf n).2 ((rjS J E lf n).1 - 1) ((rjS J E lf n).2 ((rjS J E lf n).1 - 1))
section RJ
variable (J : Int64 → Int64 → Int64) (E lf : Nat → Int64)
theorem rs_0 : (rjS J E lf 0).1 = 0 := rfl
theorem rs_1 : (rjS J E lf 1).1 = 1 ∧ (rjS J E lf 1).2 0 = rtG J E 0 0 1 := by
  have h1 := rs_0 J E lf
  rw [show rjS J E lf 1 = _ from rjS_s (e := 0)]
  generalize rjS J E lf 0 = q at *
  obtain ⟨q1, q2⟩ := q
  have h2 : q1 = 0 := h1
  subst h2
  exact ⟨rfl, (by show (E 0) = _; rfl)⟩
theorem rs_2 : (rjS J E lf 2).1 = 1 ∧ (rjS J E lf 2).2 0 = rtG J E 1 0 2 := by
  obtain ⟨h1, v0⟩ := rs_1 J E lf
  rw [show rjS J E lf 2 = _ from rjS_s (e := 1)]
  generalize rjS J E lf 1 = q at *
  obtain ⟨q1, q2⟩ := q
  have h2 : q1 = 1 := h1
  subst h2
  exact ⟨rfl, (by show (J (q2 0) (E 1)) = _; rw [show q2 0 = rtG J E 0 0 1 from v0]; rfl)⟩
theorem rs_3 : (rjS J E lf 3).1 = 2 ∧ (rjS J E lf 3).2 0 = rtG J E 1 0 2 ∧ (rjS J E lf 3).2 1 = rtG J E 0 2 1 := by
  obtain ⟨h1, v0⟩ := rs_2 J E lf
  rw [show rjS J E lf 3 = _ from rjS_s (e := 2)]
  generalize rjS J E lf 2 = q at *
  obtain ⟨q1, q2⟩ := q
  have h2 : q1 = 1 := h1
  subst h2
  exact ⟨rfl, v0, (by show (E 2) = _; rfl)⟩
theorem rs_4 : (rjS J E lf 4).1 = 1 ∧ (rjS J E lf 4).2 0 = rtG J E 2 0 4 := by
  obtain ⟨h1, v0, v1⟩ := rs_3 J E lf
  rw [show rjS J E lf 4 = _ from rjS_s (e := 3)]
  generalize rjS J E lf 3 = q at *
  obtain ⟨q1, q2⟩ := q
  have h2 : q1 = 2 := h1
  subst h2
  exact ⟨rfl, (by show (J (q2 0) (J (q2 1) (E 3))) = _; rw [show q2 1 = rtG J E 0 2 1 from v1, show q2 0 = rtG J E 1 0 2 from v0]; rfl)⟩
theorem rs_5 : (rjS J E lf 5).1 = 2 ∧ (rjS J E lf 5).2 0 = rtG J E 2 0 4 ∧ (rjS J E lf 5).2 1 = rtG J E 0 4 1 := by
  obtain ⟨h1, v0⟩ := rs_4 J E lf
  rw [show rjS J E lf 5 = _ from rjS_s (e := 4)]
  generalize rjS J E lf 4 = q at *
  obtain ⟨q1, q2⟩ := q
  have h2 : q1 = 1 := h1
  subst h2
  exact ⟨rfl, v0, (by show (E 4) = _; rfl)⟩
theorem rs_6 : (rjS J E lf 6).1 = 2 ∧ (rjS J E lf 6).2 0 = rtG J E 2 0 4 ∧ (rjS J E lf 6).2 1 = rtG J E 1 4 2 := by
  obtain ⟨h1, v0, v1⟩ := rs_5 J E lf
  rw [show rjS J E lf 6 = _ from rjS_s (e := 5)]
  generalize rjS J E lf 5 = q at *
  obtain ⟨q1, q2⟩ := q
  have h2 : q1 = 2 := h1
  subst h2
  exact ⟨rfl, v0, (by show (J (q2 1) (E 5)) = _; rw [show q2 1 = rtG J E 0 4 1 from v1]; rfl)⟩
theorem rs_7 : (rjS J E lf 7).1 = 3 ∧ (rjS J E lf 7).2 0 = rtG J E 2 0 4 ∧ (rjS J E lf 7).2 1 = rtG J E 1 4 2 ∧ (rjS J E lf 7).2 2 = rtG J E 0 6 1 := by
  obtain ⟨h1, v0, v1⟩ := rs_6 J E lf
  rw [show rjS J E lf 7 = _ from rjS_s (e := 6)]
  generalize rjS J E lf 6 = q at *
  obtain ⟨q1, q2⟩ := q
  have h2 : q1 = 2 := h1
  subst h2
  exact ⟨rfl, v0, v1, (by show (E 6) = _; rfl)⟩
theorem rs_8 : (rjS J E lf 8).1 = 1 ∧ (rjS J E lf 8).2 0 = rtG J E 3 0 8 := by
  obtain ⟨h1, v0, v1, v2⟩ := rs_7 J E lf
  rw [show rjS J E lf 8 = _ from rjS_s (e := 7)]
  generalize rjS J E lf 7 = q at *
  obtain ⟨q1, q2⟩ := q
  have h2 : q1 = 3 := h1
  subst h2
  exact ⟨rfl, (by show (J (q2 0) (J (q2 1) (J (q2 2) (E 7)))) = _; rw [show q2 2 = rtG J E 0 6 1 from v2, show q2 1 = rtG J E 1 4 2 from v1, show q2 0 = rtG J E 2 0 4 from v0]; rfl)⟩
theorem rs_9 : (rjS J E lf 9).1 = 2 ∧ (rjS J E lf 9).2 0 = rtG J E 3 0 8 ∧ (rjS J E lf 9).2 1 = rtG J E 0 8 1 := by
  obtain ⟨h1, v0⟩ := rs_8 J E lf
  rw [show rjS J E lf 9 = _ from rjS_s (e := 8)]
  generalize rjS J E lf 8 = q at *
  obtain ⟨q1, q2⟩ := q
  have h2 : q1 = 1 := h1
  subst h2
  exact ⟨rfl, v0, (by show (E 8) = _; rfl)⟩
theorem rs_10 : (rjS J E lf 10).1 = 2 ∧ (rjS J E lf 10).2 0 = rtG J E 3 0 8 ∧ (rjS J E lf 10).2 1 = rtG J E 1 8 2 := by
  obtain ⟨h1, v0, v1⟩ := rs_9 J E lf
  rw [show rjS J E lf 10 = _ from rjS_s (e := 9)]
  generalize rjS J E lf 9 = q at *
  obtain ⟨q1, q2⟩ := q
  have h2 : q1 = 2 := h1
  subst h2
  exact ⟨rfl, v0, (by show (J (q2 1) (E 9)) = _; rw [show q2 1 = rtG J E 0 8 1 from v1]; rfl)⟩
theorem rs_11 : (rjS J E lf 11).1 = 3 ∧ (rjS J E lf 11).2 0 = rtG J E 3 0 8 ∧ (rjS J E lf 11).2 1 = rtG J E 1 8 2 ∧ (rjS J E lf 11).2 2 = rtG J E 0 10 1 := by
  obtain ⟨h1, v0, v1⟩ := rs_10 J E lf
  rw [show rjS J E lf 11 = _ from rjS_s (e := 10)]
  generalize rjS J E lf 10 = q at *
  obtain ⟨q1, q2⟩ := q
  have h2 : q1 = 2 := h1
  subst h2
  exact ⟨rfl, v0, v1, (by show (E 10) = _; rfl)⟩
theorem rs_12 : (rjS J E lf 12).1 = 2 ∧ (rjS J E lf 12).2 0 = rtG J E 3 0 8 ∧ (rjS J E lf 12).2 1 = rtG J E 2 8 4 := by
  obtain ⟨h1, v0, v1, v2⟩ := rs_11 J E lf
  rw [show rjS J E lf 12 = _ from rjS_s (e := 11)]
  generalize rjS J E lf 11 = q at *
  obtain ⟨q1, q2⟩ := q
  have h2 : q1 = 3 := h1
  subst h2
  exact ⟨rfl, v0, (by show (J (q2 1) (J (q2 2) (E 11))) = _; rw [show q2 2 = rtG J E 0 10 1 from v2, show q2 1 = rtG J E 1 8 2 from v1]; rfl)⟩
theorem rs_13 : (rjS J E lf 13).1 = 3 ∧ (rjS J E lf 13).2 0 = rtG J E 3 0 8 ∧ (rjS J E lf 13).2 1 = rtG J E 2 8 4 ∧ (rjS J E lf 13).2 2 = rtG J E 0 12 1 := by
  obtain ⟨h1, v0, v1⟩ := rs_12 J E lf
  rw [show rjS J E lf 13 = _ from rjS_s (e := 12)]
  generalize rjS J E lf 12 = q at *
  obtain ⟨q1, q2⟩ := q
  have h2 : q1 = 2 := h1
  subst h2
  exact ⟨rfl, v0, v1, (by show (E 12) = _; rfl)⟩
theorem rs_14 : (rjS J E lf 14).1 = 3 ∧ (rjS J E lf 14).2 0 = rtG J E 3 0 8 ∧ (rjS J E lf 14).2 1 = rtG J E 2 8 4 ∧ (rjS J E lf 14).2 2 = rtG J E 1 12 2 := by
  obtain ⟨h1, v0, v1, v2⟩ := rs_13 J E lf
  rw [show rjS J E lf 14 = _ from rjS_s (e := 13)]
  generalize rjS J E lf 13 = q at *
  obtain ⟨q1, q2⟩ := q
  have h2 : q1 = 3 := h1
  subst h2
  exact ⟨rfl, v0, v1, (by show (J (q2 2) (E 13)) = _; rw [show q2 2 = rtG J E 0 12 1 from v2]; rfl)⟩
theorem rs_15 : (rjS J E lf 15).1 = 4 ∧ (rjS J E lf 15).2 0 = rtG J E 3 0 8 ∧ (rjS J E lf 15).2 1 = rtG J E 2 8 4 ∧ (rjS J E lf 15).2 2 = rtG J E 1 12 2 ∧ (rjS J E lf 15).2 3 = rtG J E 0 14 1 := by
  obtain ⟨h1, v0, v1, v2⟩ := rs_14 J E lf
  rw [show rjS J E lf 15 = _ from rjS_s (e := 14)]
  generalize rjS J E lf 14 = q at *
  obtain ⟨q1, q2⟩ := q
  have h2 : q1 = 3 := h1
  subst h2
  exact ⟨rfl, v0, v1, v2, (by show (E 14) = _; rfl)⟩
theorem rs_16 : (rjS J E lf 16).1 = 1 ∧ (rjS J E lf 16).2 0 = rtG J E 4 0 16 := by
  obtain ⟨h1, v0, v1, v2, v3⟩ := rs_15 J E lf
  rw [show rjS J E lf 16 = _ from rjS_s (e := 15)]
  generalize rjS J E lf 15 = q at *
  obtain ⟨q1, q2⟩ := q
  have h2 : q1 = 4 := h1
  subst h2
  exact ⟨rfl, (by show (J (q2 0) (J (q2 1) (J (q2 2) (J (q2 3) (E 15))))) = _; rw [show q2 3 = rtG J E 0 14 1 from v3, show q2 2 = rtG J E 1 12 2 from v2, show q2 1 = rtG J E 2 8 4 from v1, show q2 0 = rtG J E 3 0 8 from v0]; rfl)⟩
theorem rs_17 : (rjS J E lf 17).1 = 2 ∧ (rjS J E lf 17).2 0 = rtG J E 4 0 16 ∧ (rjS J E lf 17).2 1 = rtG J E 0 16 1 := by
  obtain ⟨h1, v0⟩ := rs_16 J E lf
  rw [show rjS J E lf 17 = _ from rjS_s (e := 16)]
  generalize rjS J E lf 16 = q at *
  obtain ⟨q1, q2⟩ := q
  have h2 : q1 = 1 := h1
  subst h2
  exact ⟨rfl, v0, (by show (E 16) = _; rfl)⟩
theorem rs_18 : (rjS J E lf 18).1 = 2 ∧ (rjS J E lf 18).2 0 = rtG J E 4 0 16 ∧ (rjS J E lf 18).2 1 = rtG J E 1 16 2 := by
  obtain ⟨h1, v0, v1⟩ := rs_17 J E lf
  rw [show rjS J E lf 18 = _ from rjS_s (e := 17)]
  generalize rjS J E lf 17 = q at *
  obtain ⟨q1, q2⟩ := q
  have h2 : q1 = 2 := h1
  subst h2
  exact ⟨rfl, v0, (by show (J (q2 1) (E 17)) = _; rw [show q2 1 = rtG J E 0 16 1 from v1]; rfl)⟩
theorem rs_19 : (rjS J E lf 19).1 = 3 ∧ (rjS J E lf 19).2 0 = rtG J E 4 0 16 ∧ (rjS J E lf 19).2 1 = rtG J E 1 16 2 ∧ (rjS J E lf 19).2 2 = rtG J E 0 18 1 := by
  obtain ⟨h1, v0, v1⟩ := rs_18 J E lf
  rw [show rjS J E lf 19 = _ from rjS_s (e := 18)]
  generalize rjS J E lf 18 = q at *
  obtain ⟨q1, q2⟩ := q
  have h2 : q1 = 2 := h1
  subst h2
  exact ⟨rfl, v0, v1, (by show (E 18) = _; rfl)⟩
theorem rs_20 : (rjS J E lf 20).1 = 2 ∧ (rjS J E lf 20).2 0 = rtG J E 4 0 16 ∧ (rjS J E lf 20).2 1 = rtG J E 2 16 4 := by
  obtain ⟨h1, v0, v1, v2⟩ := rs_19 J E lf
  rw [show rjS J E lf 20 = _ from rjS_s (e := 19)]
  generalize rjS J E lf 19 = q at *
  obtain ⟨q1, q2⟩ := q
  have h2 : q1 = 3 := h1
  subst h2
  exact ⟨rfl, v0, (by show (J (q2 1) (J (q2 2) (E 19))) = _; rw [show q2 2 = rtG J E 0 18 1 from v2, show q2 1 = rtG J E 1 16 2 from v1]; rfl)⟩
theorem rs_21 : (rjS J E lf 21).1 = 3 ∧ (rjS J E lf 21).2 0 = rtG J E 4 0 16 ∧ (rjS J E lf 21).2 1 = rtG J E 2 16 4 ∧ (rjS J E lf 21).2 2 = rtG J E 0 20 1 := by
  obtain ⟨h1, v0, v1⟩ := rs_20 J E lf
  rw [show rjS J E lf 21 = _ from rjS_s (e := 20)]
  generalize rjS J E lf 20 = q at *
  obtain ⟨q1, q2⟩ := q
  have h2 : q1 = 2 := h1
  subst h2
  exact ⟨rfl, v0, v1, (by show (E 20) = _; rfl)⟩
theorem rs_22 : (rjS J E lf 22).1 = 3 ∧ (rjS J E lf 22).2 0 = rtG J E 4 0 16 ∧ (rjS J E lf 22).2 1 = rtG J E 2 16 4 ∧ (rjS J E lf 22).2 2 = rtG J E 1 20 2 := by
  obtain ⟨h1, v0, v1, v2⟩ := rs_21 J E lf
  rw [show rjS J E lf 22 = _ from rjS_s (e := 21)]
  generalize rjS J E lf 21 = q at *
  obtain ⟨q1, q2⟩ := q
  have h2 : q1 = 3 := h1
  subst h2
  exact ⟨rfl, v0, v1, (by show (J (q2 2) (E 21)) = _; rw [show q2 2 = rtG J E 0 20 1 from v2]; rfl)⟩
theorem rs_23 : (rjS J E lf 23).1 = 4 ∧ (rjS J E lf 23).2 0 = rtG J E 4 0 16 ∧ (rjS J E lf 23).2 1 = rtG J E 2 16 4 ∧ (rjS J E lf 23).2 2 = rtG J E 1 20 2 ∧ (rjS J E lf 23).2 3 = rtG J E 0 22 1 := by
  obtain ⟨h1, v0, v1, v2⟩ := rs_22 J E lf
  rw [show rjS J E lf 23 = _ from rjS_s (e := 22)]
  generalize rjS J E lf 22 = q at *
  obtain ⟨q1, q2⟩ := q
  have h2 : q1 = 3 := h1
  subst h2
  exact ⟨rfl, v0, v1, v2, (by show (E 22) = _; rfl)⟩
theorem rs_24 : (rjS J E lf 24).1 = 2 ∧ (rjS J E lf 24).2 0 = rtG J E 4 0 16 ∧ (rjS J E lf 24).2 1 = rtG J E 3 16 8 := by
  obtain ⟨h1, v0, v1, v2, v3⟩ := rs_23 J E lf
  rw [show rjS J E lf 24 = _ from rjS_s (e := 23)]
  generalize rjS J E lf 23 = q at *
  obtain ⟨q1, q2⟩ := q
  have h2 : q1 = 4 := h1
  subst h2
  exact ⟨rfl, v0, (by show (J (q2 1) (J (q2 2) (J (q2 3) (E 23)))) = _; rw [show q2 3 = rtG J E 0 22 1 from v3, show q2 2 = rtG J E 1 20 2 from v2, show q2 1 = rtG J E 2 16 4 from v1]; rfl)⟩
theorem rs_25 : (rjS J E lf 25).1 = 3 ∧ (rjS J E lf 25).2 0 = rtG J E 4 0 16 ∧ (rjS J E lf 25).2 1 = rtG J E 3 16 8 ∧ (rjS J E lf 25).2 2 = rtG J E 0 24 1 := by
  obtain ⟨h1, v0, v1⟩ := rs_24 J E lf
  rw [show rjS J E lf 25 = _ from rjS_s (e := 24)]
  generalize rjS J E lf 24 = q at *
  obtain ⟨q1, q2⟩ := q
  have h2 : q1 = 2 := h1
  subst h2
  exact ⟨rfl, v0, v1, (by show (E 24) = _; rfl)⟩
theorem rs_26 : (rjS J E lf 26).1 = 3 ∧ (rjS J E lf 26).2 0 = rtG J E 4 0 16 ∧ (rjS J E lf 26).2 1 = rtG J E 3 16 8 ∧ (rjS J E lf 26).2 2 = rtG J E 1 24 2 := by
  obtain ⟨h1, v0, v1, v2⟩ := rs_25 J E lf
  rw [show rjS J E lf 26 = _ from rjS_s (e := 25)]
  generalize rjS J E lf 25 = q at *
  obtain ⟨q1, q2⟩ := q
  have h2 : q1 = 3 := h1
  subst h2
  exact ⟨rfl, v0, v1, (by show (J (q2 2) (E 25)) = _; rw [show q2 2 = rtG J E 0 24 1 from v2]; rfl)⟩
theorem rs_27 : (rjS J E lf 27).1 = 4 ∧ (rjS J E lf 27).2 0 = rtG J E 4 0 16 ∧ (rjS J E lf 27).2 1 = rtG J E 3 16 8 ∧ (rjS J E lf 27).2 2 = rtG J E 1 24 2 ∧ (rjS J E lf 27).2 3 = rtG J E 0 26 1 := by
  obtain ⟨h1, v0, v1, v2⟩ := rs_26 J E lf
  rw [show rjS J E lf 27 = _ from rjS_s (e := 26)]
  generalize rjS J E lf 26 = q at *
  obtain ⟨q1, q2⟩ := q
  have h2 : q1 = 3 := h1
  subst h2
  exact ⟨rfl, v0, v1, v2, (by show (E 26) = _; rfl)⟩
theorem rs_28 : (rjS J E lf 28).1 = 3 ∧ (rjS J E lf 28).2 0 = rtG J E 4 0 16 ∧ (rjS J E lf 28).2 1 = rtG J E 3 16 8 ∧ (rjS J E lf 28).2 2 = rtG J E 2 24 4 := by
  obtain ⟨h1, v0, v1, v2, v3⟩ := rs_27 J E lf
  rw [show rjS J E lf 28 = _ from rjS_s (e := 27)]
  generalize rjS J E lf 27 = q at *
  obtain ⟨q1, q2⟩ := q
  have h2 : q1 = 4 := h1
  subst h2
  exact ⟨rfl, v0, v1, (by show (J (q2 2) (J (q2 3) (E 27))) = _; rw [show q2 3 = rtG J E 0 26 1 from v3, show q2 2 = rtG J E 1 24 2 from v2]; rfl)⟩
theorem rs_29 : (rjS J E lf 29).1 = 4 ∧ (rjS J E lf 29).2 0 = rtG J E 4 0 16 ∧ (rjS J E lf 29).2 1 = rtG J E 3 16 8 ∧ (rjS J E lf 29).2 2 = rtG J E 2 24 4 ∧ (rjS J E lf 29).2 3 = rtG J E 0 28 1 := by
  obtain ⟨h1, v0, v1, v2⟩ := rs_28 J E lf
  rw [show rjS J E lf 29 = _ from rjS_s (e := 28)]
  generalize rjS J E lf 28 = q at *
  obtain ⟨q1, q2⟩ := q
  have h2 : q1 = 3 := h1
  subst h2
  exact ⟨rfl, v0, v1, v2, (by show (E 28) = _; rfl)⟩
theorem rs_30 : (rjS J E lf 30).1 = 4 ∧ (rjS J E lf 30).2 0 = rtG J E 4 0 16 ∧ (rjS J E lf 30).2 1 = rtG J E 3 16 8 ∧ (rjS J E lf 30).2 2 = rtG J E 2 24 4 ∧ (rjS J E lf 30).2 3 = rtG J E 1 28 2 := by
  obtain ⟨h1, v0, v1, v2, v3⟩ := rs_29 J E lf
  rw [show rjS J E lf 30 = _ from rjS_s (e := 29)]
  generalize rjS J E lf 29 = q at *
  obtain ⟨q1, q2⟩ := q
  have h2 : q1 = 4 := h1
  subst h2
  exact ⟨rfl, v0, v1, v2, (by show (J (q2 3) (E 29)) = _; rw [show q2 3 = rtG J E 0 28 1 from v3]; rfl)⟩
theorem rs_31 : (rjS J E lf 31).1 = 5 ∧ (rjS J E lf 31).2 0 = rtG J E 4 0 16 ∧ (rjS J E lf 31).2 1 = rtG J E 3 16 8 ∧ (rjS J E lf 31).2 2 = rtG J E 2 24 4 ∧ (rjS J E lf 31).2 3 = rtG J E 1 28 2 ∧ (rjS J E lf 31).2 4 = rtG J E 0 30 1 := by
  obtain ⟨h1, v0, v1, v2, v3⟩ := rs_30 J E lf
  rw [show rjS J E lf 31 = _ from rjS_s (e := 30)]
  generalize rjS J E lf 30 = q at *
  obtain ⟨q1, q2⟩ := q
  have h2 : q1 = 4 := h1
  subst h2
  exact ⟨rfl, v0, v1, v2, v3, (by show (E 30) = _; rfl)⟩
theorem rs_32 : (rjS J E lf 32).1 = 1 ∧ (rjS J E lf 32).2 0 = rtG J E 5 0 32 := by
  obtain ⟨h1, v0, v1, v2, v3, v4⟩ := rs_31 J E lf
  rw [show rjS J E lf 32 = _ from rjS_s (e := 31)]
  generalize rjS J E lf 31 = q at *
  obtain ⟨q1, q2⟩ := q
  have h2 : q1 = 5 := h1
  subst h2
  exact ⟨rfl, (by show (J (q2 0) (J (q2 1) (J (q2 2) (J (q2 3) (J (q2 4) (E 31)))))) = _; rw [show q2 4 = rtG J E 0 30 1 from v4, show q2 3 = rtG J E 1 28 2 from v3, show q2 2 = rtG J E 2 24 4 from v2, show q2 1 = rtG J E 3 16 8 from v1, show q2 0 = rtG J E 4 0 16 from v0]; rfl)⟩
theorem rs_33 : (rjS J E lf 33).1 = 2 ∧ (rjS J E lf 33).2 0 = rtG J E 5 0 32 ∧ (rjS J E lf 33).2 1 = rtG J E 0 32 1 := by
  obtain ⟨h1, v0⟩ := rs_32 J E lf
  rw [show rjS J E lf 33 = _ from rjS_s (e := 32)]
  generalize rjS J E lf 32 = q at *
  obtain ⟨q1, q2⟩ := q
  have h2 : q1 = 1 := h1
  subst h2
  exact ⟨rfl, v0, (by show (E 32) = _; rfl)⟩
theorem rs_34 : (rjS J E lf 34).1 = 2 ∧ (rjS J E lf 34).2 0 = rtG J E 5 0 32 ∧ (rjS J E lf 34).2 1 = rtG J E 1 32 2 := by
  obtain ⟨h1, v0, v1⟩ := rs_33 J E lf
  rw [show rjS J E lf 34 = _ from rjS_s (e := 33)]
  generalize rjS J E lf 33 = q at *
  obtain ⟨q1, q2⟩ := q
  have h2 : q1 = 2 := h1
  subst h2
  exact ⟨rfl, v0, (by show (J (q2 1) (E 33)) = _; rw [show q2 1 = rtG J E 0 32 1 from v1]; rfl)⟩
theorem rs_35 : (rjS J E lf 35).1 = 3 ∧ (rjS J E lf 35).2 0 = rtG J E 5 0 32 ∧ (rjS J E lf 35).2 1 = rtG J E 1 32 2 ∧ (rjS J E lf 35).2 2 = rtG J E 0 34 1 := by
  obtain ⟨h1, v0, v1⟩ := rs_34 J E lf
  rw [show rjS J E lf 35 = _ from rjS_s (e := 34)]
  generalize rjS J E lf 34 = q at *
  obtain ⟨q1, q2⟩ := q
  have h2 : q1 = 2 := h1
  subst h2
  exact ⟨rfl, v0, v1, (by show (E 34) = _; rfl)⟩
theorem rs_36 : (rjS J E lf 36).1 = 2 ∧ (rjS J E lf 36).2 0 = rtG J E 5 0 32 ∧ (rjS J E lf 36).2 1 = rtG J E 2 32 4 := by
  obtain ⟨h1, v0, v1, v2⟩ := rs_35 J E lf
  rw [show rjS J E lf 36 = _ from rjS_s (e := 35)]
  generalize rjS J E lf 35 = q at *
  obtain ⟨q1, q2⟩ := q
  have h2 : q1 = 3 := h1
  subst h2
  exact ⟨rfl, v0, (by show (J (q2 1) (J (q2 2) (E 35))) = _; rw [show q2 2 = rtG J E 0 34 1 from v2, show q2 1 = rtG J E 1 32 2 from v1]; rfl)⟩
theorem rs_37 : (rjS J E lf 37).1 = 3 ∧ (rjS J E lf 37).2 0 = rtG J E 5 0 32 ∧ (rjS J E lf 37).2 1 = rtG J E 2 32 4 ∧ (rjS J E lf 37).2 2 = rtG J E 0 36 1 := by
  obtain ⟨h1, v0, v1⟩ := rs_36 J E lf
  rw [show rjS J E lf 37 = _ from rjS_s (e := 36)]
  generalize rjS J E lf 36 = q at *
  obtain ⟨q1, q2⟩ := q
  have h2 : q1 = 2 := h1
  subst h2
  exact ⟨rfl, v0, v1, (by show (E 36) = _; rfl)⟩
theorem rs_38 : (rjS J E lf 38).1 = 3 ∧ (rjS J E lf 38).2 0 = rtG J E 5 0 32 ∧ (rjS J E lf 38).2 1 = rtG J E 2 32 4 ∧ (rjS J E lf 38).2 2 = rtG J E 1 36 2 := by
  obtain ⟨h1, v0, v1, v2⟩ := rs_37 J E lf
  rw [show rjS J E lf 38 = _ from rjS_s (e := 37)]
  generalize rjS J E lf 37 = q at *
  obtain ⟨q1, q2⟩ := q
  have h2 : q1 = 3 := h1
  subst h2
  exact ⟨rfl, v0, v1, (by show (J (q2 2) (E 37)) = _; rw [show q2 2 = rtG J E 0 36 1 from v2]; rfl)⟩
theorem rs_39 : (rjS J E lf 39).1 = 4 ∧ (rjS J E lf 39).2 0 = rtG J E 5 0 32 ∧ (rjS J E lf 39).2 1 = rtG J E 2 32 4 ∧ (rjS J E lf 39).2 2 = rtG J E 1 36 2 ∧ (rjS J E lf 39).2 3 = rtG J E 0 38 1 := by
  obtain ⟨h1, v0, v1, v2⟩ := rs_38 J E lf
  rw [show rjS J E lf 39 = _ from rjS_s (e := 38)]
  generalize rjS J E lf 38 = q at *
  obtain ⟨q1, q2⟩ := q
  have h2 : q1 = 3 := h1
  subst h2
  exact ⟨rfl, v0, v1, v2, (by show (E 38) = _; rfl)⟩
theorem rs_40 : (rjS J E lf 40).1 = 2 ∧ (rjS J E lf 40).2 0 = rtG J E 5 0 32 ∧ (rjS J E lf 40).2 1 = rtG J E 3 32 8 := by
  obtain ⟨h1, v0, v1, v2, v3⟩ := rs_39 J E lf
  rw [show rjS J E lf 40 = _ from rjS_s (e := 39)]
  generalize rjS J E lf 39 = q at *
  obtain ⟨q1, q2⟩ := q
  have h2 : q1 = 4 := h1
  subst h2
  exact ⟨rfl, v0, (by show (J (q2 1) (J (q2 2) (J (q2 3) (E 39)))) = _; rw [show q2 3 = rtG J E 0 38 1 from v3, show q2 2 = rtG J E 1 36 2 from v2, show q2 1 = rtG J E 2 32 4 from v1]; rfl)⟩
theorem rj_1 : rjR J E lf 1 = rtG J E 6 0 1 := by
  obtain ⟨h1, v0⟩ := rs_1 J E lf
  unfold rjR; generalize rjS J E lf 1 = q at *; obtain ⟨q1, q2⟩ := q
  have h2 : q1 = 1 := h1; subst h2
  show (q2 0) = _
  rw [show q2 0 = rtG J E 0 0 1 from v0]; rfl
theorem rj_2 : rjR J E lf 2 = rtG J E 6 0 2 := by
  obtain ⟨h1, v0⟩ := rs_2 J E lf
  unfold rjR; generalize rjS J E lf 2 = q at *; obtain ⟨q1, q2⟩ := q
  have h2 : q1 = 1 := h1; subst h2
  show (q2 0) = _
  rw [show q2 0 = rtG J E 1 0 2 from v0]; rfl
theorem rj_3 : rjR J E lf 3 = rtG J E 6 0 3 := by
  obtain ⟨h1, v0, v1⟩ := rs_3 J E lf
  unfold rjR; generalize rjS J E lf 3 = q at *; obtain ⟨q1, q2⟩ := q
  have h2 : q1 = 2 := h1; subst h2
  show (J (q2 0) (q2 1)) = _
  rw [show q2 0 = rtG J E 1 0 2 from v0, show q2 1 = rtG J E 0 2 1 from v1]; rfl
theorem rj_4 : rjR J E lf 4 = rtG J E 6 0 4 := by
  obtain ⟨h1, v0⟩ := rs_4 J E lf
  unfold rjR; generalize rjS J E lf 4 = q at *; obtain ⟨q1, q2⟩ := q
  have h2 : q1 = 1 := h1; subst h2
  show (q2 0) = _
  rw [show q2 0 = rtG J E 2 0 4 from v0]; rfl
theorem rj_5 : rjR J E lf 5 = rtG J E 6 0 5 := by
  obtain ⟨h1, v0, v1⟩ := rs_5 J E lf
  unfold rjR; generalize rjS J E lf 5 = q at *; obtain ⟨q1, q2⟩ := q
  have h2 : q1 = 2 := h1; subst h2
  show (J (q2 0) (q2 1)) = _
  rw [show q2 0 = rtG J E 2 0 4 from v0, show q2 1 = rtG J E 0 4 1 from v1]; rfl
theorem rj_6 : rjR J E lf 6 = rtG J E 6 0 6 := by
  obtain ⟨h1, v0, v1⟩ := rs_6 J E lf
  unfold rjR; generalize rjS J E lf 6 = q at *; obtain ⟨q1, q2⟩ := q
  have h2 : q1 = 2 := h1; subst h2
  show (J (q2 0) (q2 1)) = _
  rw [show q2 0 = rtG J E 2 0 4 from v0, show q2 1 = rtG J E 1 4 2 from v1]; rfl
theorem rj_7 : rjR J E lf 7 = rtG J E 6 0 7 := by
  obtain ⟨h1, v0, v1, v2⟩ := rs_7 J E lf
  unfold rjR; generalize rjS J E lf 7 = q at *; obtain ⟨q1, q2⟩ := q
  have h2 : q1 = 3 := h1; subst h2
  show (J (q2 0) (J (q2 1) (q2 2))) = _
  rw [show q2 0 = rtG J E 2 0 4 from v0, show q2 1 = rtG J E 1 4 2 from v1, show q2 2 = rtG J E 0 6 1 from v2]; rfl
theorem rj_8 : rjR J E lf 8 = rtG J E 6 0 8 := by
  obtain ⟨h1, v0⟩ := rs_8 J E lf
  unfold rjR; generalize rjS J E lf 8 = q at *; obtain ⟨q1, q2⟩ := q
  have h2 : q1 = 1 := h1; subst h2
  show (q2 0) = _
  rw [show q2 0 = rtG J E 3 0 8 from v0]; rfl
theorem rj_9 : rjR J E lf 9 = rtG J E 6 0 9 := by
  obtain ⟨h1, v0, v1⟩ := rs_9 J E lf
  unfold rjR; generalize rjS J E lf 9 = q at *; obtain ⟨q1, q2⟩ := q
  have h2 : q1 = 2 := h1; subst h2
  show (J (q2 0) (q2 1)) = _
  rw [show q2 0 = rtG J E 3 0 8 from v0, show q2 1 = rtG J E 0 8 1 from v1]; rfl
theorem rj_10 : rjR J E lf 10 = rtG J E 6 0 10 := by
  obtain ⟨h1, v0, v1⟩ := rs_10 J E lf
  unfold rjR; generalize rjS J E lf 10 = q at *; obtain ⟨q1, q2⟩ := q
  have h2 : q1 = 2 := h1; subst h2
  show (J (q2 0) (q2 1)) = _
  rw [show q2 0 = rtG J E 3 0 8 from v0, show q2 1 = rtG J E 1 8 2 from v1]; rfl
theorem rj_11 : rjR J E lf 11 = rtG J E 6 0 11 := by
  obtain ⟨h1, v0, v1, v2⟩ := rs_11 J E lf
  unfold rjR; generalize rjS J E lf 11 = q at *; obtain ⟨q1, q2⟩ := q
  have h2 : q1 = 3 := h1; subst h2
  show (J (q2 0) (J (q2 1) (q2 2))) = _
  rw [show q2 0 = rtG J E 3 0 8 from v0, show q2 1 = rtG J E 1 8 2 from v1, show q2 2 = rtG J E 0 10 1 from v2]; rfl
theorem rj_12 : rjR J E lf 12 = rtG J E 6 0 12 := by
  obtain ⟨h1, v0, v1⟩ := rs_12 J E lf
  unfold rjR; generalize rjS J E lf 12 = q at *; obtain ⟨q1, q2⟩ := q
  have h2 : q1 = 2 := h1; subst h2
  show (J (q2 0) (q2 1)) = _
  rw [show q2 0 = rtG J E 3 0 8 from v0, show q2 1 = rtG J E 2 8 4 from v1]; rfl
theorem rj_13 : rjR J E lf 13 = rtG J E 6 0 13 := by
  obtain ⟨h1, v0, v1, v2⟩ := rs_13 J E lf
  unfold rjR; generalize rjS J E lf 13 = q at *; obtain ⟨q1, q2⟩ := q
  have h2 : q1 = 3 := h1; subst h2
  show (J (q2 0) (J (q2 1) (q2 2))) = _
  rw [show q2 0 = rtG J E 3 0 8 from v0, show q2 1 = rtG J E 2 8 4 from v1, show q2 2 = rtG J E 0 12 1 from v2]; rfl
theorem rj_14 : rjR J E lf 14 = rtG J E 6 0 14 := by
  obtain ⟨h1, v0, v1, v2⟩ := rs_14 J E lf
  unfold rjR; generalize rjS J E lf 14 = q at *; obtain ⟨q1, q2⟩ := q
  have h2 : q1 = 3 := h1; subst h2
  show (J (q2 0) (J (q2 1) (q2 2))) = _
  rw [show q2 0 = rtG J E 3 0 8 from v0, show q2 1 = rtG J E 2 8 4 from v1, show q2 2 = rtG J E 1 12 2 from v2]; rfl
theorem rj_15 : rjR J E lf 15 = rtG J E 6 0 15 := by
  obtain ⟨h1, v0, v1, v2, v3⟩ := rs_15 J E lf
  unfold rjR; generalize rjS J E lf 15 = q at *; obtain ⟨q1, q2⟩ := q
  have h2 : q1 = 4 := h1; subst h2
  show (J (q2 0) (J (q2 1) (J (q2 2) (q2 3)))) = _
  rw [show q2 0 = rtG J E 3 0 8 from v0, show q2 1 = rtG J E 2 8 4 from v1, show q2 2 = rtG J E 1 12 2 from v2, show q2 3 = rtG J E 0 14 1 from v3]; rfl
theorem rj_16 : rjR J E lf 16 = rtG J E 6 0 16 := by
  obtain ⟨h1, v0⟩ := rs_16 J E lf
  unfold rjR; generalize rjS J E lf 16 = q at *; obtain ⟨q1, q2⟩ := q
  have h2 : q1 = 1 := h1; subst h2
  show (q2 0) = _
  rw [show q2 0 = rtG J E 4 0 16 from v0]; rfl
theorem rj_17 : rjR J E lf 17 = rtG J E 6 0 17 := by
  obtain ⟨h1, v0, v1⟩ := rs_17 J E lf
  unfold rjR; generalize rjS J E lf 17 = q at *; obtain ⟨q1, q2⟩ := q
  have h2 : q1 = 2 := h1; subst h2
  show (J (q2 0) (q2 1)) = _
  rw [show q2 0 = rtG J E 4 0 16 from v0, show q2 1 = rtG J E 0 16 1 from v1]; rfl
theorem rj_18 : rjR J E lf 18 = rtG J E 6 0 18 := by
  obtain ⟨h1, v0, v1⟩ := rs_18 J E lf
  unfold rjR; generalize rjS J E lf 18 = q at *; obtain ⟨q1, q2⟩ := q
  have h2 : q1 = 2 := h1; subst h2
  show (J (q2 0) (q2 1)) = _
  rw [show q2 0 = rtG J E 4 0 16 from v0, show q2 1 = rtG J E 1 16 2 from v1]; rfl
theorem rj_19 : rjR J E lf 19 = rtG J E 6 0 19 := by
  obtain ⟨h1, v0, v1, v2⟩ := rs_19 J E lf
  unfold rjR; generalize rjS J E lf 19 = q at *; obtain ⟨q1, q2⟩ := q
  have h2 : q1 = 3 := h1; subst h2
  show (J (q2 0) (J (q2 1) (q2 2))) = _
  rw [show q2 0 = rtG J E 4 0 16 from v0, show q2 1 = rtG J E 1 16 2 from v1, show q2 2 = rtG J E 0 18 1 from v2]; rfl
theorem rj_20 : rjR J E lf 20 = rtG J E 6 0 20 := by
  obtain ⟨h1, v0, v1⟩ := rs_20 J E lf
  unfold rjR; generalize rjS J E lf 20 = q at *; obtain ⟨q1, q2⟩ := q
  have h2 : q1 = 2 := h1; subst h2
  show (J (q2 0) (q2 1)) = _
  rw [show q2 0 = rtG J E 4 0 16 from v0, show q2 1 = rtG J E 2 16 4 from v1]; rfl
theorem rj_21 : rjR J E lf 21 = rtG J E 6 0 21 := by
  obtain ⟨h1, v0, v1, v2⟩ := rs_21 J E lf
  unfold rjR; generalize rjS J E lf 21 = q at *; obtain ⟨q1, q2⟩ := q
  have h2 : q1 = 3 := h1; subst h2
  show (J (q2 0) (J (q2 1) (q2 2))) = _
  rw [show q2 0 = rtG J E 4 0 16 from v0, show q2 1 = rtG J E 2 16 4 from v1, show q2 2 = rtG J E 0 20 1 from v2]; rfl
theorem rj_22 : rjR J E lf 22 = rtG J E 6 0 22 := by
  obtain ⟨h1, v0, v1, v2⟩ := rs_22 J E lf
  unfold rjR; generalize rjS J E lf 22 = q at *; obtain ⟨q1, q2⟩ := q
  have h2 : q1 = 3 := h1; subst h2
  show (J (q2 0) (J (q2 1) (q2 2))) = _
  rw [show q2 0 = rtG J E 4 0 16 from v0, show q2 1 = rtG J E 2 16 4 from v1, show q2 2 = rtG J E 1 20 2 from v2]; rfl
theorem rj_23 : rjR J E lf 23 = rtG J E 6 0 23 := by
  obtain ⟨h1, v0, v1, v2, v3⟩ := rs_23 J E lf
  unfold rjR; generalize rjS J E lf 23 = q at *; obtain ⟨q1, q2⟩ := q
  have h2 : q1 = 4 := h1; subst h2
  show (J (q2 0) (J (q2 1) (J (q2 2) (q2 3)))) = _
  rw [show q2 0 = rtG J E 4 0 16 from v0, show q2 1 = rtG J E 2 16 4 from v1, show q2 2 = rtG J E 1 20 2 from v2, show q2 3 = rtG J E 0 22 1 from v3]; rfl
theorem rj_24 : rjR J E lf 24 = rtG J E 6 0 24 := by
  obtain ⟨h1, v0, v1⟩ := rs_24 J E lf
  unfold rjR; generalize rjS J E lf 24 = q at *; obtain ⟨q1, q2⟩ := q
  have h2 : q1 = 2 := h1; subst h2
  show (J (q2 0) (q2 1)) = _
  rw [show q2 0 = rtG J E 4 0 16 from v0, show q2 1 = rtG J E 3 16 8 from v1]; rfl
theorem rj_25 : rjR J E lf 25 = rtG J E 6 0 25 := by
  obtain ⟨h1, v0, v1, v2⟩ := rs_25 J E lf
  unfold rjR; generalize rjS J E lf 25 = q at *; obtain ⟨q1, q2⟩ := q
  have h2 : q1 = 3 := h1; subst h2
  show (J (q2 0) (J (q2 1) (q2 2))) = _
  rw [show q2 0 = rtG J E 4 0 16 from v0, show q2 1 = rtG J E 3 16 8 from v1, show q2 2 = rtG J E 0 24 1 from v2]; rfl
theorem rj_26 : rjR J E lf 26 = rtG J E 6 0 26 := by
  obtain ⟨h1, v0, v1, v2⟩ := rs_26 J E lf
  unfold rjR; generalize rjS J E lf 26 = q at *; obtain ⟨q1, q2⟩ := q
  have h2 : q1 = 3 := h1; subst h2
  show (J (q2 0) (J (q2 1) (q2 2))) = _
  rw [show q2 0 = rtG J E 4 0 16 from v0, show q2 1 = rtG J E 3 16 8 from v1, show q2 2 = rtG J E 1 24 2 from v2]; rfl
theorem rj_27 : rjR J E lf 27 = rtG J E 6 0 27 := by
  obtain ⟨h1, v0, v1, v2, v3⟩ := rs_27 J E lf
  unfold rjR; generalize rjS J E lf 27 = q at *; obtain ⟨q1, q2⟩ := q
  have h2 : q1 = 4 := h1; subst h2
  show (J (q2 0) (J (q2 1) (J (q2 2) (q2 3)))) = _
  rw [show q2 0 = rtG J E 4 0 16 from v0, show q2 1 = rtG J E 3 16 8 from v1, show q2 2 = rtG J E 1 24 2 from v2, show q2 3 = rtG J E 0 26 1 from v3]; rfl
theorem rj_28 : rjR J E lf 28 = rtG J E 6 0 28 := by
  obtain ⟨h1, v0, v1, v2⟩ := rs_28 J E lf
  unfold rjR; generalize rjS J E lf 28 = q at *; obtain ⟨q1, q2⟩ := q
  have h2 : q1 = 3 := h1; subst h2
  show (J (q2 0) (J (q2 1) (q2 2))) = _
  rw [show q2 0 = rtG J E 4 0 16 from v0, show q2 1 = rtG J E 3 16 8 from v1, show q2 2 = rtG J E 2 24 4 from v2]; rfl
theorem rj_29 : rjR J E lf 29 = rtG J E 6 0 29 := by
  obtain ⟨h1, v0, v1, v2, v3⟩ := rs_29 J E lf
  unfold rjR; generalize rjS J E lf 29 = q at *; obtain ⟨q1, q2⟩ := q
  have h2 : q1 = 4 := h1; subst h2
  show (J (q2 0) (J (q2 1) (J (q2 2) (q2 3)))) = _
  rw [show q2 0 = rtG J E 4 0 16 from v0, show q2 1 = rtG J E 3 16 8 from v1, show q2 2 = rtG J E 2 24 4 from v2, show q2 3 = rtG J E 0 28 1 from v3]; rfl
theorem rj_30 : rjR J E lf 30 = rtG J E 6 0 30 := by
  obtain ⟨h1, v0, v1, v2, v3⟩ := rs_30 J E lf
  unfold rjR; generalize rjS J E lf 30 = q at *; obtain ⟨q1, q2⟩ := q
  have h2 : q1 = 4 := h1; subst h2
  show (J (q2 0) (J (q2 1) (J (q2 2) (q2 3)))) = _
  rw [show q2 0 = rtG J E 4 0 16 from v0, show q2 1 = rtG J E 3 16 8 from v1, show q2 2 = rtG J E 2 24 4 from v2, show q2 3 = rtG J E 1 28 2 from v3]; rfl
theorem rj_31 : rjR J E lf 31 = rtG J E 6 0 31 := by
  obtain ⟨h1, v0, v1, v2, v3, v4⟩ := rs_31 J E lf
  unfold rjR; generalize rjS J E lf 31 = q at *; obtain ⟨q1, q2⟩ := q
  have h2 : q1 = 5 := h1; subst h2
  show (J (q2 0) (J (q2 1) (J (q2 2) (J (q2 3) (q2 4))))) = _
  rw [show q2 0 = rtG J E 4 0 16 from v0, show q2 1 = rtG J E 3 16 8 from v1, show q2 2 = rtG J E 2 24 4 from v2, show q2 3 = rtG J E 1 28 2 from v3, show q2 4 = rtG J E 0 30 1 from v4]; rfl
theorem rj_32 : rjR J E lf 32 = rtG J E 6 0 32 := by
  obtain ⟨h1, v0⟩ := rs_32 J E lf
  unfold rjR; generalize rjS J E lf 32 = q at *; obtain ⟨q1, q2⟩ := q
  have h2 : q1 = 1 := h1; subst h2
  show (q2 0) = _
  rw [show q2 0 = rtG J E 5 0 32 from v0]; rfl
theorem rj_33 : rjR J E lf 33 = rtG J E 6 0 33 := by
  obtain ⟨h1, v0, v1⟩ := rs_33 J E lf
  unfold rjR; generalize rjS J E lf 33 = q at *; obtain ⟨q1, q2⟩ := q
  have h2 : q1 = 2 := h1; subst h2
  show (J (q2 0) (q2 1)) = _
  rw [show q2 0 = rtG J E 5 0 32 from v0, show q2 1 = rtG J E 0 32 1 from v1]; rfl
theorem rj_34 : rjR J E lf 34 = rtG J E 6 0 34 := by
  obtain ⟨h1, v0, v1⟩ := rs_34 J E lf
  unfold rjR; generalize rjS J E lf 34 = q at *; obtain ⟨q1, q2⟩ := q
  have h2 : q1 = 2 := h1; subst h2
  show (J (q2 0) (q2 1)) = _
  rw [show q2 0 = rtG J E 5 0 32 from v0, show q2 1 = rtG J E 1 32 2 from v1]; rfl
theorem rj_35 : rjR J E lf 35 = rtG J E 6 0 35 := by
  obtain ⟨h1, v0, v1, v2⟩ := rs_35 J E lf
  unfold rjR; generalize rjS J E lf 35 = q at *; obtain ⟨q1, q2⟩ := q
  have h2 : q1 = 3 := h1; subst h2
  show (J (q2 0) (J (q2 1) (q2 2))) = _
  rw [show q2 0 = rtG J E 5 0 32 from v0, show q2 1 = rtG J E 1 32 2 from v1, show q2 2 = rtG J E 0 34 1 from v2]; rfl
theorem rj_36 : rjR J E lf 36 = rtG J E 6 0 36 := by
  obtain ⟨h1, v0, v1⟩ := rs_36 J E lf
  unfold rjR; generalize rjS J E lf 36 = q at *; obtain ⟨q1, q2⟩ := q
  have h2 : q1 = 2 := h1; subst h2
  show (J (q2 0) (q2 1)) = _
  rw [show q2 0 = rtG J E 5 0 32 from v0, show q2 1 = rtG J E 2 32 4 from v1]; rfl
theorem rj_37 : rjR J E lf 37 = rtG J E 6 0 37 := by
  obtain ⟨h1, v0, v1, v2⟩ := rs_37 J E lf
  unfold rjR; generalize rjS J E lf 37 = q at *; obtain ⟨q1, q2⟩ := q
  have h2 : q1 = 3 := h1; subst h2
  show (J (q2 0) (J (q2 1) (q2 2))) = _
  rw [show q2 0 = rtG J E 5 0 32 from v0, show q2 1 = rtG J E 2 32 4 from v1, show q2 2 = rtG J E 0 36 1 from v2]; rfl
theorem rj_38 : rjR J E lf 38 = rtG J E 6 0 38 := by
  obtain ⟨h1, v0, v1, v2⟩ := rs_38 J E lf
  unfold rjR; generalize rjS J E lf 38 = q at *; obtain ⟨q1, q2⟩ := q
  have h2 : q1 = 3 := h1; subst h2
  show (J (q2 0) (J (q2 1) (q2 2))) = _
  rw [show q2 0 = rtG J E 5 0 32 from v0, show q2 1 = rtG J E 2 32 4 from v1, show q2 2 = rtG J E 1 36 2 from v2]; rfl
theorem rj_39 : rjR J E lf 39 = rtG J E 6 0 39 := by
  obtain ⟨h1, v0, v1, v2, v3⟩ := rs_39 J E lf
  unfold rjR; generalize rjS J E lf 39 = q at *; obtain ⟨q1, q2⟩ := q
  have h2 : q1 = 4 := h1; subst h2
  show (J (q2 0) (J (q2 1) (J (q2 2) (q2 3)))) = _
  rw [show q2 0 = rtG J E 5 0 32 from v0, show q2 1 = rtG J E 2 32 4 from v1, show q2 2 = rtG J E 1 36 2 from v2, show q2 3 = rtG J E 0 38 1 from v3]; rfl
theorem rj_40 : rjR J E lf 40 = rtG J E 6 0 40 := by
  obtain ⟨h1, v0, v1⟩ := rs_40 J E lf
  unfold rjR; generalize rjS J E lf 40 = q at *; obtain ⟨q1, q2⟩ := q
  have h2 : q1 = 2 := h1; subst h2
  show (J (q2 0) (q2 1)) = _
  rw [show q2 0 = rtG J E 5 0 32 from v0, show q2 1 = rtG J E 3 32 8 from v1]; rfl
theorem rjR_rt (n : Nat) (h1 : 1 ≤ n) (h2 : n ≤ 40) : rjR J E lf n = rtG J E 6 0 n := by
  have h : n = 1 ∨ n = 2 ∨ n = 3 ∨ n = 4 ∨ n = 5 ∨ n = 6 ∨ n = 7 ∨ n = 8 ∨ n = 9 ∨ n = 10 ∨ n = 11 ∨ n = 12 ∨ n = 13 ∨ n = 14 ∨ n = 15 ∨ n = 16 ∨ n = 17 ∨ n = 18 ∨ n = 19 ∨ n = 20 ∨ n = 21 ∨ n = 22 ∨ n = 23 ∨ n = 24 ∨ n = 25 ∨ n = 26 ∨ n = 27 ∨ n = 28 ∨ n = 29 ∨ n = 30 ∨ n = 31 ∨ n = 32 ∨ n = 33 ∨ n = 34 ∨ n = 35 ∨ n = 36 ∨ n = 37 ∨ n = 38 ∨ n = 39 ∨ n = 40 := by omega
  rcases h with rfl | rfl | rfl | rfl | rfl | rfl | rfl | rfl | rfl | rfl | rfl | rfl | rfl | rfl | rfl | rfl | rfl | rfl | rfl | rfl | rfl | rfl | rfl | rfl | rfl | rfl | rfl | rfl | rfl | rfl | rfl | rfl | rfl | rfl | rfl | rfl | rfl | rfl | rfl | rfl
  · exact rj_1 J E lf
  · exact rj_2 J E lf
  · exact rj_3 J E lf
  · exact rj_4 J E lf
  · exact rj_5 J E lf
  · exact rj_6 J E lf
  · exact rj_7 J E lf
  · exact rj_8 J E lf
  · exact rj_9 J E lf
  · exact rj_10 J E lf
  · exact rj_11 J E lf
  · exact rj_12 J E lf
  · exact rj_13 J E lf
  · exact rj_14 J E lf
  · exact rj_15 J E lf
  · exact rj_16 J E lf
  · exact rj_17 J E lf
  · exact rj_18 J E lf
  · exact rj_19 J E lf
  · exact rj_20 J E lf
  · exact rj_21 J E lf
  · exact rj_22 J E lf
  · exact rj_23 J E lf
  · exact rj_24 J E lf
  · exact rj_25 J E lf
  · exact rj_26 J E lf
  · exact rj_27 J E lf
  · exact rj_28 J E lf
  · exact rj_29 J E lf
  · exact rj_30 J E lf
  · exact rj_31 J E lf
  · exact rj_32 J E lf
  · exact rj_33 J E lf
  · exact rj_34 J E lf
  · exact rj_35 J E lf
  · exact rj_36 J E lf
  · exact rj_37 J E lf
  · exact rj_38 J E lf
  · exact rj_39 J E lf
  · exact rj_40 J E lf
end RJ
