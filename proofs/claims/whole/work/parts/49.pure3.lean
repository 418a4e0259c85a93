/-! joining as entries come gives what dividing gives -/
def rtG (J : Int64 → Int64 → Int64) (E : Nat → Int64) : Nat → Nat → Nat → Int64
  | 0, f, _ => E f
  | d + 1, f, sz => if decide (sz = 1) then E f else J (rtG J E d f (spl sz)) (rtG J E d (f + spl sz) (sz - spl sz))
theorem rt_G (κ : CS) : ∀ d f sz, rt κ d f sz = rtG jn (ent κ) d f sz
  | 0, _, _ => rfl
  | d + 1, f, sz => by
    show (if decide (sz = 1) then ent κ f else jn (rt κ d f (spl sz)) (rt κ d (f + spl sz) (sz - spl sz))) = (if decide (sz = 1) then ent κ f else jn (rtG jn (ent κ) d f (spl sz)) (rtG jn (ent κ) d (f + spl sz) (sz - spl sz)))
    rw [rt_G κ d f, rt_G κ d (f + spl sz)]
def rjR (J : Int64 → Int64 → Int64) (E lf : Nat → Int64) (n : Nat) : Int64 := rfF J (rjS J E lf n).2 ((rjS J E lf n).1 - 1) ((rjS J E lf n).2 ((rjS J E lf n).1 - 1))
theorem rj_1 (J : Int64 → Int64 → Int64) (E lf : Nat → Int64) : rjR J E lf 1 = rtG J E 6 0 1 := rfl
theorem rj_2 (J : Int64 → Int64 → Int64) (E lf : Nat → Int64) : rjR J E lf 2 = rtG J E 6 0 2 := rfl
theorem rj_5 (J : Int64 → Int64 → Int64) (E lf : Nat → Int64) : rjR J E lf 5 = rtG J E 6 0 5 := rfl
