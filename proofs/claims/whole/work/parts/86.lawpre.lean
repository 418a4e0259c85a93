/-! the cases of the law: what they share -/
theorem AP_cv {ad : Nat → Nat → Nat} {κ1 : CS} {c0 c1 : Nat} {v0 v1 : Int64} {r : Int32} {u : US} (h : AP ad κ1 c0 v0 r u) (h1 : c0 = c1) (h2 : c1 = 0 → v0 = v1) : AP ad κ1 c1 v1 r u := by
  subst h1
  exact ⟨h.1, h.2.1, fun q => (h.2.2.1 q).trans (h2 q), h.2.2.2⟩
theorem if_dt {α : Type} {b : Bool} {x y : α} (h : b = true) : x = (if b then x else y) := by rw [if_pos h]
theorem prS_v {κ : CS} {xe xs : Int32} {pr : PT} {rm : Nat} {row : Nat → Int64} (q : (opPrS κ xe xs rm row).1 = 0) (hn : κ.2.2.1 0 ≤ 40) : nI (dsP κ xe xs pr).2.2 = (opPrS κ xe xs rm row).2 := by
  have q' : prC κ xe xs = 0 := q
  exact (congrArg nI (pr_eq pr rm row q' hn).1).trans (if_dt (x := nI (prQ κ xe xs rm row).1) (y := nI 0) (decide_eq_true q'))
theorem grS_v {κ : CS} {xe xs : Int32} {pr : PT} {rm : Nat} {row : Nat → Int64} (q : (opGrS κ xe xs rm row).1 = 0) (hn : κ.2.2.1 0 ≤ 40) : nI (dsG κ xe xs pr).2.2 = (opGrS κ xe xs rm row).2 := by
  have q' : grC κ xe xs = 0 := q
  exact (congrArg nI (gr_eq pr rm row q' hn).1).trans (if_dt (x := nI (grQ κ xe xs rm row).1) (y := nI 0) (decide_eq_true q'))
theorem prR_v {κ : CS} {xe xs : Int32} {pr : PT} (q : (opPrR κ xe xs).1 = 0) (hn : κ.2.2.1 0 ≤ 40) : rfP jn (dsP κ xe xs pr) (dsP κ xe xs pr).2.2 (ent κ (xj xe)) = (opPrR κ xe xs).2 := by
  have q' : prC κ xe xs = 0 := q
  exact (pr_root pr q' hn).trans (if_dt (x := rt κ 6 0 (xj xs)) (y := 0) (decide_eq_true q'))
theorem snd_0 {κ : CS} (h : (opSound κ).1 = 0) : ¬ κ.2.2.1 0 = 0 := fun q => by rw [sound_1 q] at h; exact absurd h (by decide)
theorem dcmp_ok : ∀ a, a < 41 → ∀ b, b < 41 → b ≠ 0 → Op.cmpValue (FP.dcmp (FP.f2d (FP.fdiv (FP.i2f (nI a)) (FP.i2f (nI b)))) (FP.f2d (FP.fdiv (FP.i2f (nI a)) (FP.i2f (nI b))))) .l = 0 := by
  have h : ∀ a : Fin 41, ∀ b : Fin 41, b.val ≠ 0 → Op.cmpValue (FP.dcmp (FP.f2d (FP.fdiv (FP.i2f (nI a.val)) (FP.i2f (nI b.val)))) (FP.f2d (FP.fdiv (FP.i2f (nI a.val)) (FP.i2f (nI b.val))))) .l = 0 := by decide +kernel
  exact fun a ha b hb h0 => h ⟨a, ha⟩ ⟨b, hb⟩ h0
theorem snd_cmp {κ : CS} (h : ¬ κ.2.2.1 0 = 0) (hn : κ.2.2.1 0 ≤ 40) : Op.cmpValue (FP.dcmp (FP.f2d (opSound κ).2) (FP.f2d (opSound κ).2)) .l = 0 := by
  rw [sound_0 h]
  have := cnt_le (sndB κ) (κ.2.2.1 0)
  exact dcmp_ok _ (by omega) _ (by omega) h
section DY
variable {κ : CS} {X : XT} {cs : Nat → CT}
theorem dy_root (h : IV κ X) (hw : WV κ cs) (hk : κ.2.2.1 1 ≤ κ.2.2.1 0) (hd : κ.2.2.1 2 + 999 < 2147483648) {nm dy ln : Int32} : (opMakeRoot κ nm dy ln).2.2.2.2.1 2 ≤ κ.2.2.1 2 + 999 := by
  by_cases q : (opMakeRoot κ nm dy ln).1 = 0
  · obtain ⟨_, _, _, e⟩ := mk_root h hw hk (by omega) q; omega
  · rw [no_root q]; omega
theorem dy_issue (h : IV κ X) (hw : WV κ cs) (hk : κ.2.2.1 1 ≤ κ.2.2.1 0) (hd : κ.2.2.1 2 + 999 < 2147483648) {xc nm dy : Int32} : (opIssue κ xc nm dy).2.2.2.2.1 2 ≤ κ.2.2.1 2 + 999 := by
  by_cases q : (opIssue κ xc nm dy).1 = 0
  · obtain ⟨_, _, _, e⟩ := mk_issue h hw hk (by omega) q; omega
  · rw [no_issue q]; omega
theorem dy_issueA (h : IV κ X) (hw : WV κ cs) (hk : κ.2.2.1 1 ≤ κ.2.2.1 0) (hd : κ.2.2.1 2 + 999 < 2147483648) {xc nm dy ln : Int32} : (opIssueA κ xc nm dy ln).2.2.2.2.1 2 ≤ κ.2.2.1 2 + 999 := by
  by_cases q : (opIssueA κ xc nm dy ln).1 = 0
  · obtain ⟨_, _, _, e⟩ := mk_issueA h hw hk (by omega) q; omega
  · rw [no_issueA q]; omega
theorem dy_cross (h : IV κ X) (hw : WV κ cs) (hk : κ.2.2.1 1 ≤ κ.2.2.1 0) (hd : κ.2.2.1 2 + 999 < 2147483648) {xc xs dy ln : Int32} : (opCross κ xc xs dy ln).2.2.2.2.1 2 ≤ κ.2.2.1 2 + 999 := by
  by_cases q : (opCross κ xc xs dy ln).1 = 0
  · obtain ⟨_, _, _, e⟩ := mk_cross h hw hk (by omega) q; omega
  · rw [no_cross q]; omega
end DY
section DY2
variable {κ : CS}
theorem dy_setNames {xc xp xe : Int32} : (opSetNames κ xc xp xe).2.2.2.2.1 2 ≤ κ.2.2.1 2 + 999 := by rw [op_same.1 xc xp xe]; omega
theorem dy_trust {xc : Int32} {b : Bool} : (opTrust κ xc b).2.2.2.2.1 2 ≤ κ.2.2.1 2 + 999 := by rw [op_same.2.1 xc b]; omega
theorem dy_revoke {xc : Int32} : (opRevoke κ xc).2.2.2.2.1 2 ≤ κ.2.2.1 2 + 999 := by rw [op_same.2.2 xc]; omega
theorem dy_publish {xc : Int32} : (opPublish κ xc).2.2.2.2.1 2 ≤ κ.2.2.1 2 + 999 := by rw [publish_same xc]; omega
theorem dy_begin (hn : κ.2.2.1 0 ≤ 40) {xc dy : Int32} : (opBegin κ xc dy).2.2.2.2.1 2 ≤ κ.2.2.1 2 + 999 := by
  rcases opBegin_c (κ := κ) (xc := xc) (dy := dy) hn with ⟨e, _⟩ | ⟨j, hj, e, _⟩
  · rw [e]; omega
  · rw [e]; exact Nat.le_add_right _ _
theorem dy_step {rk : Int32} : (opStep κ rk).2.2.2.2.1 2 ≤ κ.2.2.1 2 + 999 := by
  rcases opStep_c (κ := κ) (rk := rk) with ⟨e, _⟩ | ⟨k, _, _, _, e, _⟩
  · rw [e]; omega
  · rw [e]; exact Nat.le_add_right _ _
end DY2
/-- from the end of a case on -/
abbrev NX (p : Program) (l : Launch) (e : Env) (s : State) (m : MethodId) (args : Array Value) (below : List Frame) (meth : Method) (c : Code) (D : va_G) (g : Nat → ClassId) (A : Nat → Prop) (Q : State → Prop) (cells slots N x : Nat) (am : Nat → Nat) (b o1 o2 i : Nat) : Prop :=
  ∀ (ad : Nat → Nat → Nat) (κ : CS) (X : XT) (cs : Nat → CT) (lf : Nat → Int64) (pr : PT) (f1 : Nat → Int64) (th : Int32) (ch : Nat → Nat) (cm rm : Nat) (row : Nat → Int64) (f2 : Nat → UInt64), ad 0 0 = x → INV κ X cs → κ.2.2.1 2 ≤ N → J p l e room_1 s m args below meth c D A 9 Q cells slots (wW g ad κ X cs lf pr o1 f1 am κ th ch cm rm row o2 f2) (LL b x (am 0) o1 o2 i) 2627 []
