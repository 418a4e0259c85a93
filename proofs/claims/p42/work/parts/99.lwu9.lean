/-! the law's own end: each error by itself; and what else it needs -/
section ERR
variable {κ : CS}
theorem inR_n (hn : κ.2.2.1 0 ≤ 40) : inR (κ.2.2.1 0) (nI (κ.2.2.1 0)) = false := by rw [inR_nI (by omega)]; exact decide_eq_false (Nat.lt_irrefl _)
theorem inR_0 (h1 : 1 ≤ κ.2.2.1 0) : inR (κ.2.2.1 0) (nI 0) = true := by rw [inR_nI (by omega)]; exact decide_eq_true h1
theorem inR_m : inR (κ.2.2.1 0) (-1) = false := inR_neg (by decide)
theorem e_begin_n (hn : κ.2.2.1 0 ≤ 40) : opBegin κ (nI (κ.2.2.1 0)) (nI 0) = (1, nI 0, κ) := by
  have e : wrongC κ (nI (κ.2.2.1 0)) (nI 0) = 1 := by unfold wrongC; rw [inR_n hn]; rfl
  unfold opBegin; rw [e]; rfl
theorem e_begin_0 (h1 : 1 ≤ κ.2.2.1 0) : opBegin κ (nI 0) (-1) = (2, nI 0, κ) := by
  have e : wrongC κ (nI 0) (-1) = 2 := by unfold wrongC; rw [inR_0 h1, decide_eq_true (show (-1 : Int32) < 0 by decide)]; rfl
  unfold opBegin; rw [e]; rfl
theorem e_size {X : XT} (hV : IV κ X) {t b : CT} (ht : ShC κ t) (hb : ShC κ b) : adI (ocS κ X t b (-1) (nI 0)).1 (ocS κ X t b (-1) (nI 0)).2 = -900001 := by
  have e : wrongC κ (-1) (nI 0) = 1 := by unfold wrongC; rw [inR_m]; rfl
  rw [oc_S hV.2.2.2.1 hV.1 hV.2.1 hV.2.2.1 ht hb (fun _ => 0)]; unfold opChainSize; rw [e]; rfl
theorem e_good {X : XT} (hV : IV κ X) {t : CT} (ht : ShC κ t) (h1 : 1 ≤ κ.2.2.1 0) : adI (ocG κ X t (nI 0) (-1)).1 (ocG κ X t (nI 0) (-1)).2 = -900002 := by
  have e : wrongC κ (nI 0) (-1) = 2 := by unfold wrongC; rw [inR_0 h1, decide_eq_true (show (-1 : Int32) < 0 by decide)]; rfl
  rw [oc_G hV.2.2.2.1 hV.1 hV.2.1 hV.2.2.1 ht (fun _ => 0)]; unfold opGood; rw [e]; rfl
theorem e_issue_n (hn : κ.2.2.1 0 ≤ 40) : opIssue κ (nI (κ.2.2.1 0)) (nI 1) (nI 1) = (1, nI 0, κ) := by
  have e : ∀ b, canI κ (nI (κ.2.2.1 0)) b = 1 := fun b => by unfold canI; rw [inR_n hn]; rfl
  unfold opIssue; rw [e]; rfl
theorem e_issue_0 (h1 : 1 ≤ κ.2.2.1 0) : opIssue κ (nI 0) (nI 10) (nI 1) = (2, nI 0, κ) := by
  have e : canI κ (nI 0) (nameB (nI 10) && isInB (nI 1) (nI 1) (nI 999)) = 2 := by unfold canI; rw [inR_0 h1, show (nameB (nI 10) && isInB (nI 1) (nI 1) (nI 999)) = false from by decide]; rfl
  unfold opIssue; rw [e]; rfl
theorem e_issueA (h1 : 1 ≤ κ.2.2.1 0) : opIssueA κ (nI 0) (nI 1) (nI 1) (nI 6) = (2, nI 0, κ) := by
  have e : canI κ (nI 0) (nameB (nI 1) && (isInB (nI 1) (nI 1) (nI 999) && isInB (nI 6) (nI 0) (nI 5))) = 2 := by unfold canI; rw [inR_0 h1, show (nameB (nI 1) && (isInB (nI 1) (nI 1) (nI 999) && isInB (nI 6) (nI 0) (nI 5))) = false from by decide]; rfl
  unfold opIssueA; rw [e]; rfl
theorem e_cross (hn : κ.2.2.1 0 ≤ 40) : opCross κ (nI 0) (nI (κ.2.2.1 0)) (nI 1) (nI 1) = (1, nI 0, κ) := by
  unfold opCross; rw [inR_n hn, Bool.and_false]; rfl
theorem e_set (h1 : 1 ≤ κ.2.2.1 0) : opSetNames κ (nI 0) (nI 101) (nI 0) = (2, nI 0, κ) := by
  unfold opSetNames; rw [inR_0 h1, show (nm0 (nI 101) && nm0 (nI 0)) = false from by decide]; rfl
theorem e_pass : opPass κ (nI 0) = (1, nI 0, κ) := by
  unfold opPass; rw [show isInB (nI 0) (nI 1) (nI 999) = false from by decide]; rfl
theorem e_publish (hn : κ.2.2.1 0 ≤ 40) : opPublish κ (nI (κ.2.2.1 0)) = (1, nI 0, κ) := by
  unfold opPublish; rw [inR_n hn]; rfl
theorem e_kind (hn : κ.2.2.1 0 ≤ 40) : opKind κ (nI (κ.2.2.1 0)) = (1, nI 0) := by
  unfold opKind; rw [inR_n hn]; rfl
theorem e_trust (hn : κ.2.2.1 0 ≤ 40) : opTrust κ (nI (κ.2.2.1 0)) true = (1, nI 0, κ) := by
  unfold opTrust; rw [inR_n hn]; rfl
theorem e_revoke (h1 : 1 ≤ κ.2.2.1 0) (hr : κ.2.1 1 0 = true) : opRevoke κ (nI 0) = (2, nI 0, κ) := by
  unfold opRevoke; rw [inR_0 h1, show xj (nI 0) = 0 from nI_clamp (by decide), hr]; rfl
end ERR
theorem mx_e {x : Nat} (h : x < 2147483648) : (if nI 0 < nI x - nI 2 then nI x - nI 2 else nI 0) = nI (x - 2) := by
  by_cases q : 2 ≤ x
  · rw [show nI x - nI 2 = nI (x - 2) from pk_sub (by omega)]
    by_cases q2 : nI 0 < nI (x - 2)
    · rw [if_pos q2]
    · rw [if_neg q2]
      rw [nI_ltI (by decide) (by omega)] at q2
      rw [show x - 2 = 0 by omega]
  · rcases (show x = 0 ∨ x = 1 by omega) with e | e <;> subst e <;> decide
section KP
variable {p : Program} {l : Launch} {e : Env} {R : Room} {s : State} {m : MethodId} {args : Array Value} {below : List Frame} {meth : Method} {c : Code} {D : va_G} {A : Nat → Prop} {nL : Nat} {Q : State → Prop} {cells slots pc : Nat} {L : List (Nat × Value)} {st : List Value} {x : Nat × va_E}
theorem J_keep1 (kk : J p l e R s m args below meth c D A nL Q cells slots (x :: []) L pc st) : ∀ lw, J p l e R s m args below meth c D A nL Q cells slots (x :: lw) L pc st
  | [] => kk
  | _ :: lw => J_drop (J_keep1 kk lw)
end KP
theorem step_00 : opStep kap0 (nI 0) = (1, nI 0, kap0) := rfl
theorem snd_00 : (opSound kap0).1 = 1 := rfl
theorem fc_00 : Jvm.Op.cmpValue (FP.fcmp 3378231824 3378231824) .l = nI 0 := by decide +kernel
