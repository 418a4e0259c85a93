/-! what isTold counts -/
def sumN (κ : CS) : Nat → Nat
  | 0 => 0
  | k + 1 => sumN κ k + foF κ k (nI (κ.2.2.1 2)) 1
def wiB (κ : CS) (k : Nat) : Bool := decide (0 < foF κ k (nI (κ.2.2.1 2)) 1)
theorem mc_sum {κ : CS} (hI : InvM κ) (ch : Nat → Nat) : ∀ k, (mcK κ ch k).1 = sumN κ k ∧ (mcK κ ch k).2.1 = cnt (wiB κ) k
  | 0 => ⟨rfl, rfl⟩
  | k + 1 => by
    obtain ⟨a, b⟩ := mc_sum hI ch k
    have e := (fo_size hI (i := k) (on := nI (κ.2.2.1 2)) (mcK κ ch k).2.2).1
    refine ⟨?_, ?_⟩
    · show _ + _ = _ + _
      rw [a, ← e]
    · show _ + _ = cnt (wiB κ) k + _
      rw [b, ← e]; rfl
theorem sumN_le {κ : CS} (hI : InvM κ) : ∀ k, sumN κ k ≤ 7 * k
  | 0 => Nat.le_refl _
  | k + 1 => by
    have a := sumN_le hI k
    have b := fo_7 hI (i := k) (on := nI (κ.2.2.1 2))
    show _ + _ ≤ _
    omega
def soV (κ : CS) : UInt32 := FP.fdiv (FP.i2f (nI (cnt (sndB κ) (κ.2.2.1 0)))) (FP.i2f (nI (κ.2.2.1 0)))
def meV (κ : CS) : UInt64 := if cnt (wiB κ) (κ.2.2.1 0) = 0 then 13919350198670196736 else FP.ddiv (FP.i2d (nI (sumN κ (κ.2.2.1 0)))) (FP.i2d (nI (cnt (wiB κ) (κ.2.2.1 0))))
theorem fcmp_ok : ∀ a, a < 41 → ∀ b, b < 41 → b ≠ 0 → Jvm.Op.cmpValue (FP.fcmp (FP.fdiv (FP.i2f (nI a)) (FP.i2f (nI b))) (FP.fdiv (FP.i2f (nI a)) (FP.i2f (nI b)))) .l = nI 0 := by
  have h : ∀ a : Fin 41, ∀ b : Fin 41, b.val ≠ 0 → Jvm.Op.cmpValue (FP.fcmp (FP.fdiv (FP.i2f (nI a.val)) (FP.i2f (nI b.val))) (FP.fdiv (FP.i2f (nI a.val)) (FP.i2f (nI b.val)))) .l = nI 0 := by decide +kernel
  exact fun a ha b hb h0 => h ⟨a, ha⟩ ⟨b, hb⟩ h0
theorem dcmp_ok : ∀ a, a < 281 → ∀ b, b < 41 → b ≠ 0 → Jvm.Op.cmpValue (FP.dcmp (FP.ddiv (FP.i2d (nI a)) (FP.i2d (nI b))) (FP.ddiv (FP.i2d (nI a)) (FP.i2d (nI b)))) .l = nI 0 := by
  have h : ∀ a : Fin 281, ∀ b : Fin 41, b.val ≠ 0 → Jvm.Op.cmpValue (FP.dcmp (FP.ddiv (FP.i2d (nI a.val)) (FP.i2d (nI b.val))) (FP.ddiv (FP.i2d (nI a.val)) (FP.i2d (nI b.val)))) .l = nI 0 := by decide +kernel
  exact fun a ha b hb h0 => h ⟨a, ha⟩ ⟨b, hb⟩ h0
theorem cmp_so {κ : CS} (h1 : 1 ≤ κ.2.2.1 0) (hn : κ.2.2.1 0 ≤ 40) : Jvm.Op.cmpValue (FP.fcmp (soV κ) (soV κ)) .l = nI 0 := by
  have := cnt_le (sndB κ) (κ.2.2.1 0)
  exact fcmp_ok _ (by omega) _ (by omega) (by omega)
theorem cmp_me {κ : CS} (hI : InvM κ) : Jvm.Op.cmpValue (FP.dcmp (meV κ) (meV κ)) .l = nI 0 := by
  have hn := hI.1
  have h1 := cnt_le (wiB κ) (κ.2.2.1 0)
  have h2 := sumN_le hI (κ.2.2.1 0)
  unfold meV
  by_cases q : cnt (wiB κ) (κ.2.2.1 0) = 0
  · rw [if_pos q]; decide +kernel
  · rw [if_neg q]; exact dcmp_ok _ (by omega) _ (by omega) q
abbrev RDF (κ : CS) (b : Nat) (v : UInt32) : UInt32 → UT → Prop := fun r u' => r = v ∧ u'.1 0 0 = b ∧ INV κ u'.2.1 u'.2.2.1
abbrev RDD (κ : CS) (b : Nat) (v : UInt64) : UInt64 → UT → Prop := fun r u' => r = v ∧ u'.1 0 0 = b ∧ INV κ u'.2.1 u'.2.2.1
theorem rd_LsoundShare (l : Launch) (D : va_G) (g : Nat → ClassId) (A : Nat → Prop) (κ : CS) (u : UT) (b : Nat) (htr : l.stackTraces = false) (hv : INV κ u.2.1 u.2.2.1) (hb : u.1 0 0 = b) (hd : κ.2.2.1 2 + 999 < 2147483648) (h1n : 1 ≤ κ.2.2.1 0) : Met l yL_soundShare (wsH yL_soundShare cL_soundShare 2 (some .float) [(0, 4, 5, 15)]) ({ frames := 7, cells := 1, slots := 6, locals := 115 } : Room) (va_Pc [.ref b] (PRE D g A (wT g κ u))) (va_Qf (RDF κ b (soV κ)) (fun u' => PO D A (wT g κ u')) A) 1 6 A := by
  subst hb
  refine Jvm.Free.MetFree.mono (tL_soundShare l D g A u.1 κ u.2.1 u.2.2.1 u.2.2.2.1 u.2.2.2.2 htr hv.1 hv.2.1 hv.2.2 hd) (fun _ _ h => h) (fun _ _ _ _ _ h => h) (fun _ _ _ _ _ ⟨⟨⟨r, u', ho, ⟨h1, h5, h6⟩, h2⟩, hF⟩, h3⟩ => ⟨⟨⟨r, u', ho, ⟨?_, congrFun h5 0, h6⟩, h2⟩, hF⟩, h3⟩)
  rw [h1, sound_0 (by omega)]; rfl
theorem rd_LmeanChain (l : Launch) (D : va_G) (g : Nat → ClassId) (A : Nat → Prop) (κ : CS) (u : UT) (b : Nat) (htr : l.stackTraces = false) (hv : INV κ u.2.1 u.2.2.1) (hb : u.1 0 0 = b) (hd : κ.2.2.1 2 + 999 < 2147483648) : Met l yL_meanChain (wsH yL_meanChain cL_meanChain 2 (some .double) [(0, 4, 5, 15)]) ({ frames := 14, cells := 1, slots := 6, locals := 373 } : Room) (va_Pc [.ref b] (PRE D g A (wT g κ u))) (va_Qd (RDD κ b (meV κ)) (fun u' => PO D A (wT g κ u')) A) 1 6 A := by
  subst hb
  refine Jvm.Free.MetFree.mono (tL_meanChain l D g A u.1 κ u.2.1 u.2.2.1 u.2.2.2.1 u.2.2.2.2 htr hv.1 hv.2.1 hv.2.2 hd) (fun _ _ h => h) (fun _ _ _ _ _ h => h) (fun _ _ _ _ _ ⟨⟨⟨r, u', ho, ⟨h1, h5, h6⟩, h2⟩, hF⟩, h3⟩ => ⟨⟨⟨r, u', ho, ⟨?_, congrFun h5 0, h6⟩, h2⟩, hF⟩, h3⟩)
  obtain ⟨a, c⟩ := mc_sum hv.1.2.2.2.1 (fun _ => 0) (κ.2.2.1 0)
  rw [h1, oc_M hv.1.2.2.2.1 hv.1.1 hv.1.2.1 hv.1.2.2.1 hv.2.1.2.1 hv.2.1.2.2 (fun _ => 0)]
  unfold opMean meV
  rw [a, c]
  by_cases q : cnt (wiB κ) (κ.2.2.1 0) = 0
  · rw [decide_eq_true q, if_pos q]; rfl
  · rw [decide_eq_false q, if_neg q]; rfl
