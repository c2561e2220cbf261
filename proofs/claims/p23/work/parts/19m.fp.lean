/-! The mean speed times how many run is the sum of speeds, but for a little: by deciding. -/
def fmean (s p : Nat) : UInt64 := if p = 0 then FP.dconst0 else FP.ddiv (FP.i2d (nI s)) (FP.i2d (nI p))
def fprod (s p : Nat) : UInt64 := FP.dmul (fmean s p) (FP.i2d (nI p))
def fdiff (s p : Nat) : UInt64 := FP.dsub (fprod s p) (FP.i2d (nI s))
def fgood (s p : Nat) : Bool := decide (fmean s p &&& 0x7fffffffffffffff ≤ 0x7ff0000000000000) && decide (fprod s p &&& 0x7fffffffffffffff ≤ 0x7ff0000000000000) && decide (fdiff s p &&& 0x7fffffffffffffff ≤ 0x7ff0000000000000) && decide (FP.dcmp (fdiff s p &&& 0x7fffffffffffffff) 0x3F1A36E2EB1C432D = some .lt)
theorem fgood_0 : fgood 0 0 = true := by decide +kernel
theorem fgood_1 : ∀ s : Fin 161, fgood s.val 1 = true := by decide +kernel
theorem fgood_2 : ∀ s : Fin 161, fgood s.val 2 = true := by decide +kernel
theorem fgood_3 : ∀ s : Fin 161, fgood s.val 3 = true := by decide +kernel
theorem fgood_4 : ∀ s : Fin 161, fgood s.val 4 = true := by decide +kernel
theorem fgood_all {s p : Nat} (hs : s ≤ 160) (hp : p ≤ 4) (h0 : p = 0 → s = 0) : fgood s p = true := by
  have : p = 0 ∨ p = 1 ∨ p = 2 ∨ p = 3 ∨ p = 4 := by omega
  rcases this with rfl | rfl | rfl | rfl | rfl
  · rw [h0 rfl]; exact fgood_0
  · exact fgood_1 ⟨s, by omega⟩
  · exact fgood_2 ⟨s, by omega⟩
  · exact fgood_3 ⟨s, by omega⟩
  · exact fgood_4 ⟨s, by omega⟩
theorem fgood_s {s p : Nat} (h : fgood s p = true) : vf_n64 (fmean s p) ∧ vf_n64 (fprod s p) ∧ vf_n64 (fdiff s p) ∧ FP.dcmp (fdiff s p &&& 0x7fffffffffffffff) 0x3F1A36E2EB1C432D = some .lt := by
  unfold fgood at h
  simp only [Bool.and_eq_true, decide_eq_true_eq] at h
  exact ⟨h.1.1.1, h.1.1.2, h.1.2, h.2⟩
theorem nI_z {p : Nat} (hp : p ≤ 4) : nI p = 0 ↔ p = 0 := ⟨fun h => by have := congrArg Int32.toInt h; rw [i_nI (by omega), i_0] at this; omega, fun h => by rw [h]; rfl⟩
/-- the class's mean is that of the sums -/
theorem mean_n {t : Nat → Nat → Int32} {nT n : Nat} (hT : nT ≤ 4) (h : ∀ i, i < nT → TI (t i) n) : ∃ s p : Nat, m_speeds t nT = nI s ∧ m_present t nT = nI p ∧ q_mean t nT = fmean s p ∧ fgood s p = true := by
  obtain ⟨s, h1, h2, h3⟩ := speeds_n nT hT h
  obtain ⟨p, hp, e1, -⟩ := present_n t nT
  refine ⟨s, p, h2, e1, ?_, fgood_all (by omega) (by omega) (fun z => h3 (by rw [e1, z]; rfl))⟩
  unfold q_mean fmean
  rw [e1, h2]
  by_cases c : p = 0
  · rw [if_pos c, if_pos ((nI_z (by omega)).mpr c)]
  · rw [if_neg c, if_neg (fun z => c ((nI_z (by omega)).mp z))]
