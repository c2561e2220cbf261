/-! A new train. -/
/-- the new train's row before it reports -/
def newT (g : Nat → Nat → Int32) (nS : Nat) (len br pu stop : Int32) : Nat → Int32 := upd (upd (upd (upd (upd (upd tauI 0 len) 1 br) 2 pu) 4 (len - 1)) 6 (len - 1)) 8 (if stop = 0 then 0 else m_sf (g 3) (len - 1) nS)
theorem add_s {t g : Nat → Nat → Int32} {nT nS : Nat} {len br pu stop : Int32} (h : t nT = tauI) : m_add t g nT nS len br pu stop nT = repT (newT g nS len br pu stop) (g 8 1) := by
  unfold m_add newT
  rw [report_s, up2_s, up2_s, up2_s, up2_s, up2_s, up2_s, h]
theorem add_n {t g : Nat → Nat → Int32} {nT nS x : Nat} {len br pu stop : Int32} (h : x ≠ nT) : m_add t g nT nS len br pu stop x = t x := by
  unfold m_add
  rw [report_n _ _ h, up2_n h, up2_n h, up2_n h, up2_n h, up2_n h, up2_n h]
theorem Ok.add {t g : Nat → Nat → Int32} {nT nS nW : Nat} {len br pu stop : Int32} (h : Ok t g nT nS nW) (hT : nT < 4) : Ok (m_add t g nT nS len br pu stop) (up2 g 8 0 (nI (nT + 1))) (nT + 1) nS nW := by
  obtain ⟨k1, k2, k3, k4, k5, k6, k7, k8⟩ := h
  refine ⟨up_at, hT, ?_, k4, ?_, k6, ?_, ?_⟩
  · rw [up_nj (by decide)]; exact k3
  · rw [up_nj (by decide)]; exact k5
  · rw [up2_n (by decide)]; exact k7
  · unfold m_add
    exact BT.report ((((((k8.up (Or.inl (by decide))).up (Or.inl (by decide))).up (Or.inl (by decide))).up (Or.inl (by decide))).up (Or.inl (by decide))).up (Or.inl (by decide))) _ _
theorem LI.add {t g : Nat → Nat → Int32} {nT nS nW n : Nat} {cl cl' : Nat → Int} {len br pu stop : Int32} (h : LI t g nT nS nW n cl) (hn : n < 100000) (hT : nT < 4) (h1 : 20 ≤ len.toInt ∧ len.toInt ≤ 200) (h2 : 1 ≤ br.toInt ∧ br.toInt ≤ 4) (h3 : 1 ≤ pu.toInt ∧ pu.toInt ≤ 3)
    (h5 : ∀ k, k < nT → t k 9 = 0 → ¬ m_rear (t k) ≤ len) (hc : ∀ i, i < nT → cl' i = cl i) (hcn : bI (if stop = 0 then 0 else m_sf (g 3) (len - 1) nS) ≤ cl' nT) (hc4 : ∀ i, i < 4 → 0 ≤ cl' i ∧ cl' i ≤ 4) :
    LI (m_add t g nT nS len br pu stop) (up2 g 8 0 (nI (nT + 1))) (nT + 1) nS nW n cl' ∧ m_add t g nT nS len br pu stop nT 4 = len - 1 ∧ m_add t g nT nS len br pu stop nT 6 = len - 1 ∧ m_add t g nT nS len br pu stop nT 13 = g 8 1 := by
  have ok' := h.1.add (len := len) (br := br) (pu := pu) (stop := stop) hT
  obtain ⟨hok, hg, hnow, hTI, hfr, hgap, h50, hpot, hcl⟩ := h
  obtain ⟨-, -, -, nS4, -⟩ := hok
  have el : (len - 1).toInt = len.toInt - 1 := by rw [i_sub (by rw [i_1]; omega) (by rw [i_1]; omega), i_1]
  have hs := add_s (g := g) (nS := nS) (len := len) (br := br) (pu := pu) (stop := stop) (hfr nT (Nat.le_refl _))
  have ho : ∀ x, x ≠ nT → m_add t g nT nS len br pu stop x = t x := fun x hx => add_n hx
  generalize m_add t g nT nS len br pu stop = u at ok' hs ho ⊢
  have e0 : newT g nS len br pu stop 0 = len := rfl
  have e1 : newT g nS len br pu stop 1 = br := rfl
  have e2 : newT g nS len br pu stop 2 = pu := rfl
  have e3 : newT g nS len br pu stop 3 = 1 := rfl
  have e4 : newT g nS len br pu stop 4 = len - 1 := rfl
  have e5 : newT g nS len br pu stop 5 = 0 := rfl
  have e6 : newT g nS len br pu stop 6 = len - 1 := rfl
  have e7 : newT g nS len br pu stop 7 = 0 := rfl
  have e8 : newT g nS len br pu stop 8 = (if stop = 0 then 0 else m_sf (g 3) (len - 1) nS) := rfl
  have e9 : newT g nS len br pu stop 9 = 0 := rfl
  have e10 : newT g nS len br pu stop 10 = 0 := rfl
  have e12 : newT g nS len br pu stop 12 = 0 := rfl
  have e14 : newT g nS len br pu stop 14 = 0 := rfl
  have e15 : newT g nS len br pu stop 15 = 0 := rfl
  have e16 : newT g nS len br pu stop 16 = 0 := rfl
  generalize newT g nS len br pu stop = τ at *
  obtain ⟨r1, r11, r13, r12⟩ := rep_f τ (g 8 1)
  have hre : (m_rear τ).toInt = 0 := by
    rw [rear_r (by rw [e0]; exact h1) (by rw [e4]; omega), e4, e0]
    omega
  have b4 : B4 (if stop = 0 then 0 else m_sf (g 3) (len - 1) nS) := by
    by_cases c : stop = 0
    · rw [if_pos c]; exact b4_0
    · rw [if_neg c]; exact sf_b4 _ _ nS4
  have hnew : TI (u nT) n ∧ BI g nS (u nT) (cl' nT) ∧ u nT 4 = len - 1 ∧ u nT 6 = len - 1 ∧ u nT 13 = g 8 1 ∧ u nT 9 = 0 := by
    rw [hs]
    have q := fun j a b c => r1 j a b c
    have q0 := (q 0 (by decide) (by decide) (by decide)).trans e0
    have q1 := (q 1 (by decide) (by decide) (by decide)).trans e1
    have q2 := (q 2 (by decide) (by decide) (by decide)).trans e2
    have q3 := (q 3 (by decide) (by decide) (by decide)).trans e3
    have q4 := (q 4 (by decide) (by decide) (by decide)).trans e4
    have q5 := (q 5 (by decide) (by decide) (by decide)).trans e5
    have q6 := (q 6 (by decide) (by decide) (by decide)).trans e6
    have q7 := (q 7 (by decide) (by decide) (by decide)).trans e7
    have q8 := (q 8 (by decide) (by decide) (by decide)).trans e8
    have q9 := (q 9 (by decide) (by decide) (by decide)).trans e9
    have q10 := (q 10 (by decide) (by decide) (by decide)).trans e10
    have q14 := (q 14 (by decide) (by decide) (by decide)).trans e14
    have q15 := (q 15 (by decide) (by decide) (by decide)).trans e15
    have q16 := (q 16 (by decide) (by decide) (by decide)).trans e16
    refine ⟨?_, ?_, q4, q6, r13, q9⟩
    · unfold TI
      rw [q0, q1, q2, q3, q4, q5, q6, q7, q9, q10, q14, q15, r11, r13, e4, el]
      have hr12 : (repT τ (g 8 1) 12).toInt ≤ 0 := by
        rcases r12 with r | r
        · rw [r, e12]; decide
        · rw [r]; omega
      refine ⟨h1, h2, h3, by omega, by decide, by omega, by decide, Or.inr rfl, Or.inl rfl, Or.inl rfl, ⟨fun h => absurd h (by decide), fun h => by omega⟩, fun _ => by decide, by omega, by omega, ?_, ?_, ?_⟩
      · rw [hnow]
        rw [i_nI (by omega)]
        omega
      · rw [i_0]; omega
      · rw [i_0]; omega
    · unfold BI
      rw [q4, q8, q16, i_0]
      refine ⟨b4, fun j hj hb => ?_, by omega, by omega, (hc4 nT hT).2⟩
      by_cases c : stop = 0
      · rw [if_pos c] at hb
        exact absurd (bit_0 (by omega)) hb
      · rw [if_neg c] at hb
        have := mt i_lt.mpr ((sf_at (g 3) (len - 1) nS nS4).2.2 j (by omega) hb)
        omega
  obtain ⟨n1, n2, n4, n6, n13, n9⟩ := hnew
  refine ⟨⟨ok', hg.of rfl rfl rfl rfl, ?_, fun i hi => ?_, fun i hi => by rw [ho i (by omega)]; exact hfr i (by omega), fun i hi g1 g2 => ?_, h50, ?_, hc4⟩, n4, n6, n13⟩
  · rw [up_nj (by decide)]; exact hnow
  · by_cases e : i = nT
    · subst e; exact ⟨n1, n2.of rfl⟩
    · rw [ho i e, hc i (by omega)]
      exact ⟨(hTI i (by omega)).1, (hTI i (by omega)).2.of rfl⟩
  · rw [ho i (by omega)] at g1 ⊢
    by_cases e : i + 1 = nT
    · have hi9 := h5 i (by omega) g1.1
      have := mt i_le.mpr hi9
      have hri := rear_i (hTI i (by omega)).1
      unfold Gap
      rw [e, n4]
      have t0 := (hTI i (by omega)).1.1
      have t4 := (hTI i (by omega)).1.2.2.2.1
      have w1 : (m_rear (t i) - (len - 1)).toInt = (m_rear (t i)).toInt - (len.toInt - 1) := by rw [i_sub (by omega) (by omega), el]
      have w2 : (m_rear (t i) - (len - 1) - 1).toInt = (m_rear (t i)).toInt - (len.toInt - 1) - 1 := by rw [i_sub (by rw [w1, i_1]; omega) (by rw [w1, i_1]; omega), w1, i_1]
      exact i_le.mpr (by rw [w2, i_0]; omega)
    · rw [ho (i + 1) e] at g2 ⊢
      exact hgap i (by omega) g1 g2
  · have hp : Pot u (up2 g 8 0 (nI (nT + 1))) nS (nT + 1) = Pot t g nS nT + tQ u nT := by
      have a : sI (tQ u) nT = sI (tQ t) nT := sI_congr nT (fun i hi => by unfold tQ; rw [ho i (by omega)])
      show sI (rI g) nS + (sI (tQ u) nT + tQ u nT) = sI (rI g) nS + sI (tQ t) nT + tQ u nT
      rw [a]
      omega
    have hcs : sI cl' nT = sI cl nT := sI_congr nT hc
    rw [hp, sI, hcs]
    have hq : tQ u nT ≤ cl' nT := n2.2.2.2.1
    omega
