/-! One train's second, as integers. -/
theorem rear_r {τ : Nat → Int32} (h0 : 20 ≤ (τ 0).toInt ∧ (τ 0).toInt ≤ 200) (h4 : 0 ≤ (τ 4).toInt ∧ (τ 4).toInt ≤ 4000) : (m_rear τ).toInt = (τ 4).toInt - (τ 0).toInt + 1 := by
  unfold m_rear
  have e1 : (τ 4 - τ 0).toInt = (τ 4).toInt - (τ 0).toInt := i_sub (by omega) (by omega)
  rw [i_add (by rw [e1, i_1]; omega) (by rw [e1, i_1]; omega), e1, i_1]
theorem hold_r {g : Nat → Nat → Int32} {nS : Nat} {τ : Nat → Int32} (hg : GI g nS) (a1 : 1 ≤ (τ 1).toInt ∧ (τ 1).toInt ≤ 4) : 1 ≤ (m_hold (g 1) τ).toInt ∧ (m_hold (g 1) τ).toInt ≤ 6 := by
  obtain ⟨-, -, g1, g2⟩ := hg.1 _ (sec_N (τ 4)).2
  unfold m_hold
  have e : (τ 1 + g 1 (secN (τ 4))).toInt = (τ 1).toInt + (g 1 (secN (τ 4))).toInt := i_add (by omega) (by omega)
  have := m_max_i 1 (τ 1 + g 1 (secN (τ 4)))
  rw [e, i_1] at this
  omega
theorem spd_r {g : Nat → Nat → Int32} {nS : Nat} {τ : Nat → Int32} (hg : GI g nS) (a1 : 1 ≤ (τ 1).toInt ∧ (τ 1).toInt ≤ 4) (a2 : 1 ≤ (τ 2).toInt ∧ (τ 2).toInt ≤ 3) (a5 : 0 ≤ (τ 5).toInt ∧ (τ 5).toInt ≤ 40) : 0 ≤ (spd g nS τ).toInt ∧ (spd g nS τ).toInt ≤ 40 ∧ (spd g nS τ).toInt ≤ (τ 5).toInt + 3 := by
  have hh := hold_r hg a1
  have ha := allow_r (nS := nS) hg τ
  unfold spd
  by_cases c1 : m_allow g τ nS ≤ τ 5
  · rw [if_pos c1]
    have c1i := i_le.mp c1
    by_cases c2 : τ 5 ≤ m_allow g τ nS
    · rw [if_pos c2]; omega
    · rw [if_neg c2]
      have e : (τ 5 - m_hold (g 1) τ).toInt = (τ 5).toInt - (m_hold (g 1) τ).toInt := i_sub (by omega) (by omega)
      have := m_max_i (τ 5 - m_hold (g 1) τ) (m_allow g τ nS)
      rw [e] at this
      omega
  · rw [if_neg c1]
    have c1i := mt i_le.mpr c1
    have e : (τ 5 + τ 2).toInt = (τ 5).toInt + (τ 2).toInt := i_add (by omega) (by omega)
    have := m_min_i (τ 5 + τ 2) (m_allow g τ nS)
    rw [e] at this
    omega
theorem brk_r {g : Nat → Nat → Int32} {nS : Nat} {τ : Nat → Int32} {n : Nat} (hn : n < 100000) (h : 0 ≤ (τ 14).toInt ∧ (τ 14).toInt ≤ n) : 0 ≤ (brk g nS τ).toInt ∧ (brk g nS τ).toInt ≤ (n + 1 : Nat) := by
  unfold brk
  by_cases c1 : m_allow g τ nS ≤ τ 5
  · rw [if_pos c1]
    by_cases c2 : τ 5 ≤ m_allow g τ nS
    · rw [if_pos c2]; omega
    · rw [if_neg c2, i_add (by rw [i_1]; omega) (by rw [i_1]; omega), i_1]; omega
  · rw [if_neg c1]; omega
/-- a train's state, as the answers tell it: it has not left, and has not crashed -/
theorem b01_ne {x : Int32} (h : b01 x) : x = 0 ∨ x = 1 := h
/-- what one train's second is: reports, hears, goes, is looked at, leaves -/
def ScF (g : Nat → Nat → Int32) (nS : Nat) (now : Int32) (τ e : Nat → Int32) : Prop := ∃ b c d : Nat → Int32,
  ((Hear g τ ∧ ∃ v : Int32, b = upd (repT τ now) 6 v ∧ (τ 4).toInt ≤ v.toInt ∧ (v.toInt ≤ (τ 4).toInt ∨ v.toInt ≤ (2999 + τ 0).toInt)) ∨ (¬ Hear g τ ∧ b = τ)) ∧
  ((GoX b ∧ GoF g nS b c) ∨ (¬ GoX b ∧ c = b)) ∧ LoF c d ∧ LvF d e
theorem updA {f : Nat → Int32} {j : Nat} {v : Int32} : upd f j v j = v := if_pos rfl
theorem updJ {f : Nat → Int32} {j y : Nat} {v : Int32} (h : y ≠ j) : upd f j v y = f y := if_neg h
theorem rep_f (τ : Nat → Int32) (now : Int32) : (∀ j, j ≠ 11 → j ≠ 12 → j ≠ 13 → repT τ now j = τ j) ∧ repT τ now 11 = τ 4 ∧ repT τ now 13 = now ∧ (repT τ now 12 = τ 12 ∨ repT τ now 12 = m_rear τ) := by
  unfold repT
  by_cases c : τ 3 = 0
  · rw [if_pos c]
    exact ⟨fun j h1 h2 h3 => by rw [updJ h3, updJ h1], by rw [updJ (by decide), updA], updA, Or.inl (by rw [updJ (by decide), updJ (by decide)])⟩
  · rw [if_neg c]
    exact ⟨fun j h1 h2 h3 => by rw [updJ h3, updJ h2, updJ h1], by rw [updJ (by decide), updJ (by decide), updA], updA, Or.inr (by rw [updJ (by decide), updA])⟩
/-- what isSecond asks of one train, in integers -/
def SeF (g : Nat → Nat → Int32) (n : Nat) (τ e : Nat → Int32) : Prop :=
  (τ 4).toInt ≤ (e 4).toInt ∧ (e 4).toInt - (τ 4).toInt ≤ 40 ∧ (e 4).toInt - (τ 4).toInt ≤ (τ 5).toInt + 3 ∧
  ((τ 9 = 1 ∨ τ 10 = 1) → e 4 = τ 4) ∧ (τ 9 = 1 → e 9 = 1) ∧ (τ 10 = 1 → e 10 = 1) ∧
  (e 9 = 0 → e 10 = 0 → (e 5).toInt = (e 4).toInt - (τ 4).toInt) ∧
  (Hear g τ → e 13 = nI (n + 1) ∧ e 11 = τ 4 ∧ (τ 4).toInt ≤ (e 6).toInt) ∧ (¬ Hear g τ → e 13 = τ 13) ∧ e 0 = τ 0
theorem sec_train {g : Nat → Nat → Int32} {nS n : Nat} {τ e : Nat → Int32} (hg : GI g nS) (hn : n < 100000) (h : TI τ n) (hS : ScF g nS (nI (n + 1)) τ e) : TI e (n + 1) ∧ SeF g n τ e := by
  obtain ⟨b, c, d, hb, hc, hd, he⟩ := hS
  have hT := h
  obtain ⟨a0, a1, a2, a4, a5, a6, a7, a3, a9, a10, hl, hz, a11, a12, a13, a15, a14⟩ := h
  have a4' : 0 ≤ (τ 4).toInt ∧ (τ 4).toInt ≤ 4000 := by omega
  have hrear := rear_r a0 a4'
  -- behind the report and the hearing
  have B : (∀ j, j ≠ 6 → j ≠ 11 → j ≠ 12 → j ≠ 13 → b j = τ j) ∧ (0 ≤ (b 6).toInt ∧ (b 6).toInt ≤ 3300) ∧ ((τ 15).toInt = 0 → (τ 4).toInt ≤ (b 6).toInt) ∧ (b 11).toInt ≤ (τ 4).toInt ∧ (b 12).toInt ≤ (τ 4).toInt - (τ 0).toInt + 1 ∧ (0 ≤ (b 13).toInt ∧ (b 13).toInt ≤ (n + 1 : Nat)) ∧ (Hear g τ → b 13 = nI (n + 1) ∧ b 11 = τ 4 ∧ (τ 4).toInt ≤ (b 6).toInt) ∧ (¬ Hear g τ → b 13 = τ 13) := by
    rcases hb with ⟨hH, v, rfl, v1, v2⟩ | ⟨hH, rfl⟩
    · obtain ⟨r1, r2, r3, r4⟩ := rep_f τ (nI (n + 1))
      have e29 : (2999 + τ 0).toInt = 2999 + (τ 0).toInt := by rw [i_add (by rw [i_2999]; omega) (by rw [i_2999]; omega), i_2999]
      have hl2 : (τ 4).toInt ≤ 3300 := a4.2
      refine ⟨fun j h6 h11 h12 h13 => by rw [updJ h6]; exact r1 j h11 h12 h13, ?_, ?_, ?_, ?_, ?_, ?_, fun h => absurd hH h⟩
      · rw [updA]; omega
      · rw [updA]; omega
      · rw [updJ (by decide), r2]; omega
      · rw [updJ (by decide)]
        rcases r4 with r | r
        · rw [r]; exact a12
        · rw [r, hrear]; omega
      · rw [updJ (by decide), r3, i_nI (by omega)]; omega
      · intro _
        rw [updJ (by decide), updJ (by decide), updA]
        exact ⟨r3, r2, v1⟩
    · exact ⟨fun _ _ _ _ _ => rfl, a6, a15.2.2, a11, a12, by omega, fun h => absurd h hH, fun _ => rfl⟩
  obtain ⟨B0, B6, B15, B11, B12, B13, BH, BN⟩ := B
  have b0 := B0 0 (by decide) (by decide) (by decide) (by decide)
  have b1 := B0 1 (by decide) (by decide) (by decide) (by decide)
  have b2 := B0 2 (by decide) (by decide) (by decide) (by decide)
  have b3 := B0 3 (by decide) (by decide) (by decide) (by decide)
  have b4 := B0 4 (by decide) (by decide) (by decide) (by decide)
  have b5 := B0 5 (by decide) (by decide) (by decide) (by decide)
  have b7 := B0 7 (by decide) (by decide) (by decide) (by decide)
  have b9 := B0 9 (by decide) (by decide) (by decide) (by decide)
  have b10 := B0 10 (by decide) (by decide) (by decide) (by decide)
  have b14 := B0 14 (by decide) (by decide) (by decide) (by decide)
  have b15 := B0 15 (by decide) (by decide) (by decide) (by decide)
  -- behind the going
  have C : (∀ j, j ≠ 4 → j ≠ 5 → j ≠ 7 → j ≠ 8 → j ≠ 14 → j ≠ 16 → c j = b j) ∧ (τ 4).toInt ≤ (c 4).toInt ∧ (c 4).toInt - (τ 4).toInt ≤ 40 ∧ (c 4).toInt - (τ 4).toInt ≤ (τ 5).toInt + 3 ∧ (0 ≤ (c 5).toInt ∧ (c 5).toInt ≤ 40) ∧ (0 ≤ (c 7).toInt ∧ (c 7).toInt ≤ 100 ∧ (0 < (c 7).toInt → (c 5).toInt = 0)) ∧ (0 ≤ (c 14).toInt ∧ (c 14).toInt ≤ (n + 1 : Nat)) ∧ (GoX τ → (c 5).toInt = (c 4).toInt - (τ 4).toInt) ∧ (¬ GoX τ → c 4 = τ 4 ∧ c 5 = τ 5) := by
    have gb : GoX b ↔ GoX τ := by unfold GoX; rw [b9, b10]
    rcases hc with ⟨hG, c0, hF⟩ | ⟨hG, rfl⟩
    · have sp := spd_r (nS := nS) (τ := b) hg (by rw [b1]; exact a1) (by rw [b2]; exact a2) (by rw [b5]; exact a5)
      have bk := brk_r (g := g) (nS := nS) (τ := b) hn (by rw [b14]; exact a14)
      rcases hF with ⟨c7, e4, e5, e7, e8, e14, e16⟩ | ⟨c7, e4, e5, e14, st, hst, e8, e16⟩
      · have z7 := i_lt.mp c7
        rw [i_0, b7] at z7
        have z5 := a7.2.2 z7
        have e7i : (c 7).toInt = (τ 7).toInt - 1 := by rw [e7, b7, i_sub (by rw [i_1]; omega) (by rw [i_1]; omega), i_1]
        refine ⟨c0, by rw [e4, b4]; omega, by rw [e4, b4]; omega, by rw [e4, b4]; omega, by rw [e5, b5]; exact a5, by rw [e7i, e5, b5]; omega, by rw [e14, b14]; omega, fun _ => by rw [e5, e4, b5, b4]; omega, fun h => absurd (gb.mp hG) h⟩
      · have z7 := mt i_lt.mpr c7
        rw [i_0, b7] at z7
        have e4i : (c 4).toInt = (τ 4).toInt + (spd g nS b).toInt := by rw [e4, b4, i_add (by omega) (by omega)]
        rw [b5] at sp
        refine ⟨c0, by omega, by omega, by omega, by rw [e5]; omega, ?_, by rw [e14]; exact bk, fun _ => by rw [e5]; omega, fun h => absurd (gb.mp hG) h⟩
        rcases hst with ⟨j, hj, q7, -⟩ | ⟨-, q7, -⟩
        · have hd := hg.2 j (nxO_lt hj.1)
          have hz : (spd g nS b).toInt = 0 := by rw [hj.2.1]; exact i_0
          rw [q7, e5]
          omega
        · rw [q7, b7, e5]; omega
    · exact ⟨fun _ _ _ _ _ _ _ => rfl, by rw [b4]; omega, by rw [b4]; omega, by rw [b4]; omega, by rw [b5]; exact a5, by rw [b7, b5]; exact a7, by rw [b14]; omega, fun h => absurd (gb.mpr h) hG, fun _ => ⟨b4, b5⟩⟩
  obtain ⟨C0, C4, C40, C43, C5, C7, C14, CG, CN⟩ := C
  have c0 := C0 0 (by decide) (by decide) (by decide) (by decide) (by decide) (by decide)
  have c1 := C0 1 (by decide) (by decide) (by decide) (by decide) (by decide) (by decide)
  have c2 := C0 2 (by decide) (by decide) (by decide) (by decide) (by decide) (by decide)
  have c3 := C0 3 (by decide) (by decide) (by decide) (by decide) (by decide) (by decide)
  have c6 := C0 6 (by decide) (by decide) (by decide) (by decide) (by decide) (by decide)
  have c9 := C0 9 (by decide) (by decide) (by decide) (by decide) (by decide) (by decide)
  have c10 := C0 10 (by decide) (by decide) (by decide) (by decide) (by decide) (by decide)
  have c11 := C0 11 (by decide) (by decide) (by decide) (by decide) (by decide) (by decide)
  have c12 := C0 12 (by decide) (by decide) (by decide) (by decide) (by decide) (by decide)
  have c13 := C0 13 (by decide) (by decide) (by decide) (by decide) (by decide) (by decide)
  have c15 := C0 15 (by decide) (by decide) (by decide) (by decide) (by decide) (by decide)
  rw [b0] at c0; rw [b1] at c1; rw [b2] at c2; rw [b3] at c3; rw [b9] at c9; rw [b10] at c10; rw [b15] at c15
  -- behind the looking
  obtain ⟨D0, D10, D15⟩ := hd
  have d0 := (D0 0 (by decide) (by decide) (by decide) (by decide)).trans c0
  have d1 := (D0 1 (by decide) (by decide) (by decide) (by decide)).trans c1
  have d2 := (D0 2 (by decide) (by decide) (by decide) (by decide)).trans c2
  have d3 := (D0 3 (by decide) (by decide) (by decide) (by decide)).trans c3
  have d4 := D0 4 (by decide) (by decide) (by decide) (by decide)
  have d6 := (D0 6 (by decide) (by decide) (by decide) (by decide)).trans c6
  have d7 := D0 7 (by decide) (by decide) (by decide) (by decide)
  have d9 := (D0 9 (by decide) (by decide) (by decide) (by decide)).trans c9
  have d11 := (D0 11 (by decide) (by decide) (by decide) (by decide)).trans c11
  have d12 := (D0 12 (by decide) (by decide) (by decide) (by decide)).trans c12
  have d13 := (D0 13 (by decide) (by decide) (by decide) (by decide)).trans c13
  have d14 := D0 14 (by decide) (by decide) (by decide) (by decide)
  rw [c9, c6, c15] at D15
  rw [c10] at D10
  -- the left ones don't move
  have hleft : τ 9 = 1 → c 4 = τ 4 ∧ c 5 = τ 5 := fun h => CN (fun hG => absurd (h.symm.trans hG.1) (by decide))
  have hhead : τ 9 = 0 → (τ 4).toInt - (τ 0).toInt + 1 ≤ 2999 := fun h => by
    refine Int.not_lt.mp (fun hx => ?_)
    rw [hl.mpr hx] at h
    exact absurd h (by decide)
  have c4r : (c 4).toInt ≤ 3300 := by
    rcases a9 with z | z
    · have := hhead z; omega
    · rw [(hleft z).1]; exact a4.2
  have hrd : (m_rear d).toInt = (c 4).toInt - (τ 0).toInt + 1 := by
    rw [rear_r (by rw [d0]; exact a0) (by rw [d4]; omega), d4, d0]
  obtain ⟨E0, E9⟩ := he
  have e0 := (E0 0 (by decide) (by decide)).trans d0
  have e1 := (E0 1 (by decide) (by decide)).trans d1
  have e2 := (E0 2 (by decide) (by decide)).trans d2
  have e3 := (E0 3 (by decide) (by decide)).trans d3
  have e4 := (E0 4 (by decide) (by decide)).trans d4
  have e6 := (E0 6 (by decide) (by decide)).trans d6
  have e7 := (E0 7 (by decide) (by decide)).trans d7
  have e10 := E0 10 (by decide) (by decide)
  have e11 := (E0 11 (by decide) (by decide)).trans d11
  have e12 := (E0 12 (by decide) (by decide)).trans d12
  have e13 := (E0 13 (by decide) (by decide)).trans d13
  have e14 := (E0 14 (by decide) (by decide)).trans d14
  have e15 := E0 15 (by decide) (by decide)
  rw [d9, i_le, hrd, i_2999] at E9
  -- the speed at the end
  have d5 : (d 10 = τ 10 ∧ d 5 = c 5) ∨ (d 10 = 1 ∧ d 5 = 0 ∧ τ 9 = 0) := by
    rcases D10 with h | ⟨h1, h2, h3⟩
    · exact Or.inl h
    · exact Or.inr ⟨h1, h2, by rw [← c9]; exact h3⟩
  have s5 : ((e 5).toInt = (c 5).toInt ∧ e 5 = c 5 ∧ e 10 = τ 10 ∧ e 9 = τ 9) ∨ ((e 5).toInt = 0 ∧ (e 10 = 1 ∨ e 9 = 1)) := by
    rcases d5 with ⟨h1, h2⟩ | ⟨h1, h2, h3⟩
    · rcases E9 with ⟨q1, q2, q3, q4⟩ | ⟨q1, q2, q3⟩
      · exact Or.inr ⟨by rw [q4]; exact i_0, Or.inr q3⟩
      · exact Or.inl ⟨by rw [q3, h2], by rw [q3, h2], by rw [e10, h1], q2⟩
    · rcases E9 with ⟨q1, q2, q3, q4⟩ | ⟨q1, q2, q3⟩
      · exact Or.inr ⟨by rw [q4]; exact i_0, Or.inr q3⟩
      · exact Or.inr ⟨by rw [q3, h2]; exact i_0, Or.inl (by rw [e10, h1])⟩
  have b10e : b01 (e 10) := by
    rw [e10]
    rcases d5 with ⟨h1, -⟩ | ⟨h1, -⟩
    · rw [h1]; exact a10
    · rw [h1]; exact b01_1
  have b9e : b01 (e 9) := by
    rcases E9 with ⟨q1, q2, q3, q4⟩ | ⟨q1, q2, q3⟩
    · rw [q3]; exact b01_1
    · rw [q2]; exact a9
  have l9 : e 9 = 1 ↔ 2999 < (e 4).toInt - (e 0).toInt + 1 := by
    rw [e4, e0]
    rcases E9 with ⟨q1, q2, q3, q4⟩ | ⟨q1, q2, q3⟩
    · exact ⟨fun _ => by omega, fun _ => q3⟩
    · rw [q2]
      rcases a9 with z | z
      · refine ⟨fun h => ?_, fun h => absurd ⟨z, by omega⟩ q1⟩
        rw [z] at h
        exact absurd h (by decide)
      · refine ⟨fun _ => ?_, fun _ => z⟩
        have := hl.mp z
        have := (hleft z).1
        rw [this]; omega
  have one : τ 9 = 1 → e 9 = 1 := fun h => by
    rcases E9 with ⟨q1, q2, q3, q4⟩ | ⟨q1, q2, q3⟩
    · exact q3
    · rw [q2]; exact h
  have cra : τ 10 = 1 → e 10 = 1 := fun h => by
    rw [e10]
    rcases d5 with ⟨h1, -⟩ | ⟨h1, -⟩
    · rw [h1]; exact h
    · exact h1
  have hz5 : (τ 9 = 1 ∨ τ 10 = 1) → c 4 = τ 4 ∧ (c 5).toInt = 0 := fun h => by
    have hn : ¬ GoX τ := fun hG => by
      rcases h with h | h
      · exact absurd (h.symm.trans hG.1) (by decide)
      · exact absurd (h.symm.trans hG.2) (by decide)
    rw [(CN hn).2]
    exact ⟨(CN hn).1, hz h⟩
  have z59 : (e 9 = 1 ∨ e 10 = 1) → (e 5).toInt = 0 := fun h => by
    rcases s5 with ⟨q1, -, q2, q3⟩ | ⟨q1, -⟩
    · rw [q2, q3] at h
      rw [q1]
      exact (hz5 h).2
    · exact q1
  have e5r : 0 ≤ (e 5).toInt ∧ (e 5).toInt ≤ 40 ∧ (0 < (e 7).toInt → (e 5).toInt = 0) := by
    rw [e7]
    rcases s5 with ⟨q1, -⟩ | ⟨q1, -⟩
    · rw [q1]; exact ⟨C5.1, C5.2, C7.2.2⟩
    · omega
  have e15i : 0 ≤ (e 15).toInt ∧ (e 15).toInt ≤ (n + 1 : Nat) ∧ ((e 15).toInt = 0 → (e 4).toInt ≤ (e 6).toInt) := by
    rw [e15, D15, e4, e6]
    by_cases cc : τ 9 = 0 ∧ ¬ c 4 ≤ b 6
    · rw [if_pos cc, i_add (by rw [i_1]; omega) (by rw [i_1]; omega), i_1]; omega
    · rw [if_neg cc]
      refine ⟨a15.1, by omega, fun h0 => ?_⟩
      rcases a9 with z | z
      · exact i_le.mp (Classical.byContradiction fun hx => cc ⟨z, hx⟩)
      · rw [(hleft z).1]; exact B15 h0
  refine ⟨⟨by rw [e0]; exact a0, by rw [e1]; exact a1, by rw [e2]; exact a2, by rw [e0, e4]; omega, ⟨e5r.1, e5r.2.1⟩, by rw [e6]; exact B6, ⟨by rw [e7]; exact C7.1, by rw [e7]; exact C7.2.1, e5r.2.2⟩, by rw [e3]; exact a3, b9e, b10e, l9, z59, by rw [e11, e4]; omega, by rw [e12, e4, e0]; omega, by rw [e13]; exact B13, e15i, by rw [e14]; exact C14⟩, ?_⟩
  refine ⟨by rw [e4]; exact C4, by rw [e4]; exact C40, by rw [e4]; exact C43, fun h => by rw [e4]; exact (hz5 h).1, one, cra, fun h1 h2 => ?_, fun hH => ⟨by rw [e13]; exact (BH hH).1, by rw [e11]; exact (BH hH).2.1, by rw [e6]; exact (BH hH).2.2⟩, fun hH => by rw [e13]; exact BN hH, e0⟩
  rw [e4]
  rcases s5 with ⟨q1, -, q2, q3⟩ | ⟨q1, q2⟩
  · rw [q1]
    exact CG ⟨by rw [← q3]; exact h1, by rw [← q2]; exact h2⟩
  · rcases q2 with q2 | q2
    · rw [q2] at h2; exact absurd h2 (by decide)
    · rw [q2] at h1; exact absurd h1 (by decide)
