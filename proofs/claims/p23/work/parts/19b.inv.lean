/-! What every second keeps of a train: n: the second that it is. -/
def TI (τ : Nat → Int32) (n : Nat) : Prop :=
  (20 ≤ (τ 0).toInt ∧ (τ 0).toInt ≤ 200) ∧ (1 ≤ (τ 1).toInt ∧ (τ 1).toInt ≤ 4) ∧ (1 ≤ (τ 2).toInt ∧ (τ 2).toInt ≤ 3) ∧
  ((τ 0).toInt - 1 ≤ (τ 4).toInt ∧ (τ 4).toInt ≤ 3300) ∧ (0 ≤ (τ 5).toInt ∧ (τ 5).toInt ≤ 40) ∧ (0 ≤ (τ 6).toInt ∧ (τ 6).toInt ≤ 3300) ∧
  (0 ≤ (τ 7).toInt ∧ (τ 7).toInt ≤ 100 ∧ (0 < (τ 7).toInt → (τ 5).toInt = 0)) ∧ b01 (τ 3) ∧ b01 (τ 9) ∧ b01 (τ 10) ∧
  (τ 9 = 1 ↔ 2999 < (τ 4).toInt - (τ 0).toInt + 1) ∧ ((τ 9 = 1 ∨ τ 10 = 1) → (τ 5).toInt = 0) ∧
  (τ 11).toInt ≤ (τ 4).toInt ∧ (τ 12).toInt ≤ (τ 4).toInt - (τ 0).toInt + 1 ∧
  (0 ≤ (τ 13).toInt ∧ (τ 13).toInt ≤ n) ∧ (0 ≤ (τ 15).toInt ∧ (τ 15).toInt ≤ n ∧ ((τ 15).toInt = 0 → (τ 4).toInt ≤ (τ 6).toInt)) ∧ (0 ≤ (τ 14).toInt ∧ (τ 14).toInt ≤ n)
/-- the rows: limits, grades, metres, dwells -/
def GI (g : Nat → Nat → Int32) (nS : Nat) : Prop := (∀ c, c < 20 → 1 ≤ (g 0 c).toInt ∧ (g 0 c).toInt ≤ 40 ∧ -2 ≤ (g 1 c).toInt ∧ (g 1 c).toInt ≤ 2) ∧ ∀ c, c < nS → 0 ≤ (g 3 c).toInt ∧ (g 3 c).toInt ≤ 2999 ∧ 0 ≤ (g 4 c).toInt ∧ (g 4 c).toInt ≤ 60
theorem rear_i {τ : Nat → Int32} {n : Nat} (h : TI τ n) : (m_rear τ).toInt = (τ 4).toInt - (τ 0).toInt + 1 := by
  obtain ⟨a0, a1, a2, a4, -⟩ := h
  unfold m_rear
  have e1 : (τ 4 - τ 0).toInt = (τ 4).toInt - (τ 0).toInt := i_sub (by omega) (by omega)
  rw [i_add (by rw [e1, i_1]; omega) (by rw [e1, i_1]; omega), e1, i_1]
theorem hold_i {g : Nat → Nat → Int32} {nS : Nat} {τ : Nat → Int32} {n : Nat} (hg : GI g nS) (h : TI τ n) : 1 ≤ (m_hold (g 1) τ).toInt ∧ (m_hold (g 1) τ).toInt ≤ 6 := by
  obtain ⟨a0, a1, -⟩ := h
  obtain ⟨-, -, g1, g2⟩ := hg.1 _ (sec_N (τ 4)).2
  unfold m_hold
  have e : (τ 1 + g 1 (secN (τ 4))).toInt = (τ 1).toInt + (g 1 (secN (τ 4))).toInt := i_add (by omega) (by omega)
  have := m_max_i 1 (τ 1 + g 1 (secN (τ 4)))
  rw [e, i_1] at this
  omega
theorem ml_le (f : Nat → Int32) : ∀ (n k : Nat) (acc : Int32), (m_ml f n k acc).toInt ≤ acc.toInt
  | 0, _, _ => Int.le_refl _
  | n + 1, k, acc => by
    rw [m_ml]
    have h := ml_le f n (k + 1) (if f k < acc then f k else acc)
    by_cases c : f k < acc
    · rw [if_pos c] at h ⊢; have := i_lt.mp c; omega
    · rw [if_neg c] at h ⊢; exact h
theorem ml_ge (f : Nat → Int32) (hf : ∀ c, c < 20 → 1 ≤ (f c).toInt) : ∀ (n k : Nat) (acc : Int32), k + n ≤ 20 → 1 ≤ acc.toInt → 1 ≤ (m_ml f n k acc).toInt
  | 0, _, _, _, h => h
  | n + 1, k, acc, hk, h => by
    rw [m_ml]
    refine ml_ge f hf n (k + 1) _ (by omega) ?_
    by_cases c : f k < acc
    · rw [if_pos c]; exact hf k (by omega)
    · rw [if_neg c]; exact h
theorem lim_i {g : Nat → Nat → Int32} {nS : Nat} (hg : GI g nS) (x y : Int32) : 1 ≤ (m_lim (g 0) x y).toInt ∧ (m_lim (g 0) x y).toInt ≤ 40 := by
  unfold m_lim
  have hx := (sec_N x).2
  have hy := (sec_N y).2
  refine ⟨?_, ?_⟩
  · by_cases c : secN x ≤ secN y + 1
    · exact ml_ge _ (fun c hc => (hg.1 c hc).1) _ _ _ (by omega) (by decide)
    · have e : secN y + 1 - secN x = 0 := by omega
      rw [e]
      show 1 ≤ (40 : Int32).toInt
      decide
  · have h := ml_le (g 0) (secN y + 1 - secN x) (secN x) 40
    have e : (40 : Int32).toInt = 40 := by decide
    omega
theorem srch_i (h w : Int32) : ∀ n : Nat, n ≤ 40 → (m_srch h w n = 0) ∨ (∃ k : Nat, 1 ≤ k ∧ k ≤ n ∧ m_srch h w n = nI k ∧ m_stop (nI k) h ≤ w)
  | 0, _ => Or.inl rfl
  | n + 1, hn => by
    rw [m_srch]
    by_cases c : m_stop (nI (n + 1)) h ≤ w
    · rw [if_pos c]; exact Or.inr ⟨n + 1, by omega, by omega, rfl, c⟩
    · rw [if_neg c]
      rcases srch_i h w n (by omega) with e | ⟨k, h1, h2, h3, h4⟩
      · exact Or.inl e
      · exact Or.inr ⟨k, h1, by omega, h3, h4⟩
theorem toNC_le {x : Int32} {b : Nat} (h : x.toInt ≤ b) : x.toNatClampNeg ≤ b := by
  have h2 : x.toNatClampNeg = x.toInt.toNat := rfl
  omega
/-- the speed that it may have: 0, or one from which it can stop within its way -/
theorem allow_i {g : Nat → Nat → Int32} {nS : Nat} (hg : GI g nS) (τ : Nat → Int32) : m_allow g τ nS = 0 ∨ ∃ k : Nat, 1 ≤ k ∧ k ≤ 40 ∧ m_allow g τ nS = nI k ∧ m_stop (nI k) (m_hold (g 1) τ) ≤ m_way (g 3) τ nS := by
  unfold m_allow
  have hl : (m_lim (g 0) (m_rear τ) (τ 4)).toNatClampNeg ≤ 40 := toNC_le (lim_i hg _ _).2
  rcases srch_i (m_hold (g 1) τ) (m_way (g 3) τ nS) _ hl with e | ⟨k, h1, h2, h3, h4⟩
  · exact Or.inl e
  · exact Or.inr ⟨k, h1, by omega, h3, h4⟩
theorem allow_r {g : Nat → Nat → Int32} {nS : Nat} (hg : GI g nS) (τ : Nat → Int32) : 0 ≤ (m_allow g τ nS).toInt ∧ (m_allow g τ nS).toInt ≤ 40 := by
  rcases allow_i hg τ with e | ⟨k, h1, h2, h3, -⟩
  · rw [e, i_0]; omega
  · rw [h3, i_nI (by omega)]; omega
theorem way_le (f τ : Nat → Int32) (nS : Nat) : (m_way f τ nS).toInt ≤ (τ 6 - τ 4).toInt := by
  unfold m_way
  cases nxO f (τ 8) nS with
  | none => exact Int.le_refl _
  | some j => exact (m_min_i _ _).1
