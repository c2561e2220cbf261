/-! The stations that are to come, as bits 0 to 3. -/
def B4 (s : Int32) : Prop := ∃ a : Nat, a < 16 ∧ s = nI a
def bI (s : Int32) : Int := (m_bc s).toInt
theorem b4_fin {P : Int32 → Prop} (h : ∀ a : Fin 16, P (nI a.val)) {s : Int32} (hs : B4 s) : P s := by
  obtain ⟨a, ha, rfl⟩ := hs
  exact h ⟨a, ha⟩
theorem b4_of : ∀ a : Fin 16, B4 (nI a.val) := fun a => ⟨a.val, a.isLt, rfl⟩
theorem b4_and {s x : Int32} (hs : B4 s) (hx : B4 x) : B4 (s &&& x) ∧ 0 ≤ bI (s &&& x) ∧ bI (s &&& x) ≤ bI s ∧ ∀ k, k < 4 → ¬ m_bit (s &&& x) k = 0 → ¬ m_bit s k = 0 ∧ ¬ m_bit x k = 0 := by
  obtain ⟨a, ha, rfl⟩ := hs
  obtain ⟨b, hb, rfl⟩ := hx
  have h := (by decide +kernel : ∀ a b : Fin 16, (nI a.val &&& nI b.val = nI (a.val &&& b.val) ∧ a.val &&& b.val < 16 ∧ 0 ≤ bI (nI a.val &&& nI b.val) ∧ bI (nI a.val &&& nI b.val) ≤ bI (nI a.val) ∧ ∀ k : Fin 4, ¬ m_bit (nI a.val &&& nI b.val) k.val = 0 → ¬ m_bit (nI a.val) k.val = 0 ∧ ¬ m_bit (nI b.val) k.val = 0)) ⟨a, ha⟩ ⟨b, hb⟩
  exact ⟨⟨_, h.2.1, h.1⟩, h.2.2.1, h.2.2.2.1, fun k hk => h.2.2.2.2 ⟨k, hk⟩⟩
theorem b4_clr {s : Int32} (hs : B4 s) {j : Nat} (hj : j < 4) (hb : ¬ m_bit s j = 0) : B4 (s &&& (((1 : Int32) <<< (nI j &&& 31)) ^^^ (-1))) ∧ bI (s &&& (((1 : Int32) <<< (nI j &&& 31)) ^^^ (-1))) = bI s - 1 ∧ ∀ k, k < 4 → ¬ m_bit (s &&& (((1 : Int32) <<< (nI j &&& 31)) ^^^ (-1))) k = 0 → ¬ m_bit s k = 0 := by
  obtain ⟨a, ha, rfl⟩ := hs
  have h := (by decide +kernel : ∀ (a : Fin 16) (j : Fin 4), ¬ m_bit (nI a.val) j.val = 0 → (nI a.val &&& (((1 : Int32) <<< (nI j.val &&& 31)) ^^^ (-1)) = nI (a.val - 2 ^ j.val) ∧ bI (nI a.val &&& (((1 : Int32) <<< (nI j.val &&& 31)) ^^^ (-1))) = bI (nI a.val) - 1 ∧ ∀ k : Fin 4, ¬ m_bit (nI a.val &&& (((1 : Int32) <<< (nI j.val &&& 31)) ^^^ (-1))) k.val = 0 → ¬ m_bit (nI a.val) k.val = 0)) ⟨a, ha⟩ ⟨j, hj⟩ hb
  exact ⟨⟨_, Nat.lt_of_le_of_lt (Nat.sub_le _ _) ha, h.1⟩, h.2.1, fun k hk => h.2.2 ⟨k, hk⟩⟩
theorem b4_r {s : Int32} (hs : B4 s) : 0 ≤ bI s ∧ bI s ≤ 4 := b4_fin (P := fun s => 0 ≤ bI s ∧ bI s ≤ 4) (by decide +kernel) hs
theorem k4 {k : Nat} (h : k < 4) : k = 0 ∨ k = 1 ∨ k = 2 ∨ k = 3 := by omega
theorem p16 {k : Nat} (h : k < 4) : 2 ^ k ≤ 16 := by rcases k4 h with rfl | rfl | rfl | rfl <;> decide
theorem bit_0 {q : Nat} (h : q < 4) : m_bit 0 q = 0 := by rcases k4 h with rfl | rfl | rfl | rfl <;> decide
theorem b4_0 : B4 0 := ⟨0, by decide, rfl⟩
/-- only bits below k -/
def Blo (s : Int32) (k : Nat) : Prop := ∃ a : Nat, a < 2 ^ k ∧ s = nI a
theorem blo_or {s : Int32} {k : Nat} (hk : k < 4) (hs : Blo s k) : Blo (s ||| ((1 : Int32) <<< (nI k &&& 31))) (k + 1) ∧ bI (s ||| ((1 : Int32) <<< (nI k &&& 31))) = bI s + 1 ∧ ∀ q, q < 4 → ¬ m_bit (s ||| ((1 : Int32) <<< (nI k &&& 31))) q = 0 → q = k ∨ ¬ m_bit s q = 0 := by
  obtain ⟨a, ha, rfl⟩ := hs
  have ha16 : a < 16 := Nat.lt_of_lt_of_le ha (p16 hk)
  have h := (by decide +kernel : ∀ (k : Fin 4) (a : Fin 16), a.val < 2 ^ k.val → (nI a.val ||| ((1 : Int32) <<< (nI k.val &&& 31)) = nI (a.val + 2 ^ k.val) ∧ bI (nI a.val ||| ((1 : Int32) <<< (nI k.val &&& 31))) = bI (nI a.val) + 1 ∧ ∀ q : Fin 4, ¬ m_bit (nI a.val ||| ((1 : Int32) <<< (nI k.val &&& 31))) q.val = 0 → q.val = k.val ∨ ¬ m_bit (nI a.val) q.val = 0)) ⟨k, hk⟩ ⟨a, ha16⟩ ha
  exact ⟨⟨a + 2 ^ k, by rw [Nat.pow_succ]; omega, h.1⟩, h.2.1, fun q hq => h.2.2 ⟨q, hq⟩⟩
/-- how many stations are at x or ahead of it -/
def cntA (f : Nat → Int32) (x : Int32) : Nat → Nat
  | 0 => 0
  | k + 1 => cntA f x k + (if f k < x then 0 else 1)
theorem sf_at (f : Nat → Int32) (x : Int32) : ∀ n : Nat, n ≤ 4 → Blo (m_sf f x n) n ∧ bI (m_sf f x n) = cntA f x n ∧ ∀ q, q < 4 → ¬ m_bit (m_sf f x n) q = 0 → ¬ f q < x
  | 0, _ => ⟨⟨0, by decide, rfl⟩, (by decide : bI 0 = ((0 : Nat) : Int)), fun q hq h => absurd (bit_0 hq) h⟩
  | k + 1, hk => by
    obtain ⟨a1, a2, a3⟩ := sf_at f x k (by omega)
    rw [m_sf, cntA]
    by_cases c : f k < x
    · rw [if_pos c, if_pos c]
      obtain ⟨a, ha, e⟩ := a1
      exact ⟨⟨a, by rw [Nat.pow_succ]; omega, e⟩, a2, a3⟩
    · rw [if_neg c, if_neg c]
      obtain ⟨b1, b2, b3⟩ := blo_or (by omega) a1
      refine ⟨b1, by rw [b2, a2]; omega, fun q hq h => ?_⟩
      rcases b3 q hq h with e | h2
      · subst e; exact c
      · exact a3 q hq h2
theorem blo_b4 {s : Int32} {n : Nat} (hn : n ≤ 4) (h : Blo s n) : B4 s := by
  obtain ⟨a, ha, e⟩ := h
  have : n = 0 ∨ n = 1 ∨ n = 2 ∨ n = 3 ∨ n = 4 := by omega
  rcases this with rfl | rfl | rfl | rfl | rfl <;> exact ⟨a, by simp at ha; omega, e⟩
theorem sf_b4 (f : Nat → Int32) (x : Int32) {n : Nat} (hn : n ≤ 4) : B4 (m_sf f x n) := blo_b4 hn (sf_at f x n hn).1
theorem nxO_bit {f : Nat → Int32} {st : Int32} : ∀ {n j : Nat}, nxO f st n = some j → ¬ m_bit st j = 0
  | 0, _, h => by cases h
  | k + 1, j, h => by
    unfold nxO at h
    by_cases c : m_bit st k = 0
    · rw [if_pos c] at h; exact nxO_bit h
    · rw [if_neg c] at h
      cases e : nxO f st k with
      | none => rw [e] at h; cases h; exact c
      | some i =>
        rw [e] at h
        by_cases c2 : f i ≤ f k
        · simp only [if_pos c2] at h; cases h; exact nxO_bit e
        · simp only [if_neg c2] at h; cases h; exact c
theorem nxO_pos {f : Nat → Int32} {st : Int32} {n j : Nat} (hn : n ≤ 4) (hs : B4 st) (h : nxO f st n = some j) : 0 < bI st := by
  have hj := nxO_lt h
  have h2 := b4_clr hs (by omega) (nxO_bit h)
  have h3 := b4_r h2.1
  omega
/-- what holds of a train's stations: c: how many were to come when it came -/
def BI (g : Nat → Nat → Int32) (nS : Nat) (τ : Nat → Int32) (c : Int) : Prop := B4 (τ 8) ∧ (∀ j, j < nS → ¬ m_bit (τ 8) j = 0 → (τ 4).toInt ≤ (g 3 j).toInt) ∧ 0 ≤ (τ 16).toInt ∧ (τ 16).toInt + bI (τ 8) ≤ c ∧ c ≤ 4
theorem BI.same {g : Nat → Nat → Int32} {nS : Nat} {τ σ : Nat → Int32} {c : Int} (h : BI g nS τ c) (e4 : σ 4 = τ 4) (e8 : σ 8 = τ 8) (e16 : σ 16 = τ 16) : BI g nS σ c := by
  unfold BI
  rw [e4, e8, e16]
  exact h
/-- the row of what stopped there, and the train's own: together the same -/
theorem BI.go {g : Nat → Nat → Int32} {nS : Nat} {τ σ : Nat → Int32} {c : Int} (hn : nS ≤ 4) (h : BI g nS τ c) (hF : GoF g nS τ σ) :
    BI g nS σ c ∧ ((0 < τ 7 ∧ (σ 16).toInt + bI (σ 8) = (τ 16).toInt + bI (τ 8)) ∨ (¬ 0 < τ 7 ∧ (∃ j, StaF g nS τ j) ∧ (σ 16).toInt + bI (σ 8) = (τ 16).toInt + bI (τ 8) - 1) ∨ (¬ 0 < τ 7 ∧ (¬ ∃ j, StaF g nS τ j) ∧ (σ 16).toInt + bI (σ 8) = (τ 16).toInt + bI (τ 8))) := by
  obtain ⟨b1, b2, b3, b4, b5⟩ := h
  obtain ⟨-, hF⟩ := hF
  have hr := b4_r b1
  rcases hF with ⟨c7, e4, e5, e7, e8, e14, e16⟩ | ⟨c7, e4, e5, e14, st, hst, e8, e16⟩
  · refine ⟨?_, Or.inl ⟨c7, by rw [e8, e16]⟩⟩
    unfold BI
    rw [e4, e8, e16]
    exact ⟨b1, b2, b3, b4, b5⟩
  · have hs : B4 st ∧ (bI st = bI (τ 8) ∨ bI st = bI (τ 8) - 1) ∧ ∀ k, k < 4 → ¬ m_bit st k = 0 → ¬ m_bit (τ 8) k = 0 := by
      rcases hst with ⟨j, hS, -, rfl⟩ | ⟨-, -, rfl⟩
      · have hj := nxO_lt hS.1
        obtain ⟨q1, q2, q3⟩ := b4_clr b1 (j := j) (by omega) (nxO_bit hS.1)
        exact ⟨q1, Or.inr q2, q3⟩
      · exact ⟨b1, Or.inl rfl, fun _ _ h => h⟩
    obtain ⟨s1, s2, s3⟩ := hs
    obtain ⟨m1, m2, m3⟩ := sf_at (g 3) (τ 4 + spd g nS τ) nS hn
    obtain ⟨d1, d2, d3, d4⟩ := b4_and s1 (blo_b4 hn m1)
    have hsr := b4_r s1
    have e16i : (σ 16).toInt = (τ 16).toInt + (bI st - bI (σ 8)) := by
      rw [e16, e8]
      have w1 : (m_bc st - m_bc (st &&& m_sf (g 3) (τ 4 + spd g nS τ) nS)).toInt = bI st - bI (st &&& m_sf (g 3) (τ 4 + spd g nS τ) nS) := by
        refine i_sub ?_ ?_ <;> (unfold bI at *; omega)
      rw [i_add (by rw [w1]; omega) (by rw [w1]; omega), w1]
    have key : (σ 16).toInt + bI (σ 8) = (τ 16).toInt + bI st := by omega
    rw [← e8] at d1 d2 d3 d4
    refine ⟨⟨d1, fun j hj hb => ?_, by omega, by rcases s2 with h | h <;> omega, b5⟩, ?_⟩
    · have hm := m3 j (by omega) (d4 j (by omega) hb).2
      rw [e4]
      have := mt i_lt.mpr hm
      omega
    · rcases hst with ⟨j, hS, -, e⟩ | ⟨hS, -, e⟩
      · have hj := nxO_lt hS.1
        have := (b4_clr b1 (j := j) (by omega) (nxO_bit hS.1)).2.1
        rw [← e] at this
        exact Or.inr (Or.inl ⟨c7, ⟨j, hS⟩, by omega⟩)
      · rw [e] at key
        exact Or.inr (Or.inr ⟨c7, hS, key⟩)
