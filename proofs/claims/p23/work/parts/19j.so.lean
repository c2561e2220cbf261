/-! What isSo asks of one train. -/
theorem qt (t g : Nat → Nat → Int32) (nS i : Nat) : q_trn t g nS i 0 = t i 4 ∧ q_trn t g nS i 1 = m_rear (t i) ∧ q_trn t g nS i 2 = t i 5 ∧ q_trn t g nS i 3 = t i 6 ∧ q_trn t g nS i 5 = t i 7 ∧ q_trn t g nS i 6 = nxI (nxO (g 3) (t i 8) nS) ∧ q_trn t g nS i 7 = (if t i 9 = 0 then (if t i 10 = 0 then 0 else 2) else 1) ∧ q_trn t g nS i 8 = t i 11 ∧ q_trn t g nS i 9 = t i 12 ∧ q_trn t g nS i 10 = t i 13 ∧ q_trn t g nS i 11 = t i 14 ∧ q_trn t g nS i 12 = t i 15 ∧ q_trn t g nS i 13 = t i 16 ∧ q_trn t g nS i 15 = nxI (m_ahead t i) := by
  refine ⟨rfl, rfl, rfl, rfl, rfl, rfl, rfl, rfl, rfl, rfl, rfl, rfl, rfl, rfl⟩
/-- the state that is told -/
def stt (τ : Nat → Int32) : Int32 := if τ 9 = 0 then (if τ 10 = 0 then 0 else 2) else 1
theorem stt_1 {τ : Nat → Int32} (h9 : b01 (τ 9)) : stt τ = 1 ↔ τ 9 = 1 := by
  unfold stt
  rcases h9 with h | h
  · rw [h, if_pos rfl]
    refine ⟨fun e => ?_, fun e => absurd e (by decide)⟩
    by_cases c : τ 10 = 0
    · rw [if_pos c] at e; exact absurd e (by decide)
    · rw [if_neg c] at e; exact absurd e (by decide)
  · rw [h, if_neg (by decide)]
theorem stt_0 {τ : Nat → Int32} (h9 : b01 (τ 9)) : stt τ = 0 ↔ GoX τ := by
  unfold stt GoX
  rcases h9 with h | h
  · rw [h, if_pos rfl]
    by_cases c : τ 10 = 0
    · rw [if_pos c]; exact ⟨fun _ => ⟨rfl, c⟩, fun _ => rfl⟩
    · rw [if_neg c]; exact ⟨fun e => absurd e (by decide), fun e => absurd e.2 c⟩
  · rw [h, if_neg (by decide)]; exact ⟨fun e => absurd e (by decide), fun e => absurd e.1 (by decide)⟩
theorem TI.b9 {τ : Nat → Int32} {n : Nat} (h : TI τ n) : b01 (τ 9) := h.2.2.2.2.2.2.2.2.1
theorem TI.rear {τ : Nat → Int32} {n : Nat} (h : TI τ n) : (m_rear τ).toInt = (τ 4).toInt - (τ 0).toInt + 1 ∧ 0 ≤ (m_rear τ).toInt ∧ (m_rear τ).toInt ≤ (τ 4).toInt := by
  have e := rear_i h
  have a0 := h.1
  have a4 := h.2.2.2.1
  omega
theorem TI.left {τ : Nat → Int32} {n : Nat} (h : TI τ n) : stt τ = 1 ↔ 2999 < (m_rear τ).toInt := by
  rw [stt_1 h.b9, h.rear.1]
  exact h.2.2.2.2.2.2.2.2.2.2.1
theorem may_r {t g : Nat → Nat → Int32} {nS i : Nat} (hg : GI g nS) : 0 ≤ (q_may t g nS i).toInt ∧ (q_may t g nS i).toInt ≤ 40 := by
  unfold q_may
  by_cases c : t i 9 = 0
  · rw [if_pos c]; exact allow_r hg _
  · rw [if_neg c, i_0]; omega
theorem div_0 {h : Int32} (h1 : 1 ≤ h.toInt ∧ h.toInt ≤ 6) : m_stop 0 h = 0 := by
  obtain ⟨j, hj, rfl⟩ := nI_of (x := h) (fun z => by have := i_lt.mp z; rw [i_0] at this; omega)
  rw [i_nI hj] at h1
  have : j = 1 ∨ j = 2 ∨ j = 3 ∨ j = 4 ∨ j = 5 ∨ j = 6 := by omega
  rcases this with rfl | rfl | rfl | rfl | rfl | rfl <;> decide +kernel
/-- from the speed that it may have it stops within its authority -/
theorem may_stops {t g : Nat → Nat → Int32} {nS i n : Nat} (hg : GI g nS) (h : TI (t i) n) : (q_stp t g i (q_may t g nS i)).toInt ≤ (m_max 0 (t i 6 - t i 4)).toInt := by
  have hm := m_max_i 0 (t i 6 - t i 4)
  have hh := hold_i hg h
  have z : (q_stp t g i 0).toInt ≤ (m_max 0 (t i 6 - t i 4)).toInt := by
    unfold q_stp
    rw [div_0 hh]
    exact hm.1
  unfold q_may
  by_cases c : t i 9 = 0
  · rw [if_pos c]
    rcases allow_i hg (t i) with e | ⟨k, k1, k2, e, hs⟩
    · rw [e]; exact z
    · rw [e]
      unfold q_stp
      have a := i_le.mp hs
      have b := way_le (g 3) (t i) nS
      omega
  · rw [if_neg c]; exact z
/-- the next station is not behind its head, and then some were to come -/
theorem next_i {t g : Nat → Nat → Int32} {nS i j : Nat} {c : Int} (hn : nS ≤ 4) (h : BI g nS (t i) c) (e : nxO (g 3) (t i 8) nS = some j) : (t i 4).toInt ≤ (g 3 j).toInt ∧ 0 < c := by
  have h1 := h.2.1 j (nxO_lt e) (nxO_bit e)
  have h2 := nxO_pos hn h.1 e
  have h3 := h.2.2.2.1
  have h4 := h.2.2.1
  omega
theorem miss_i {t g : Nat → Nat → Int32} {nS i : Nat} {c : Int} (h : BI g nS (t i) c) : (t i 16).toInt ≤ c := by
  have h2 := (b4_r h.1).1
  have h3 := h.2.2.2.1
  omega
/-- whom it has ahead -/
theorem ahead_i (t : Nat → Nat → Int32) (i : Nat) (h : ∀ j, j + 1 = i → b01 (t j 9)) : nxI (m_ahead t i) = (if 0 < i ∧ ¬ stt (t (i - 1)) = 1 then nI (i - 1) else -1) := by
  match i, h with
  | 0, _ => rfl
  | j + 1, h =>
    have h9 := h j rfl
    show nxI (if t j 9 = 0 then some j else none) = _
    rw [Nat.add_sub_cancel]
    by_cases c : t j 9 = 0
    · rw [if_pos c, if_pos ⟨Nat.succ_pos j, fun e => by rw [(stt_1 h9).mp e] at c; exact absurd c (by decide)⟩]
      rfl
    · rw [if_neg c, if_neg (fun e => e.2 ((stt_1 h9).mpr (h9.resolve_left c)))]
      rfl
/-! the sums -/
def q_left (t : Nat → Nat → Int32) : Nat → Int32
  | 0 => 0
  | k + 1 => q_left t k + (if stt (t k) = 1 then 1 else 0)
def q_run (t : Nat → Nat → Int32) : Nat → Int32
  | 0 => 0
  | k + 1 => q_run t k + (if stt (t k) = 1 then 0 else 1)
theorem run_eq {t : Nat → Nat → Int32} : ∀ n : Nat, (∀ i, i < n → b01 (t i 9)) → q_run t n = m_present t n
  | 0, _ => rfl
  | n + 1, h => by
    have h9 := h n (Nat.lt_succ_self n)
    rw [q_run, m_present, run_eq n (fun i hi => h i (by omega))]
    by_cases c : t n 9 = 0
    · rw [if_pos c, if_neg (fun e => by rw [(stt_1 h9).mp e] at c; exact absurd c (by decide))]
    · rw [if_neg c, if_pos ((stt_1 h9).mpr (h9.resolve_left c))]
theorem present_n (t : Nat → Nat → Int32) : ∀ n : Nat, ∃ p : Nat, p ≤ n ∧ m_present t n = nI p ∧ ((∀ i, i < n → b01 (t i 9)) → q_left t n = nI (n - p))
  | 0 => ⟨0, Nat.le_refl _, rfl, fun _ => rfl⟩
  | n + 1 => by
    obtain ⟨p, hp, e1, e2⟩ := present_n t n
    by_cases c : t n 9 = 0
    · refine ⟨p + 1, by omega, by rw [m_present, if_pos c, e1, ← nI_succ], fun h => ?_⟩
      have h9 := h n (Nat.lt_succ_self n)
      rw [q_left, if_neg (fun e => by rw [(stt_1 h9).mp e] at c; exact absurd c (by decide)), e2 (fun i hi => h i (by omega)), Int32.add_zero]
      congr 1
      omega
    · refine ⟨p, by omega, by rw [m_present, if_neg c, e1, Int32.add_zero], fun h => ?_⟩
      have h9 := h n (Nat.lt_succ_self n)
      rw [q_left, if_pos ((stt_1 h9).mpr (h9.resolve_left c)), e2 (fun i hi => h i (by omega)), ← nI_succ]
      congr 1
      omega
