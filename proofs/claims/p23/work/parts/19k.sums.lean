/-! The sums over trains, sections, stations. -/
def sN (f : Nat → Nat) : Nat → Nat
  | 0 => 0
  | n + 1 => sN f n + f n
theorem sN_congr {f h : Nat → Nat} : ∀ n : Nat, (∀ i, i < n → f i = h i) → sN f n = sN h n
  | 0, _ => rfl
  | n + 1, e => by rw [sN, sN, sN_congr n (fun i hi => e i (by omega)), e n (Nat.lt_succ_self n)]
theorem sN_le {f h : Nat → Nat} : ∀ n : Nat, (∀ i, i < n → f i ≤ h i) → sN f n ≤ sN h n
  | 0, _ => Nat.le_refl _
  | n + 1, e => by
    rw [sN, sN]
    have := sN_le n (fun i hi => e i (Nat.lt_succ_of_lt hi))
    have := e n (Nat.lt_succ_self n)
    omega
theorem sN_0 : ∀ n : Nat, sN (fun _ => 0) n = 0
  | 0 => rfl
  | n + 1 => by rw [sN, sN_0 n]
theorem sN_add {f h : Nat → Nat} : ∀ n : Nat, sN (fun i => f i + h i) n = sN f n + sN h n
  | 0 => rfl
  | n + 1 => by rw [sN, sN, sN, sN_add n]; omega
theorem sN_3 {f : Nat → Nat} : ∀ n : Nat, sN (fun i => 3 * f i) n = 3 * sN f n
  | 0 => rfl
  | n + 1 => by rw [sN, sN, sN_3 n]; omega
theorem sN_swap (F : Nat → Nat → Nat) (m : Nat) : ∀ n : Nat, sN (fun k => sN (fun i => F i k) m) n = sN (fun i => sN (fun k => F i k) n) m
  | 0 => by
    rw [sN]
    exact (sN_0 m).symm
  | n + 1 => by
    rw [sN, sN_swap F m n, ← sN_add]
    exact sN_congr m (fun i _ => rfl)
def onN (τ : Nat → Int32) (k : Nat) : Nat := if τ 9 = 0 then (if k ≤ secN (τ 4) ∧ secN (m_rear τ) ≤ k then 1 else 0) else 0
theorem isOn_k (τ : Nat → Int32) {k : Nat} (hk : k < 20) : m_isOn τ (nI k) (nI k) = (if k ≤ secN (τ 4) ∧ secN (m_rear τ) ≤ k then 1 else 0) := by
  obtain ⟨e1, h1⟩ := sec_N (τ 4)
  obtain ⟨e2, h2⟩ := sec_N (m_rear τ)
  unfold m_isOn
  rw [e1, e2]
  by_cases c1 : nI (secN (τ 4)) < nI k
  · rw [if_pos c1, if_neg (fun h => by have := nI_lt' c1 (by omega) (by omega); omega)]
  · rw [if_neg c1]
    have d1 := nI_nlt' c1 (by omega) (by omega)
    by_cases c2 : nI k < nI (secN (m_rear τ))
    · rw [if_pos c2, if_neg (fun h => by have := nI_lt' c2 (by omega) (by omega); omega)]
    · rw [if_neg c2, if_pos ⟨d1, nI_nlt' c2 (by omega) (by omega)⟩]
theorem on_n (t : Nat → Nat → Int32) {k : Nat} (hk : k < 20) : ∀ n : Nat, m_on t (nI k) (nI k) n = nI (sN (fun i => onN (t i) k) n)
  | 0 => rfl
  | n + 1 => by
    rw [m_on, on_n t hk n, isOn_k _ hk, sN]
    unfold onN
    by_cases c : t n 9 = 0
    · rw [if_pos c, if_pos c]
      by_cases d : k ≤ secN (t n 4) ∧ secN (m_rear (t n)) ≤ k
      · rw [if_pos d, if_pos d, if_neg (by decide), nI_succ]
      · rw [if_neg d, if_neg d, if_pos rfl, Int32.add_zero, Nat.add_zero]
    · rw [if_neg c, if_neg c, Int32.add_zero, Nat.add_zero]
def q_there (t : Nat → Nat → Int32) (nT : Nat) : Nat → Int32
  | 0 => 0
  | k + 1 => q_there t nT k + m_on t (nI k) (nI k) nT
theorem nI_add' (a b : Nat) : nI a + nI b = nI (a + b) := by
  induction b with
  | zero => exact Int32.add_zero _
  | succ b ih => rw [nI_succ, ← Int32.add_assoc, ih, ← nI_succ]; rfl
theorem there_n (t : Nat → Nat → Int32) (nT : Nat) : ∀ k : Nat, k ≤ 20 → q_there t nT k = nI (sN (fun k => sN (fun i => onN (t i) k) nT) k)
  | 0, _ => rfl
  | k + 1, h => by rw [q_there, there_n t nT k (by omega), on_n t (by omega), sN, nI_add']
theorem sec_i {x : Int32} (h : 0 ≤ x.toInt) : (x.toInt ≤ 2999 ∧ (secN x : Int) = x.toInt / 150) ∨ (2999 < x.toInt ∧ secN x = 19) := by
  have h0 : (0 : Int32) ≤ x := i_le.mpr (by rw [i_0]; exact h)
  unfold secN m_sec
  rw [if_pos h0]
  by_cases c : x ≤ 2999
  · rw [if_pos c]
    have hc := i_le.mp c
    rw [i_2999] at hc
    refine Or.inl ⟨hc, ?_⟩
    obtain ⟨j, hj, rfl⟩ := nI_of (x := x) (fun z => absurd (i_lt.mp z) (by rw [i_0]; omega))
    rw [i_nI hj] at hc ⊢
    rw [show nI j / 150 = nI (j / 150) from pk_div (d := 150) hj (by decide) (by decide), nI_clamp (by omega)]
    omega
  · rw [if_neg c]
    have hc := mt i_le.mpr c
    rw [i_2999] at hc
    exact Or.inr ⟨by omega, by decide⟩
theorem cnt_ab : ∀ a b : Fin 20, a.val ≤ b.val → sN (fun k => if k ≤ b.val ∧ a.val ≤ k then 1 else 0) 20 = b.val + 1 - a.val := by decide +kernel
theorem on_13 {τ : Nat → Int32} {n : Nat} (h : TI τ n) : (τ 9 = 0 → 1 ≤ sN (onN τ) 20 ∧ sN (onN τ) 20 ≤ 3) ∧ (¬ τ 9 = 0 → sN (onN τ) 20 = 0) := by
  refine ⟨fun h9 => ?_, fun h9 => ?_⟩
  · have hr := h.rear
    have a0 := h.1
    have a4 := h.2.2.2.1
    have e : sN (onN τ) 20 = sN (fun k => if k ≤ secN (τ 4) ∧ secN (m_rear τ) ≤ k then 1 else 0) 20 := sN_congr 20 (fun k _ => by unfold onN; rw [if_pos h9])
    have s4 := sec_i (x := τ 4) (by omega)
    have s1 := sec_i (x := m_rear τ) hr.2.1
    have l4 := (sec_N (τ 4)).2
    have l1 := (sec_N (m_rear τ)).2
    have hab : secN (m_rear τ) ≤ secN (τ 4) ∧ secN (τ 4) ≤ secN (m_rear τ) + 2 := by
      rcases s4 with ⟨p, q⟩ | ⟨p, q⟩ <;> rcases s1 with ⟨p', q'⟩ | ⟨p', q'⟩ <;> omega
    rw [e, cnt_ab ⟨_, l1⟩ ⟨_, l4⟩ hab.1]
    dsimp only
    omega
  · have e : sN (onN τ) 20 = sN (fun _ => 0) 20 := sN_congr 20 (fun k _ => by unfold onN; rw [if_neg h9])
    rw [e, sN_0]
/-- who is there, counted by sections: one to three times each -/
theorem there_r {t : Nat → Nat → Int32} {nT n : Nat} (hT : nT ≤ 4) (h : ∀ i, i < nT → TI (t i) n) : ∃ N p : Nat, q_there t nT 20 = nI N ∧ m_present t nT = nI p ∧ p ≤ N ∧ N ≤ 3 * p ∧ p ≤ 4 := by
  have pres : ∀ n : Nat, m_present t n = nI (sN (fun i => if t i 9 = 0 then 1 else 0) n) := by
    intro n
    induction n with
    | zero => rfl
    | succ n ih =>
      rw [m_present, ih, sN]
      by_cases c : t n 9 = 0
      · rw [if_pos c, if_pos c, nI_succ]
      · rw [if_neg c, if_neg c, Int32.add_zero, Nat.add_zero]
  have sw := sN_swap (fun i k => onN (t i) k) nT 20
  refine ⟨_, _, there_n t nT 20 (Nat.le_refl _), pres nT, ?_, ?_, ?_⟩
  · rw [sw]
    refine sN_le nT (fun i hi => ?_)
    by_cases c : t i 9 = 0
    · rw [if_pos c]; exact ((on_13 (h i hi)).1 c).1
    · rw [if_neg c]; exact Nat.zero_le _
  · rw [sw, ← sN_3]
    refine sN_le nT (fun i hi => ?_)
    by_cases c : t i 9 = 0
    · rw [if_pos c]; exact ((on_13 (h i hi)).1 c).2
    · rw [if_neg c]; exact Nat.le_of_eq ((on_13 (h i hi)).2 c)
  · have := sN_le (f := fun i => if t i 9 = 0 then 1 else 0) (h := fun _ => 1) nT (fun i _ => by split <;> omega)
    have e : sN (fun _ => 1) nT = nT := by
      have : nT = 0 ∨ nT = 1 ∨ nT = 2 ∨ nT = 3 ∨ nT = 4 := by omega
      rcases this with rfl | rfl | rfl | rfl | rfl <;> rfl
    omega
/-- a sum of ints that stays small -/
def s32 (f : Nat → Int32) : Nat → Int32
  | 0 => 0
  | n + 1 => s32 f n + f n
theorem s32_i {f : Nat → Int32} : ∀ n : Nat, (∀ i, i < n → 0 ≤ (f i).toInt) → sI (fun i => (f i).toInt) n < 1000000 → (s32 f n).toInt = sI (fun i => (f i).toInt) n
  | 0, _, _ => rfl
  | n + 1, h, hb => by
    rw [sI] at hb ⊢
    have a := sI_nn (f := fun i => (f i).toInt) n (fun i hi => h i (by omega))
    have b := h n (Nat.lt_succ_self n)
    have ih := s32_i n (fun i hi => h i (by omega)) (by omega)
    rw [s32, i_add (by omega) (by omega), ih]
/-- stops and misses are no more than the calls -/
theorem stops_i {t g : Nat → Nat → Int32} {nT nS nW n : Nat} {f : Nat → Int32} (h : LI t g nT nS nW n (fun i => (f i).toInt)) : s32 (g 5) nS + m_tot t 8 nT ≤ s32 f nT := by
  obtain ⟨hok, hg, hnow, hT, hfr, hgap, h5, hpot, hcl⟩ := h
  obtain ⟨-, nT4, -, nS4, -⟩ := hok
  have c16 := cl_sum nT4 hcl
  have et : ∀ k : Nat, m_tot t 8 k = s32 (fun i => t i 16) k := by
    intro k
    induction k with
    | zero => rfl
    | succ k ih => rw [m_tot, ih, s32]; rfl
  have t16 : ∀ i, i < nT → 0 ≤ (t i 16).toInt := fun i hi => (hT i hi).2.2.2.1
  have tb : ∀ i, i < nT → 0 ≤ bI (t i 8) := fun i hi => (b4_r (hT i hi).2.1).1
  have le1 : sI (fun i => (t i 16).toInt) nT ≤ sI (tQ t) nT := sI_le nT (fun i hi => by unfold tQ; have := tb i hi; omega)
  have n1 := sI_nn (f := rI g) nS h5
  have n2 := sI_nn (f := fun i => (t i 16).toInt) nT t16
  unfold Pot at hpot
  have e1 : (s32 (g 5) nS).toInt = sI (rI g) nS := s32_i nS h5 (by unfold rI at *; omega)
  have e2 : (m_tot t 8 nT).toInt = sI (fun i => (t i 16).toInt) nT := by rw [et]; exact s32_i nT t16 (by omega)
  have e3 : (s32 f nT).toInt = sI (fun i => (f i).toInt) nT := s32_i nT (fun i hi => (hcl i (by omega)).1) (by omega)
  refine i_le.mpr ?_
  rw [i_add (by omega) (by omega), e1, e2, e3]
  omega
/-- speeds -/
theorem speeds_n {t : Nat → Nat → Int32} {n : Nat} : ∀ k : Nat, k ≤ 4 → (∀ i, i < k → TI (t i) n) → ∃ s : Nat, s ≤ 40 * k ∧ m_speeds t k = nI s ∧ (m_present t k = 0 → s = 0)
  | 0, _, _ => ⟨0, Nat.le_refl _, rfl, fun _ => rfl⟩
  | k + 1, hk, h => by
    obtain ⟨s, h1, h2, h3⟩ := speeds_n k (by omega) (fun i hi => h i (by omega))
    obtain ⟨p, hp, e1, -⟩ := present_n t k
    have hk' := h k (Nat.lt_succ_self k)
    have a5 := hk'.2.2.2.2.1
    obtain ⟨j, hj, e⟩ := nI_of (x := t k 5) (fun z => by have := i_lt.mp z; rw [i_0] at this; omega)
    rw [e, i_nI hj] at a5
    refine ⟨s + j, by omega, by rw [m_speeds, h2, e, nI_add'], fun hp0 => ?_⟩
    rw [m_present, e1] at hp0
    by_cases c : t k 9 = 0
    · rw [if_pos c, ← nI_succ] at hp0
      have := congrArg Int32.toInt hp0
      rw [i_nI (by omega), i_0] at this
      omega
    · rw [if_neg c, Int32.add_zero, ← e1] at hp0
      have z := hk'.2.2.2.2.2.2.2.2.2.2.2.1 (Or.inl (hk'.b9.resolve_left c))
      rw [e, i_nI hj] at z
      have := h3 hp0
      omega
