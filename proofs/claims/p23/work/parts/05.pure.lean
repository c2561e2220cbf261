/-! What the small methods answer, as functions of the fields. -/
def m_sec (x : Int32) : Int32 := if 0 ≤ x then (if x ≤ 2999 then x / 150 else 19) else 0
def m_first (x : Int32) : Int32 := x * 150
def m_div (h : Int32) : Int32 := if 1 ≤ h then 2 * h else 2
def m_stop (v h : Int32) : Int32 := v + (v * (v - 1) + m_div h - 1) / m_div h
def m_in (x a b : Int32) : Int32 := if x < a then 0 else if b < x then 0 else 1
def m_rear (τ : Nat → Int32) : Int32 := τ 4 - τ 0 + 1
def m_gone (τ : Nat → Int32) : Int32 := τ 4 - (τ 0 - 1)
def m_isOn (τ : Nat → Int32) (f l : Int32) : Int32 := if m_sec (τ 4) < f then 0 else if l < m_sec (m_rear τ) then 0 else 1
def m_report (t : Nat → Nat → Int32) (i : Nat) (now : Int32) : Nat → Nat → Int32 := if t i 3 = 0 then up2 (up2 t i 11 (t i 4)) i 13 now else up2 (up2 (up2 t i 11 (t i 4)) i 12 (m_rear (t i))) i 13 now
def m_crash (t : Nat → Nat → Int32) (i : Nat) : Nat → Nat → Int32 := up2 (up2 t i 10 1) i 5 0
def m_gap (τ : Nat → Int32) : Int32 := if τ 17 = 1000000 then (-1) else τ 17
def m_now (τ : Nat → Int32) (w : Int32) : Int32 := if w = 0 then τ 4 else if w = 1 then m_rear τ else if w = 2 then τ 5 else if w = 3 then τ 6 else if w = 4 then (if τ 3 = 0 then 0 else 1) else if w = 5 then τ 7 else if τ 9 = 0 then (if τ 10 = 0 then 0 else 2) else 1
def m_kept (τ : Nat → Int32) (w : Int32) : Int32 := if w = 8 then τ 11 else if w = 9 then τ 12 else if w = 10 then τ 13 else if w = 11 then τ 14 else if w = 12 then τ 15 else if w = 13 then τ 16 else m_gap τ
theorem m_two {h : Int32} (h1 : 1 ≤ h) : ¬ 2 * h = 0 := by
  intro e
  have e2 := congrArg Int32.toInt e
  rw [Int32.toInt_mul] at e2
  have h2 : (1 : Int32).toInt ≤ h.toInt := Int32.le_iff_toInt_le.mp h1
  have h3 : (2 : Int32).toInt = 2 := by decide
  have h4 : (1 : Int32).toInt = 1 := by decide
  have h5 : (0 : Int32).toInt = 0 := by decide
  have h6 := Int32.toInt_lt h
  rw [h3, h5] at e2
  rw [h4] at h2
  have h7 := Int.dvd_of_bmod_eq_zero e2
  omega
theorem m_div0 (h : Int32) : ¬ m_div h = 0 := by
  unfold m_div
  by_cases c : 1 ≤ h
  · rw [if_pos c]; exact m_two c
  · rw [if_neg c]; decide
/-- a switch's number is none of its cases -/
theorem sw_no {x c : Int32} {z : Int} (h : ¬ x = c) (hz : c.toInt = z) : x.toInt ≠ z := fun e => h (Int32.toInt_inj.mp (by rw [e, hz]))
def secN (x : Int32) : Nat := (m_sec x).toNatClampNeg
theorem sec_N (x : Int32) : m_sec x = nI (secN x) ∧ secN x < 20 := by
  have key : ∃ j : Nat, j < 20 ∧ m_sec x = nI j := by
    unfold m_sec
    by_cases h : 0 ≤ x
    · rw [if_pos h]
      by_cases h2 : x ≤ 2999
      · rw [if_pos h2]
        obtain ⟨j, hj, rfl⟩ := nI_of (x := x) (fun z => absurd (Int32.lt_iff_toInt_lt.mp z) (by have := Int32.le_iff_toInt_le.mp h; omega))
        have h3 : j ≤ 2999 := (nI_leI hj (by decide)).mp h2
        exact ⟨j / 150, by omega, pk_div (d := 150) hj (by decide) (by decide)⟩
      · rw [if_neg h2]; exact ⟨19, by decide, rfl⟩
    · rw [if_neg h]; exact ⟨0, by decide, rfl⟩
  obtain ⟨j, hj, e⟩ := key
  have : secN x = j := by unfold secN; rw [e]; exact nI_clamp (by omega)
  rw [this]
  exact ⟨e, hj⟩
def m_ml (f : Nat → Int32) : Nat → Nat → Int32 → Int32
  | 0, _, acc => acc
  | n + 1, k, acc => m_ml f n (k + 1) (if f k < acc then f k else acc)
def m_lim (f : Nat → Int32) (x y : Int32) : Int32 := m_ml f (secN y + 1 - secN x) (secN x) 40
def m_bit (st : Int32) (k : Nat) : Int32 := st &&& ((1 : Int32) <<< (nI k &&& 31))
def m_sf (f : Nat → Int32) (x : Int32) : Nat → Int32
  | 0 => 0
  | k + 1 => if f k < x then m_sf f x k else m_sf f x k ||| ((1 : Int32) <<< (nI k &&& 31))
def nxO (f : Nat → Int32) (st : Int32) : Nat → Option Nat
  | 0 => none
  | k + 1 => if m_bit st k = 0 then nxO f st k else match nxO f st k with
    | none => some k
    | some j => if f j ≤ f k then some j else some k
def nxI (o : Option Nat) : Int32 := match o with
  | none => -1
  | some j => nI j
theorem nxO_lt {f : Nat → Int32} {st : Int32} : ∀ {n j : Nat}, nxO f st n = some j → j < n
  | 0, _, h => by cases h
  | k + 1, j, h => by
    unfold nxO at h
    by_cases c : m_bit st k = 0
    · rw [if_pos c] at h; exact Nat.lt_succ_of_lt (nxO_lt h)
    · rw [if_neg c] at h
      cases e : nxO f st k with
      | none => rw [e] at h; cases h; exact Nat.lt_succ_self _
      | some i =>
        rw [e] at h
        have hi := nxO_lt e
        by_cases c2 : f i ≤ f k
        · simp only [if_pos c2] at h; cases h; omega
        · simp only [if_neg c2] at h; cases h; omega
theorem nxI_some {o : Option Nat} (h : ¬ nxI o = -1) : ∃ j : Nat, o = some j ∧ nxI o = nI j := by
  cases o with
  | none => exact absurd rfl h
  | some j => exact ⟨j, rfl, rfl⟩
theorem nI_m1 {j : Nat} (h : j < 2 ^ 31) : ¬ nI j = -1 := by
  intro e
  have := congrArg Int32.toInt e
  rw [nI_toInt h, show (-1 : Int32).toInt = -1 by decide] at this
  omega
theorem nxI_none {f : Nat → Int32} {st : Int32} {n : Nat} (hn : n < 2 ^ 31) (h : nxI (nxO f st n) = -1) : nxO f st n = none := by
  cases e : nxO f st n with
  | none => rfl
  | some j => rw [e] at h; exact absurd h (nI_m1 (Nat.lt_trans (nxO_lt e) hn))
def m_bw (f : Nat → Int32) (h : Int32) : Nat → Int32
  | 0 => 1000000
  | k + 1 => if m_first (f k) ≤ h then m_bw f h k else if m_first (f k) - 1 < m_bw f h k then m_first (f k) - 1 else m_bw f h k
def m_sh (g : Nat → Nat → Int32) (j : Nat) : Nat → Nat → Nat → Int32
  | 0 => g
  | n + 1 => up2 (up2 (m_sh g j n) 6 (j + n) (m_sh g j n 6 (j + n + 1))) 7 (j + n) (m_sh g j n 7 (j + n + 1))
theorem m_sh8 (g : Nat → Nat → Int32) (j : Nat) : ∀ n : Nat, m_sh g j n 8 = g 8
  | 0 => rfl
  | n + 1 => m_sh8 g j n
theorem nI_lt' {a b : Nat} (h : nI a < nI b) (ha : a < 2 ^ 31) (hb : b < 2 ^ 31) : a < b := (nI_ltI ha hb).mp h
theorem nI_le' {a b : Nat} (h : nI a ≤ nI b) (ha : a < 2 ^ 31) (hb : b < 2 ^ 31) : a ≤ b := (nI_leI ha hb).mp h
theorem nI_nlt' {a b : Nat} (h : ¬ nI a < nI b) (ha : a < 2 ^ 31) (hb : b < 2 ^ 31) : b ≤ a := Nat.not_lt.mp fun z => h ((nI_ltI ha hb).mpr z)
theorem nI_nle' {a b : Nat} (h : ¬ nI a ≤ nI b) (ha : a < 2 ^ 31) (hb : b < 2 ^ 31) : b < a := Nat.not_le.mp fun z => h ((nI_leI ha hb).mpr z)
theorem kv {x y : Int32} (h : x = y) : some (Value.int x) = some (Value.int y) := congrArg (fun z => some (Value.int z)) h
