/-! What the small methods answer, as functions of the fields. -/
def m_sec (x : Int32) : Int32 := if 0 ≤ x then (if x ≤ 2999 then x / 150 else 19) else 0
def m_first (x : Int32) : Int32 := x * 150
def m_div (h : Int32) : Int32 := if 1 ≤ h then 2 * h else 2
def m_stop (v h : Int32) : Int32 := v + (v * (v - 1) + m_div h - 1) / m_div h
def m_in (x a b : Int32) : Int32 := if x < a then 0 else if b < x then 0 else 1
def m_rear (τ : Nat → Int32) : Int32 := τ 4 - τ 0 + 1
def m_gone (τ : Nat → Int32) : Int32 := τ 4 - (τ 0 - 1)
def m_isOn (τ : Nat → Int32) (f l : Int32) : Int32 := if m_sec (τ 4) < f then 0 else if l < m_sec (m_rear τ) then 0 else 1
def m_report (t : Nat → Nat → Int32) (i : Nat) (now : Int32) : Nat → Nat → Int32 := if t i 3 = 0 then up2 (up2 t i 11 (t i 4)) i 13 now else up2 (up2 (up2 t i 11 (t i 4)) i 12 (m_rear (t i))) i 13 now
def m_crash (t : Nat → Nat → Int32) (i : Nat) : Nat → Nat → Int32 := up2 (up2 t i 10 1) i 5 0
def m_gap (τ : Nat → Int32) : Int32 := if τ 17 = 1000000 then (-1) else τ 17
def m_now (τ : Nat → Int32) (w : Int32) : Int32 := if w = 0 then τ 4 else if w = 1 then m_rear τ else if w = 2 then τ 5 else if w = 3 then τ 6 else if w = 4 then (if τ 3 = 0 then 0 else 1) else if w = 5 then τ 7 else if τ 9 = 0 then (if τ 10 = 0 then 0 else 2) else 1
def m_kept (τ : Nat → Int32) (w : Int32) : Int32 := if w = 8 then τ 11 else if w = 9 then τ 12 else if w = 10 then τ 13 else if w = 11 then τ 14 else if w = 12 then τ 15 else if w = 13 then τ 16 else m_gap τ
theorem m_two {h : Int32} (h1 : 1 ≤ h) : ¬ 2 * h = 0 := by
  intro e
  have e2 := congrArg Int32.toInt e
  rw [Int32.toInt_mul] at e2
  have h2 : (1 : Int32).toInt ≤ h.toInt := Int32.le_iff_toInt_le.mp h1
  have h3 : (2 : Int32).toInt = 2 := by decide
  have h4 : (1 : Int32).toInt = 1 := by decide
  have h5 : (0 : Int32).toInt = 0 := by decide
  have h6 := Int32.toInt_lt h
  rw [h3, h5] at e2
  rw [h4] at h2
  have h7 := Int.dvd_of_bmod_eq_zero e2
  omega
theorem m_div0 (h : Int32) : ¬ m_div h = 0 := by
  unfold m_div
  by_cases c : 1 ≤ h
  · rw [if_pos c]; exact m_two c
  · rw [if_neg c]; decide
/-- a switch's number, as one of its cases or none -/
theorem sw_in {x : Int32} {n : Nat} (hn : n < 2 ^ 31) (h : x = nI n) : x.toInt = (n : Int) := by rw [h]; exact nI_toInt hn
