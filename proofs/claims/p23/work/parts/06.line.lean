/-! What the line's methods answer and do. t: the trains' fields; g: the rows (05). nT, nS, nW: how many trains, stations, works. -/
def m_us (x s : Int32) : Int32 := (x.toUInt32 >>> (s.toUInt32 &&& Int32.toUInt32 31)).toInt32
def m_bc1 (x : Int32) : Int32 := x - (m_us x 1 &&& 1431655765)
def m_bc2 (x : Int32) : Int32 := (x &&& 858993459) + (m_us x 2 &&& 858993459)
def m_bc3 (x : Int32) : Int32 := (x + m_us x 4) &&& 252645135
def m_bc4 (x : Int32) : Int32 := x + m_us x 8
def m_bc5 (x : Int32) : Int32 := x + m_us x 16
def m_bc (x : Int32) : Int32 := m_bc5 (m_bc4 (m_bc3 (m_bc2 (m_bc1 x)))) &&& 63
def m_min (x y : Int32) : Int32 := if y < x then y else x
def m_max (x y : Int32) : Int32 := if x < y then y else x
def m_hold (g1 τ : Nat → Int32) : Int32 := m_max 1 (τ 1 + g1 (secN (τ 4)))
def m_way (g3 τ : Nat → Int32) (nS : Nat) : Int32 := match nxO g3 (τ 8) nS with
  | none => τ 6 - τ 4
  | some j => m_min (τ 6 - τ 4) (g3 j - τ 4)
def m_srch (h w : Int32) : Nat → Int32
  | 0 => 0
  | n + 1 => if m_stop (nI (n + 1)) h ≤ w then nI (n + 1) else m_srch h w n
def m_allow (g : Nat → Nat → Int32) (τ : Nat → Int32) (nS : Nat) : Int32 := m_srch (m_hold (g 1) τ) (m_way (g 3) τ nS) (m_lim (g 0) (m_rear τ) (τ 4)).toNatClampNeg
def m_fresh (now : Int32) (τ : Nat → Int32) : Int32 := if 3 < now - τ 13 then 0 else 1
def m_ahead (t : Nat → Nat → Int32) (i : Nat) : Option Nat := match i with
  | 0 => none
  | j + 1 => if t j 9 = 0 then some j else none
def m_ba (g : Nat → Nat → Int32) (t : Nat → Nat → Int32) (i : Nat) : Int32 := match m_ahead t i with
  | none => 1000000
  | some j => if m_fresh (g 8 1) (t j) = 0 then m_first (m_sec (t j 12)) - 1 else t j 12 - 10
def m_bound (g t : Nat → Nat → Int32) (i nW : Nat) : Int32 := m_min (m_min (2999 + t i 0) (m_ba g t i)) (m_bw (g 6) (t i 4) nW)
def m_why (g t : Nat → Nat → Int32) (i nW : Nat) : Int32 :=
  if ¬ t i 4 ≤ m_bound g t i nW then 4 else if m_bound g t i nW = 2999 + t i 0 then 0 else match m_ahead t i with
  | none => 3
  | some j => if m_bound g t i nW = m_ba g t i then (if m_fresh (g 8 1) (t j) = 0 then 2 else 1) else 3
def m_radio (g : Nat → Nat → Int32) (τ : Nat → Int32) : Int32 := g 2 (secN (τ 4))
def m_present (t : Nat → Nat → Int32) : Nat → Int32
  | 0 => 0
  | k + 1 => m_present t k + (if t k 9 = 0 then 1 else 0)
def m_crashed (t : Nat → Nat → Int32) : Nat → Int32
  | 0 => 0
  | k + 1 => m_crashed t k + (if t k 10 = 0 then 0 else 1)
def m_on (t : Nat → Nat → Int32) (f l : Int32) : Nat → Int32
  | 0 => 0
  | k + 1 => m_on t f l k + (if t k 9 = 0 then (if m_isOn (t k) f l = 0 then 0 else 1) else 0)
def m_speeds (t : Nat → Nat → Int32) : Nat → Int32
  | 0 => 0
  | k + 1 => m_speeds t k + t k 5
def m_tot (t : Nat → Nat → Int32) (w : Int32) : Nat → Int32
  | 0 => 0
  | k + 1 => m_tot t w k + (if w = 6 then t k 14 else if w = 7 then t k 15 else if w = 8 then t k 16 else m_gone (t k))
def m_repAll (g : Nat → Nat → Int32) (s : Int32) (t : Nat → Nat → Int32) : Nat → Nat → Nat → Int32
  | 0 => t
  | k + 1 => if m_repAll g s t k k 9 = 0 then (if nI k = s then m_repAll g s t k else if m_radio g (m_repAll g s t k k) = 0 then m_repAll g s t k else m_report (m_repAll g s t k) k (g 8 1)) else m_repAll g s t k
def m_authAll (g : Nat → Nat → Int32) (nW : Nat) (t : Nat → Nat → Int32) : Nat → Nat → Nat → Int32
  | 0 => t
  | k + 1 => if m_authAll g nW t k k 9 = 0 then (if m_radio g (m_authAll g nW t k k) = 0 then m_authAll g nW t k else up2 (m_authAll g nW t k) k 6 (m_max (m_bound g (m_authAll g nW t k) k nW) (m_authAll g nW t k k 4))) else m_authAll g nW t k
abbrev LnS : Type := (Nat → Nat → Int32) × (Nat → Nat → Int32)
def m_stopAt (t g : Nat → Nat → Int32) (i nS : Nat) : LnS := match nxO (g 3) (t i 8) nS with
  | none => (t, g)
  | some j => if t i 5 = 0 then (if g 3 j = t i 4 then (up2 (up2 t i 7 (g 4 j)) i 8 (t i 8 &&& (((1 : Int32) <<< (nI j &&& 31)) ^^^ (-1))), up2 g 5 j (g 5 j + 1)) else (t, g)) else (t, g)
def m_miss (t g : Nat → Nat → Int32) (i nS : Nat) : Nat → Nat → Int32 := up2 (up2 t i 16 (t i 16 + (m_bc (t i 8) - m_bc (t i 8 &&& m_sf (g 3) (t i 4) nS)))) i 8 (t i 8 &&& m_sf (g 3) (t i 4) nS)
def m_go1 (t g : Nat → Nat → Int32) (i nS : Nat) : Nat → Nat → Int32 :=
  if m_allow g (t i) nS ≤ t i 5 then (if t i 5 ≤ m_allow g (t i) nS then t else up2 (up2 t i 5 (m_max (t i 5 - m_hold (g 1) (t i)) (m_allow g (t i) nS))) i 14 (t i 14 + 1)) else up2 t i 5 (m_min (t i 5 + t i 2) (m_allow g (t i) nS))
def m_go2 (t : Nat → Nat → Int32) (i : Nat) : Nat → Nat → Int32 := up2 t i 4 (t i 4 + t i 5)
def m_go (t g : Nat → Nat → Int32) (i nS : Nat) : LnS :=
  if 0 < t i 7 then (up2 t i 7 (t i 7 - 1), g) else
  (m_miss (m_stopAt (m_go2 (m_go1 t g i nS) i) g i nS).1 (m_stopAt (m_go2 (m_go1 t g i nS) i) g i nS).2 i nS, (m_stopAt (m_go2 (m_go1 t g i nS) i) g i nS).2)
def m_goAll (s : Int32) (nS : Nat) (t g : Nat → Nat → Int32) : Nat → LnS
  | 0 => (t, g)
  | k + 1 => if (m_goAll s nS t g k).1 k 9 = 0 then (if (m_goAll s nS t g k).1 k 10 = 0 then (if nI k = s then m_goAll s nS t g k else m_go (m_goAll s nS t g k).1 (m_goAll s nS t g k).2 k nS) else m_goAll s nS t g k) else m_goAll s nS t g k
def m_look1 (t : Nat → Nat → Int32) (i : Nat) : Nat → Nat → Int32 := if t i 4 ≤ t i 6 then t else up2 t i 15 (t i 15 + 1)
def m_look (t : Nat → Nat → Int32) (i : Nat) : Nat → Nat → Int32 := match m_ahead (m_look1 t i) i with
  | none => m_look1 t i
  | some j => if 0 ≤ m_rear (m_look1 t i j) - m_look1 t i i 4 - 1 then up2 (m_look1 t i) i 17 (m_min (m_look1 t i i 17) (m_rear (m_look1 t i j) - m_look1 t i i 4 - 1))
    else m_crash (m_crash (up2 (m_look1 t i) i 17 (m_min (m_look1 t i i 17) (m_rear (m_look1 t i j) - m_look1 t i i 4 - 1))) i) j
def m_lookAll (t : Nat → Nat → Int32) : Nat → Nat → Nat → Int32
  | 0 => t
  | k + 1 => if m_lookAll t k k 9 = 0 then m_look (m_lookAll t k) k else m_lookAll t k
def m_out (t : Nat → Nat → Int32) (i : Nat) : Prop := t i 9 = 0 ∧ ¬ m_rear (t i) ≤ 2999
def m_leave (t : Nat → Nat → Int32) : Nat → (Nat → Nat → Int32) × Int32
  | 0 => (t, 0)
  | k + 1 => if (m_leave t k).1 k 9 = 0 then (if m_rear ((m_leave t k).1 k) ≤ 2999 then m_leave t k else (up2 (up2 (m_leave t k).1 k 9 1) k 5 0, (m_leave t k).2 + 1)) else m_leave t k
/-- the second, after now has grown -/
def m_sec2 (s : Int32) (nT nS nW : Nat) (t g : Nat → Nat → Int32) : LnS := m_goAll s nS (m_authAll g nW (m_repAll g s t nT) nT) g nT
def m_sec5 (s : Int32) (nT nS nW : Nat) (t g : Nat → Nat → Int32) : (Nat → Nat → Int32) × Int32 := m_leave (m_lookAll (m_sec2 s nT nS nW t g).1 nT) nT
def m_tick (g : Nat → Nat → Int32) : Nat → Nat → Int32 := up2 g 8 1 (g 8 1 + 1)
def m_goOn (s : Int32) (nT nS nW : Nat) (t g : Nat → Nat → Int32) : LnS := ((m_sec5 s nT nS nW t (m_tick g)).1, (m_sec2 s nT nS nW t (m_tick g)).2)
def m_goOnR (s : Int32) (nT nS nW : Nat) (t g : Nat → Nat → Int32) : Int32 := (m_sec5 s nT nS nW t (m_tick g)).2
theorem m_stopAt_g (t g : Nat → Nat → Int32) (i nS : Nat) {r : Nat} (h : r ≠ 5) : (m_stopAt t g i nS).2 r = g r := by
  unfold m_stopAt
  cases nxO (g 3) (t i 8) nS with
  | none => rfl
  | some j =>
    dsimp only
    by_cases c1 : t i 5 = 0 <;> by_cases c2 : g 3 j = t i 4 <;> simp [c1, c2, up2, h]
theorem m_go_g (t g : Nat → Nat → Int32) (i nS : Nat) {r : Nat} (h : r ≠ 5) : (m_go t g i nS).2 r = g r := by
  unfold m_go
  by_cases c : 0 < t i 7
  · rw [if_pos c]
  · rw [if_neg c]; exact m_stopAt_g _ g i nS h
theorem m_goAll_g (s : Int32) (nS : Nat) (t g : Nat → Nat → Int32) {r : Nat} (h : r ≠ 5) : ∀ k : Nat, (m_goAll s nS t g k).2 r = g r
  | 0 => rfl
  | k + 1 => by
    have ih := m_goAll_g s nS t g h k
    unfold m_goAll
    by_cases c1 : (m_goAll s nS t g k).1 k 9 = 0
    · by_cases c2 : (m_goAll s nS t g k).1 k 10 = 0
      · by_cases c3 : nI k = s
        · rw [if_pos c1, if_pos c2, if_pos c3]; exact ih
        · rw [if_pos c1, if_pos c2, if_neg c3, m_go_g _ _ _ _ h]; exact ih
      · rw [if_pos c1, if_neg c2]; exact ih
    · rw [if_neg c1]; exact ih
theorem nI_i0 {i : Nat} (hi : i < 4) (h : nI i - 1 < 0) : i = 0 := by
  rcases i with _ | i
  · rfl
  · rw [nI_pred] at h; exact absurd h (nI_pos (by omega))
theorem nI_i1 {i : Nat} (h : ¬ nI i - 1 < 0) : ∃ j : Nat, i = j + 1 := by
  rcases i with _ | i
  · exact absurd (by decide) h
  · exact ⟨i, rfl⟩
theorem m_ahead_lt {t : Nat → Nat → Int32} {i j : Nat} (h : m_ahead t i = some j) : i = j + 1 := by
  rcases i with _ | i
  · cases h
  · change (if t i 9 = 0 then some i else none) = some j at h
    by_cases c : t i 9 = 0
    · rw [if_pos c] at h; cases h; rfl
    · rw [if_neg c] at h; cases h
theorem nxI_nn {o : Option Nat} (ho : ∀ j, o = some j → j < 2 ^ 31) (h : nxI o = -1) : o = none := by
  cases o with
  | none => rfl
  | some j => exact absurd h (nI_m1 (ho j rfl))
theorem toNC_lt (x : Int32) : x.toNatClampNeg < 2 ^ 31 := by
  by_cases h : x < 0
  · have h1 := Int32.lt_iff_toInt_lt.mp h
    have h2 : x.toNatClampNeg = x.toInt.toNat := rfl
    have h3 : (0 : Int32).toInt = 0 := by decide
    omega
  · obtain ⟨j, hj, rfl⟩ := nI_of h
    rw [nI_clamp hj]; exact hj
theorem toNC_or (x : Int32) : x = nI x.toNatClampNeg ∨ (x.toNatClampNeg = 0 ∧ x ≤ 0) := by
  by_cases h : x < 0
  · have h1 := Int32.lt_iff_toInt_lt.mp h
    have h2 : x.toNatClampNeg = x.toInt.toNat := rfl
    have h3 : (0 : Int32).toInt = 0 := by decide
    exact Or.inr ⟨by omega, Int32.le_iff_toInt_le.mpr (by omega)⟩
  · obtain ⟨j, hj, rfl⟩ := nI_of h
    rw [nI_clamp hj]; exact Or.inl rfl
def m_add (t g : Nat → Nat → Int32) (nT nS : Nat) (len br pu stop : Int32) : Nat → Nat → Int32 :=
  m_report (up2 (up2 (up2 (up2 (up2 (up2 t nT 0 len) nT 1 br) nT 2 pu) nT 4 (len - 1)) nT 6 (len - 1)) nT 8 (if stop = 0 then 0 else m_sf (g 3) (len - 1) nS)) nT (g 8 1)
def m_h3 (t : Nat → Nat → Int32) (m : Int32) : Nat → Int32
  | 0 => 0
  | k + 1 => if m_h3 t m k = 0 then (if t k 9 = 0 ∧ t k 4 < m ∧ m ≤ t k 6 then (-3) else 0) else (-3)
def m_hind (t : Nat → Nat → Int32) (f l : Int32) (nT : Nat) : Int32 := if 0 < m_on t f l nT then (-2) else m_h3 t (m_first f) nT
theorem h3_no {t : Nat → Nat → Int32} {m : Int32} {k : Nat} (h : m_h3 t m k = 0) (hn : ¬ (t k 9 = 0 ∧ t k 4 < m ∧ m ≤ t k 6)) : m_h3 t m (k + 1) = 0 := by rw [m_h3, if_pos h, if_neg hn]
theorem h3_yes {t : Nat → Nat → Int32} {m : Int32} {k n : Nat} (hk : k < n) (hy : t k 9 = 0 ∧ t k 4 < m ∧ m ≤ t k 6) : m_h3 t m n = -3 := by
  have key : ∀ d : Nat, m_h3 t m (k + 1 + d) = -3 := by
    intro d
    induction d with
    | zero =>
      show m_h3 t m (k + 1) = -3
      rw [m_h3]
      by_cases c : m_h3 t m k = 0
      · rw [if_pos c, if_pos hy]
      · rw [if_neg c]
    | succ d ih =>
      show m_h3 t m (k + 1 + d + 1) = -3
      rw [m_h3, if_neg (by rw [ih]; decide)]
  obtain ⟨d, rfl⟩ : ∃ d, n = k + 1 + d := ⟨n - (k + 1), by omega⟩
  exact key d
