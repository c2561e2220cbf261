/-! Int32 as integers. -/
theorem i_bmod {a : Int} (h1 : -2147483648 ≤ a) (h2 : a < 2147483648) : a.bmod (2 ^ 32) = a := by
  unfold Int.bmod
  dsimp only
  split <;> omega
theorem i_add {x y : Int32} (h1 : -2147483648 ≤ x.toInt + y.toInt) (h2 : x.toInt + y.toInt < 2147483648) : (x + y).toInt = x.toInt + y.toInt := by
  rw [Int32.toInt_add]
  exact i_bmod h1 h2
theorem i_sub {x y : Int32} (h1 : -2147483648 ≤ x.toInt - y.toInt) (h2 : x.toInt - y.toInt < 2147483648) : (x - y).toInt = x.toInt - y.toInt := by
  rw [Int32.toInt_sub]
  exact i_bmod h1 h2
theorem i_mul {x y : Int32} (h1 : -2147483648 ≤ x.toInt * y.toInt) (h2 : x.toInt * y.toInt < 2147483648) : (x * y).toInt = x.toInt * y.toInt := by
  rw [Int32.toInt_mul]
  exact i_bmod h1 h2
theorem i_le {x y : Int32} : x ≤ y ↔ x.toInt ≤ y.toInt := Int32.le_iff_toInt_le
theorem i_lt {x y : Int32} : x < y ↔ x.toInt < y.toInt := Int32.lt_iff_toInt_lt
theorem i_eq {x y : Int32} : x = y ↔ x.toInt = y.toInt := ⟨fun h => h ▸ rfl, fun h => Int32.toInt_inj.mp h⟩
theorem i_nI {j : Nat} (h : j < 2 ^ 31) : (nI j).toInt = j := nI_toInt h
theorem i_0 : (0 : Int32).toInt = 0 := by decide
theorem i_1 : (1 : Int32).toInt = 1 := by decide
theorem i_m1 : (-1 : Int32).toInt = -1 := by decide
theorem i_2999 : (2999 : Int32).toInt = 2999 := by decide
theorem m_min_i (x y : Int32) : (m_min x y).toInt ≤ x.toInt ∧ (m_min x y).toInt ≤ y.toInt ∧ ((m_min x y).toInt = x.toInt ∨ (m_min x y).toInt = y.toInt) := by
  unfold m_min
  by_cases c : y < x
  · rw [if_pos c]; have := i_lt.mp c; omega
  · rw [if_neg c]; have := mt i_lt.mpr c; omega
theorem m_max_i (x y : Int32) : x.toInt ≤ (m_max x y).toInt ∧ y.toInt ≤ (m_max x y).toInt ∧ ((m_max x y).toInt = x.toInt ∨ (m_max x y).toInt = y.toInt) := by
  unfold m_max
  by_cases c : x < y
  · rw [if_pos c]; have := i_lt.mp c; omega
  · rw [if_neg c]; have := mt i_lt.mpr c; omega
theorem b01_i {x : Int32} (h : b01 x) : x.toInt = 0 ∨ x.toInt = 1 := by
  rcases h with rfl | rfl
  · exact Or.inl i_0
  · exact Or.inr i_1
theorem b01_n0 {x : Int32} (h : b01 x) (h2 : ¬ x = 0) : x = 1 := h.resolve_left h2
theorem up_at {f : Nat → Nat → Int32} {i j : Nat} {v : Int32} : up2 f i j v i j = v := by rw [up2_s]; exact if_pos rfl
theorem up_nj {f : Nat → Nat → Int32} {i j y : Nat} {v : Int32} (h : y ≠ j) : up2 f i j v i y = f i y := by rw [up2_s]; exact if_neg h
theorem up_ni {f : Nat → Nat → Int32} {i j x : Nat} {v : Int32} (h : x ≠ i) : up2 f i j v x = f x := up2_n h
