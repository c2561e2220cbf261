theorem neg_or (x : Int32) : x < 0 ∨ ¬ x < 0 := Classical.em _
theorem sec_bad {k : Int32} (h : m_in k 0 19 = 0) : k < 0 ∨ ¬ k < 20 := by
  unfold m_in at h
  by_cases c : k < 0
  · exact Or.inl c
  · rw [if_neg c] at h
    by_cases d : (19 : Int32) < k
    · refine Or.inr fun e => ?_
      have h1 := Int32.lt_iff_toInt_lt.mp d
      have h2 := Int32.lt_iff_toInt_lt.mp e
      have h3 : (19 : Int32).toInt = 19 := by decide
      have h4 : (20 : Int32).toInt = 20 := by decide
      omega
    · rw [if_neg d] at h
      exact absurd h (by decide)
