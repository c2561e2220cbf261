theorem dL_reaches_15 : decode cL_reaches 15 = .ok (.astore 5, 2) := by decide +kernel
theorem dL_reaches_17 : decode cL_reaches 17 = .ok (.iconst 1, 1) := by decide +kernel
theorem dL_reaches_18 : decode cL_reaches 18 = .ok (.ireturn, 1) := by decide +kernel
theorem dL_worksIn_15 : decode cL_worksIn 15 = .ok (.astore 5, 2) := by decide +kernel
theorem dL_worksIn_17 : decode cL_worksIn 17 = .ok (.iconst 1, 1) := by decide +kernel
theorem dL_worksIn_18 : decode cL_worksIn 18 = .ok (.ireturn, 1) := by decide +kernel
theorem dL_worksIn_19 : decode cL_worksIn 19 = .ok (.astore 5, 2) := by decide +kernel
theorem dL_worksIn_21 : decode cL_worksIn 21 = .ok (.iconst 2, 1) := by decide +kernel
theorem dL_worksIn_22 : decode cL_worksIn 22 = .ok (.ireturn, 1) := by decide +kernel
theorem nw_X3 : ∀ j, j < 2 → defaultValue (tyX3 j) = vp_V [.null, .null] j := by
  intro j hj
  match j, hj with
  | 0, _ => rfl
  | 1, _ => rfl
  | k + 2, h => exact absurd h (by omega)
