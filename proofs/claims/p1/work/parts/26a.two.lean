/-- the rows of sections, of stations, of trains -/
def Se (p n K : Nat) : Prop := (p = 1 ∧ n = 20 ∧ K = 3) ∨ (p = 22 ∧ n = 4 ∧ K = 3) ∨ (p = 27 ∧ n = 4 ∧ K = 21)
theorem Se.le {p n K : Nat} (h : Se p n K) : n ≤ 20 ∧ K ≤ 21 := by
  rcases h with ⟨rfl, rfl, rfl⟩ | ⟨rfl, rfl, rfl⟩ | ⟨rfl, rfl, rfl⟩ <;> decide
theorem pm {a c : va_W} {x g : Nat × va_E} : (a ++ ([x, g] ++ c)).Perm ((a ++ ([x] ++ c)) ++ [g]) := by
  have e : (a ++ ([x] ++ c)) ++ [g] = a ++ (x :: (c ++ [g])) := by simp
  rw [e]
  exact List.Perm.append_left a (List.Perm.cons x (List.perm_append_singleton g c).symm)
theorem m_in_pos {x b : Int32} (h : ¬ m_in x 1 b = 0) : ¬ x < 0 := by
  intro c
  refine h ?_
  unfold m_in
  rw [if_pos]
  refine Int32.lt_iff_toInt_lt.mpr ?_
  have h1 := Int32.lt_iff_toInt_lt.mp c
  have h2 : (1 : Int32).toInt = 1 := by decide
  have h3 : (0 : Int32).toInt = 0 := by decide
  omega
section
variable {D : va_G} {cI : ClassId} {r r2 : Nat → Nat} {F F2 : Nat → Nat → Int32} {v v2 : Nat → Int32} {e e2 p n K i : Nat} {f : Nat → Int32}
theorem W2_oa (h : Se p n K) : (WM D cI r F v e ++ WM D cI r2 F2 v2 e2)[p]? = some (r p, .inl (D.1 101, n, .inr (.inr (.inr (.inr (rf n (fun i => r (p + 1 + i)))))))) := by
  rcases h with ⟨rfl, rfl, rfl⟩ | ⟨rfl, rfl, rfl⟩ | ⟨rfl, rfl, rfl⟩ <;> rfl
theorem W2_oo (h : Se p n K) : (WM D cI r F v e ++ WM D cI r2 F2 v2 e2)[33 + p]? = some (r2 p, .inl (D.1 101, n, .inr (.inr (.inr (.inr (rf n (fun i => r2 (p + 1 + i)))))))) := by
  rcases h with ⟨rfl, rfl, rfl⟩ | ⟨rfl, rfl, rfl⟩ | ⟨rfl, rfl, rfl⟩ <;> rfl
theorem W2_ro (h : Se p n K) (hi : i < n) : (WM D cI r F v e ++ WM D cI r2 F2 v2 e2)[p + 1 + i]? = some (r (p + 1 + i), .inl (cI, K, .inl (F (p + 1 + i)))) := by
  rcases h with ⟨rfl, rfl, rfl⟩ | ⟨rfl, rfl, rfl⟩ | ⟨rfl, rfl, rfl⟩
  · match i, hi with
    | 0, _ => rfl
    | 1, _ => rfl
    | 2, _ => rfl
    | 3, _ => rfl
    | 4, _ => rfl
    | 5, _ => rfl
    | 6, _ => rfl
    | 7, _ => rfl
    | 8, _ => rfl
    | 9, _ => rfl
    | 10, _ => rfl
    | 11, _ => rfl
    | 12, _ => rfl
    | 13, _ => rfl
    | 14, _ => rfl
    | 15, _ => rfl
    | 16, _ => rfl
    | 17, _ => rfl
    | 18, _ => rfl
    | 19, _ => rfl
    | k + 20, h => exact absurd h (by omega)
  · match i, hi with
    | 0, _ => rfl
    | 1, _ => rfl
    | 2, _ => rfl
    | 3, _ => rfl
  · match i, hi with
    | 0, _ => rfl
    | 1, _ => rfl
    | 2, _ => rfl
    | 3, _ => rfl
theorem W2_rr (h : Se p n K) (hi : i < n) : (WM D cI r F v e ++ WM D cI r2 F2 v2 e2)[33 + (p + 1 + i)]? = some (r2 (p + 1 + i), .inl (cI, K, .inl (F2 (p + 1 + i)))) := by
  rcases h with ⟨rfl, rfl, rfl⟩ | ⟨rfl, rfl, rfl⟩ | ⟨rfl, rfl, rfl⟩
  · match i, hi with
    | 0, _ => rfl
    | 1, _ => rfl
    | 2, _ => rfl
    | 3, _ => rfl
    | 4, _ => rfl
    | 5, _ => rfl
    | 6, _ => rfl
    | 7, _ => rfl
    | 8, _ => rfl
    | 9, _ => rfl
    | 10, _ => rfl
    | 11, _ => rfl
    | 12, _ => rfl
    | 13, _ => rfl
    | 14, _ => rfl
    | 15, _ => rfl
    | 16, _ => rfl
    | 17, _ => rfl
    | 18, _ => rfl
    | 19, _ => rfl
    | k + 20, h => exact absurd h (by omega)
  · match i, hi with
    | 0, _ => rfl
    | 1, _ => rfl
    | 2, _ => rfl
    | 3, _ => rfl
  · match i, hi with
    | 0, _ => rfl
    | 1, _ => rfl
    | 2, _ => rfl
    | 3, _ => rfl
theorem W2_uu (h : Se p n K) (hi : i < n) : (WM D cI r F v e ++ WM D cI r2 F2 v2 e2).set (33 + (p + 1 + i)) (r2 (p + 1 + i), .inl (cI, K, .inl f)) = (WM D cI r F v e ++ WM D cI r2 (uf F2 (p + 1 + i) f) v2 e2) := by
  rcases h with ⟨rfl, rfl, rfl⟩ | ⟨rfl, rfl, rfl⟩ | ⟨rfl, rfl, rfl⟩
  · match i, hi with
    | 0, _ => rfl
    | 1, _ => rfl
    | 2, _ => rfl
    | 3, _ => rfl
    | 4, _ => rfl
    | 5, _ => rfl
    | 6, _ => rfl
    | 7, _ => rfl
    | 8, _ => rfl
    | 9, _ => rfl
    | 10, _ => rfl
    | 11, _ => rfl
    | 12, _ => rfl
    | 13, _ => rfl
    | 14, _ => rfl
    | 15, _ => rfl
    | 16, _ => rfl
    | 17, _ => rfl
    | 18, _ => rfl
    | 19, _ => rfl
    | k + 20, h => exact absurd h (by omega)
  · match i, hi with
    | 0, _ => rfl
    | 1, _ => rfl
    | 2, _ => rfl
    | 3, _ => rfl
  · match i, hi with
    | 0, _ => rfl
    | 1, _ => rfl
    | 2, _ => rfl
    | 3, _ => rfl
end
