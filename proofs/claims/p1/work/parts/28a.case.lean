theorem V_dropL {X : VC} {kc ks pc : Nat} {w g : va_W} {lv : List (Nat × Value)} {st : List Value} (k : V X kc ks g lv pc st) : V X kc ks (w ++ g) lv pc st :=
  V_perm List.perm_append_comm (V_drop k)
theorem V_dropM {X : VC} {kc ks pc : Nat} {w g : va_W} {lv : List (Nat × Value)} {st : List Value} (k : V X kc ks g lv pc st) : V X kc ks ([] ++ (w ++ g)) lv pc st := V_dropL (w := []) (V_dropL k)
theorem m_in0or (x a b : Int32) : m_in x a b = 0 ∨ m_in x a b = 1 := m_in01 x a b
theorem ne1 {x : Int32} (h : x = 1) : ¬ x = 0 := by rw [h]; decide
theorem m_in19 {k : Int32} (h : m_in k 0 19 = 1) : ∃ i : Nat, i < 20 ∧ k = nI i := by
  obtain ⟨i, hi, e⟩ := m_inI (B := 19) (by decide) (ne1 h)
  exact ⟨i, by omega, e⟩
theorem x_sec_c (k l g : Int32) : (m_in k 0 19 = 0 ∧ x_sec k l g = 1) ∨ (∃ i : Nat, i < 20 ∧ k = nI i ∧ (m_in l 1 40 = 0 ∨ m_in g (-2) 2 = 0) ∧ x_sec k l g = 2) ∨ (∃ i : Nat, i < 20 ∧ k = nI i ∧ m_in l 1 40 = 1 ∧ m_in g (-2) 2 = 1 ∧ x_sec k l g = 0) := by
  rcases m_in0or k 0 19 with h | h
  · exact Or.inl ⟨h, by simp [x_sec, h]⟩
  · obtain ⟨i, hi, rfl⟩ := m_in19 h
    rcases m_in0or l 1 40 with h1 | h1
    · exact Or.inr (Or.inl ⟨i, hi, rfl, Or.inl h1, by simp [x_sec, h, h1]⟩)
    · rcases m_in0or g (-2) 2 with h2 | h2
      · exact Or.inr (Or.inl ⟨i, hi, rfl, Or.inr h2, by simp [x_sec, h, h1, h2]⟩)
      · exact Or.inr (Or.inr ⟨i, hi, rfl, h1, h2, by simp [x_sec, h, h1, h2]⟩)
theorem x_sta_c (k d : Int32) : ((m_in k 0 2999 = 0 ∨ m_in d 0 60 = 0) ∧ x_sta k d = 1) ∨ (m_in k 0 2999 = 1 ∧ m_in d 0 60 = 1 ∧ x_sta k d = 0) := by
  rcases m_in0or k 0 2999 with h | h
  · exact Or.inl ⟨Or.inl h, by simp [x_sta, h]⟩
  · rcases m_in0or d 0 60 with h1 | h1
    · exact Or.inl ⟨Or.inr h1, by simp [x_sta, h, h1]⟩
    · exact Or.inr ⟨h, h1, by simp [x_sta, h, h1]⟩
theorem x_trn_c (k b p : Int32) : ((m_in k 20 200 = 0 ∨ m_in b 1 4 = 0 ∨ m_in p 1 3 = 0) ∧ x_trn k b p = 1) ∨ (m_in k 20 200 = 1 ∧ m_in b 1 4 = 1 ∧ m_in p 1 3 = 1 ∧ x_trn k b p = 0) := by
  rcases m_in0or k 20 200 with h | h
  · exact Or.inl ⟨Or.inl h, by simp [x_trn, h]⟩
  · rcases m_in0or b 1 4 with h1 | h1
    · exact Or.inl ⟨Or.inr (Or.inl h1), by simp [x_trn, h, h1]⟩
    · rcases m_in0or p 1 3 with h2 | h2
      · exact Or.inl ⟨Or.inr (Or.inr h2), by simp [x_trn, h, h1, h2]⟩
      · exact Or.inr ⟨h, h1, h2, by simp [x_trn, h, h1, h2]⟩
theorem nI_or (i j : Nat) (hi : i < 20) (hj : j < 20) : nI j < nI i ∨ i ≤ j := by
  by_cases h : i ≤ j
  · exact Or.inr h
  · exact Or.inl (nI_lt (by omega) (by omega))
theorem x_wrk_c (f l : Int32) : (m_in f 0 19 = 0 ∧ x_wrk f l = 1) ∨ (∃ i : Nat, i < 20 ∧ f = nI i ∧ m_in l 0 19 = 0 ∧ x_wrk f l = 1) ∨ (∃ i j : Nat, i < 20 ∧ j < 20 ∧ f = nI i ∧ l = nI j ∧ nI j < nI i ∧ x_wrk f l = 2) ∨ (∃ i j : Nat, i < 20 ∧ j < 20 ∧ f = nI i ∧ l = nI j ∧ i ≤ j ∧ x_wrk f l = 0) := by
  rcases m_in0or f 0 19 with h | h
  · exact Or.inl ⟨h, by simp [x_wrk, h]⟩
  · obtain ⟨i, hi, rfl⟩ := m_in19 h
    rcases m_in0or l 0 19 with h1 | h1
    · exact Or.inr (Or.inl ⟨i, hi, rfl, h1, by simp [x_wrk, h, h1]⟩)
    · obtain ⟨j, hj, rfl⟩ := m_in19 h1
      rcases nI_or i j hi hj with h2 | h2
      · exact Or.inr (Or.inr (Or.inl ⟨i, j, hi, hj, rfl, rfl, h2, by simp [x_wrk, h, h1, h2]⟩))
      · exact Or.inr (Or.inr (Or.inr ⟨i, j, hi, hj, rfl, rfl, h2, by rw [x_wrk, if_neg (ne1 h), if_neg (ne1 h1), if_neg (nI_nlt h2 (by omega))]⟩))
theorem m_in_n {n : Int32} {b : Int32} {B : Nat} (hb : b.toInt = B) (h : m_in n 1 b = 1) : ∃ i : Nat, i ≤ B ∧ n = nI i := by
  obtain ⟨i, -, hi, e⟩ := m_inI1 hb (ne1 h)
  exact ⟨i, hi, e⟩
theorem x_pas_c (n : Int32) : (m_in n 1 300 = 0 ∧ x_pas n = 1) ∨ (∃ i : Nat, i ≤ 300 ∧ n = nI i ∧ m_in (nI i) 1 300 = 1 ∧ x_pas n = 0) := by
  rcases m_in0or n 1 300 with h | h
  · exact Or.inl ⟨h, by simp [x_pas, h]⟩
  · obtain ⟨i, hi, rfl⟩ := m_in_n (B := 300) (by decide) h
    exact Or.inr ⟨i, hi, rfl, h, by simp [x_pas, h]⟩
theorem x_ofs_c (k w : Int32) : (m_in k 0 19 = 0 ∧ x_ofs k w = 1) ∨ (∃ i : Nat, i < 20 ∧ k = nI i ∧ m_in w 0 4 = 0 ∧ x_ofs k w = 2) ∨ (∃ i : Nat, i < 20 ∧ k = nI i ∧ m_in w 0 4 = 1 ∧ x_ofs k w = 0) := by
  rcases m_in0or k 0 19 with h | h
  · exact Or.inl ⟨h, by simp [x_ofs, h]⟩
  · obtain ⟨i, hi, rfl⟩ := m_in19 h
    rcases m_in0or w 0 4 with h1 | h1
    · exact Or.inr (Or.inl ⟨i, hi, rfl, h1, by simp [x_ofs, h, h1]⟩)
    · exact Or.inr (Or.inr ⟨i, hi, rfl, h1, by simp [x_ofs, h, h1]⟩)
theorem x_man_c (w : Int32) : (m_in w 0 9 = 0 ∧ x_man w = 1) ∨ (m_in w 0 9 = 1 ∧ x_man w = 0) := by
  rcases m_in0or w 0 9 with h | h
  · exact Or.inl ⟨h, by simp [x_man, h]⟩
  · exact Or.inr ⟨h, by simp [x_man, h]⟩
theorem x_wi_c (f l n : Int32) : (m_in f 0 19 = 0 ∧ x_wi f l n = 1) ∨ (∃ i : Nat, i < 20 ∧ f = nI i ∧ m_in l 0 19 = 0 ∧ x_wi f l n = 1) ∨ (∃ i j : Nat, i < 20 ∧ j < 20 ∧ f = nI i ∧ l = nI j ∧ (nI j < nI i ∨ m_in n 1 300 = 0) ∧ x_wi f l n = 2) ∨ (∃ i j q : Nat, i < 20 ∧ j < 20 ∧ f = nI i ∧ l = nI j ∧ i ≤ j ∧ q ≤ 300 ∧ n = nI q ∧ m_in (nI q) 1 300 = 1 ∧ x_wi f l n = 0) := by
  rcases m_in0or f 0 19 with h | h
  · exact Or.inl ⟨h, by simp [x_wi, h]⟩
  · obtain ⟨i, hi, rfl⟩ := m_in19 h
    rcases m_in0or l 0 19 with h1 | h1
    · exact Or.inr (Or.inl ⟨i, hi, rfl, h1, by simp [x_wi, h, h1]⟩)
    · obtain ⟨j, hj, rfl⟩ := m_in19 h1
      rcases nI_or i j hi hj with h2 | h2
      · exact Or.inr (Or.inr (Or.inl ⟨i, j, hi, hj, rfl, rfl, Or.inl h2, by simp [x_wi, h, h1, h2]⟩))
      · rcases m_in0or n 1 300 with h3 | h3
        · exact Or.inr (Or.inr (Or.inl ⟨i, j, hi, hj, rfl, rfl, Or.inr h3, by rw [x_wi, if_neg (ne1 h), if_neg (ne1 h1), if_neg (nI_nlt h2 (by omega)), if_pos h3]⟩))
        · obtain ⟨q, hq, rfl⟩ := m_in_n (B := 300) (by decide) h3
          exact Or.inr (Or.inr (Or.inr ⟨i, j, q, hi, hj, rfl, rfl, h2, hq, rfl, h3, by rw [x_wi, if_neg (ne1 h), if_neg (ne1 h1), if_neg (nI_nlt h2 (by omega)), if_neg (ne1 h3)]⟩))
/-! What the class answers on a new object. -/
theorem BTI : BT tI := fun _ _ => ⟨Or.inr rfl, Or.inl rfl, Or.inl rfl⟩
theorem okI : Ok tI gI 0 0 0 := ⟨rfl, by decide, rfl, by decide, rfl, by decide, fun c hc => Or.inr (fr_in c hc), BTI⟩
theorem outs0 (n : Nat) : m_outs tI gI 0 0 0 n = 0 := by
  induction n with
  | zero => rfl
  | succ n ih =>
    rw [m_outs, ih]
    show (0 : Int32) + 0 = 0
    decide
theorem sec0 {k : Nat} (hk : k < 20) (w : Int32) : q_sec tI gI 0 0 k w = a_ofs w := by
  unfold q_sec a_ofs
  by_cases h0 : w = 0
  · rw [if_pos h0, if_pos h0]; exact fl_in k hk
  · rw [if_neg h0, if_neg h0]
    by_cases h1 : w = 1
    · rw [if_pos h1, if_neg (by rw [h1]; decide)]; rfl
    · rw [if_neg h1]
      by_cases h2 : w = 2
      · rw [if_pos h2, if_pos h2, if_neg]
        have e : gI 2 k = 1 := fr_in k hk
        rw [e]; decide
      · rw [if_neg h2, if_neg h2]
        by_cases h3 : w = 3
        · rw [if_pos h3]; rfl
        · rw [if_neg h3]; rfl
theorem many0 (w : Int32) : q_many tI gI 0 w = 0 := by
  unfold q_many
  by_cases h0 : w = 0
  · rw [if_pos h0]; rfl
  · rw [if_neg h0]
    by_cases h1 : w = 1
    · rw [if_pos h1]; rfl
    · rw [if_neg h1]
      by_cases h2 : w = 2
      · rw [if_pos h2]; decide
      · rw [if_neg h2]
        by_cases h3 : w = 3
        · rw [if_pos h3]; rfl
        · rw [if_neg h3]
          by_cases h4 : w = 4
          · rw [if_pos h4]; rfl
          · rw [if_neg h4]
            by_cases h5 : w = 5
            · rw [if_pos h5]; rfl
            · rw [if_neg h5]; rfl
theorem ws0 (f l : Int32) (n : Nat) : q_ws tI gI 0 0 0 f l n 0 = 0 := by
  cases n with
  | zero => exact if_pos rfl
  | succ n => exact if_pos rfl
theorem dig0 : q_dig tI gI 0 0 0 = dg 0 (mg2 20) := by
  have e1 : q_d1 tI gI 0 10 = mg1 10 := by
    unfold q_d1 mg1
    simp only [many0]
  have e2 : ∀ k, k ≤ 20 → foldN (fun s d => foldN (fun w d => dg (q_sec tI gI 0 0 s (nI w)) d) 5 d) k (q_d1 tI gI 0 10) = mg2 k := by
    intro k
    induction k with
    | zero => intro _; rw [foldN_0, mg2_0, e1]
    | succ k ih =>
      intro hk
      rw [foldN_s, mg2_s, ih (by omega)]
      congr 1
      funext w d
      rw [sec0 (by omega)]
  have e3 : q_d2 tI gI 0 0 20 = mg2 20 := e2 20 (Nat.le_refl _)
  rw [q_dig, q_d4_0, q_d3_0, e3, ws0]
