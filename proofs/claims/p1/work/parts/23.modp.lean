/-! What a call on a new object throws (0: nothing; otherwise the law's number of it), by its arguments. -/
def x_sec (k l g : Int32) : Int32 := if m_in k 0 19 = 0 then 1 else if m_in l 1 40 = 0 then 2 else if m_in g (-2) 2 = 0 then 2 else 0
def x_sta (k d : Int32) : Int32 := if m_in k 0 2999 = 0 then 1 else if m_in d 0 60 = 0 then 1 else 0
def x_trn (k b p : Int32) : Int32 := if m_in k 20 200 = 0 then 1 else if m_in b 1 4 = 0 then 1 else if m_in p 1 3 = 0 then 1 else 0
def x_wrk (f l : Int32) : Int32 := if m_in f 0 19 = 0 then 1 else if m_in l 0 19 = 0 then 1 else if l < f then 2 else 0
def x_pas (n : Int32) : Int32 := if m_in n 1 300 = 0 then 1 else 0
def x_ofs (k w : Int32) : Int32 := if m_in k 0 19 = 0 then 1 else if m_in w 0 4 = 0 then 2 else 0
def x_man (w : Int32) : Int32 := if m_in w 0 9 = 0 then 1 else 0
def x_wi (f l n : Int32) : Int32 := if m_in f 0 19 = 0 then 1 else if m_in l 0 19 = 0 then 1 else if l < f then 2 else if m_in n 1 300 = 0 then 2 else 0
/-- what ofSection answers -/
def a_ofs (w : Int32) : Int32 := if w = 0 then 40 else if w = 2 then 1 else 0
theorem m_in01 (x a b : Int32) : b01 (m_in x a b) := by
  unfold m_in
  by_cases c : x < a
  · rw [if_pos c]; exact Or.inl rfl
  · rw [if_neg c]
    by_cases d : b < x
    · rw [if_pos d]; exact Or.inl rfl
    · rw [if_neg d]; exact Or.inr rfl
theorem m_in1 {x a b : Int32} (h : ¬ m_in x a b = 0) : m_in x a b = 1 := (m_in01 x a b).resolve_left h
theorem m_inI {x b : Int32} {B : Nat} (hb : b.toInt = B) (h : ¬ m_in x 0 b = 0) : ∃ i : Nat, i ≤ B ∧ x = nI i := by
  unfold m_in at h
  by_cases c : x < 0
  · rw [if_pos c] at h; exact absurd rfl h
  · rw [if_neg c] at h
    by_cases d : b < x
    · rw [if_pos d] at h; exact absurd rfl h
    · obtain ⟨j, hj, rfl⟩ := nI_of c
      refine ⟨j, ?_, rfl⟩
      have h1 := Int32.le_iff_toInt_le.mp (Int32.not_lt.mp d)
      rw [nI_toInt hj, hb] at h1
      omega
theorem V_drop {X : VC} {kc ks pc : Nat} {ws g : va_W} {lv : List (Nat × Value)} {st : List Value} (k : V X kc ks ws lv pc st) : V X kc ks (ws ++ g) lv pc st := by
  obtain ⟨p, l, e, R, s, m, args, below, meth, c, D, cl, A, Q, nL⟩ := X
  intro H locs ls hP hD hS hl
  rw [P_iff] at hP
  rw [D_iff] at hD
  refine k H locs ls (P_iff.mpr fun q hq => hP q (List.mem_append_left _ hq)) (D_iff.mpr ⟨?_, fun q hq => hD.2 q (List.mem_append_left _ hq)⟩) hS hl
  have h := hD.1
  rw [List.map_append] at h
  exact (List.nodup_append.mp h).1
theorem Lo_of {n : Nat} {ws : va_W} (h : ws.all (fun q => match q.2 with | .inl _ => true | .inr o => decide (o.1 < n)) = true) : Lo n ws := by
  intro k q hq
  have h2 := List.all_eq_true.mp h q (List.mem_of_getElem? hq)
  obtain ⟨a, e⟩ := q
  cases e with
  | inl x => trivial
  | inr o => exact of_decide_eq_true h2
theorem m_inI1 {x b : Int32} {B : Nat} (hb : b.toInt = B) (h : ¬ m_in x 1 b = 0) : ∃ i : Nat, 1 ≤ i ∧ i ≤ B ∧ x = nI i := by
  have h0 : ¬ m_in x 0 b = 0 := by
    unfold m_in at h ⊢
    by_cases c : x < 1
    · rw [if_pos c] at h; exact absurd rfl h
    · rw [if_neg c] at h
      rw [if_neg]
      · exact h
      · intro d
        refine c (Int32.lt_iff_toInt_lt.mpr ?_)
        have h1 := Int32.lt_iff_toInt_lt.mp d
        have h2 : (1 : Int32).toInt = 1 := by decide
        have h3 : (0 : Int32).toInt = 0 := by decide
        omega
  obtain ⟨i, hi, rfl⟩ := m_inI hb h0
  refine ⟨i, ?_, hi, rfl⟩
  rcases i with _ | i
  · unfold m_in at h
    rw [if_pos (by decide)] at h
    exact absurd rfl h
  · omega
theorem FI_a {i j : Nat} (hi : i < 20) (hj : j < 3) : FI 20 (2 + i) j = a_ofs (nI j) := by
  rw [FI_at hi]
  match j, hj with
  | 0, _ => decide
  | 1, _ => decide
  | 2, _ => decide
theorem a_ofs3 {j : Nat} (h1 : 3 ≤ j) (h2 : j ≤ 4) : a_ofs (nI j) = 0 := by
  rcases (show j = 3 ∨ j = 4 by omega) with rfl | rfl <;> decide
def mg1 (k : Nat) : Int64 := foldN (fun _ d => dg 0 d) k 4810
def mg2 (s : Nat) : Int64 := foldN (fun _ d => foldN (fun w d => dg (a_ofs (nI w)) d) 5 d) s (mg1 10)
theorem mg1_0 : mg1 0 = 4810 := by rw [mg1, foldN_0]
theorem mg1_s (k : Nat) : mg1 (k + 1) = dg 0 (mg1 k) := by rw [mg1, foldN_s, mg1]
theorem mg2_0 : mg2 0 = mg1 10 := by rw [mg2, foldN_0]
theorem mg2_s (s : Nat) : mg2 (s + 1) = foldN (fun w d => dg (a_ofs (nI w)) d) 5 (mg2 s) := by rw [mg2, foldN_s, mg2]
/-- a list's first ten places -/
theorem upd_at {f : Nat → Int32} {k : Nat} {x : Int32} : upd f k x k = x := if_pos rfl
