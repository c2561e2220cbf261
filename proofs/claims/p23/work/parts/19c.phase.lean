/-! What a second's five steps do to each train. -/
def repT (τ : Nat → Int32) (now : Int32) : Nat → Int32 := if τ 3 = 0 then upd (upd τ 11 (τ 4)) 13 now else upd (upd (upd τ 11 (τ 4)) 12 (m_rear τ)) 13 now
theorem report_s (t : Nat → Nat → Int32) (i : Nat) (now : Int32) : m_report t i now i = repT (t i) now := by
  unfold m_report repT
  by_cases c : t i 3 = 0
  · rw [if_pos c, if_pos c, up2_s, up2_s]
  · rw [if_neg c, if_neg c, up2_s, up2_s, up2_s]
theorem report_n (t : Nat → Nat → Int32) {i x : Nat} (now : Int32) (h : x ≠ i) : m_report t i now x = t x := by
  unfold m_report
  by_cases c : t i 3 = 0
  · rw [if_pos c, up2_n h, up2_n h]
  · rw [if_neg c, up2_n h, up2_n h, up2_n h]
/-- does it hear in this second? -/
def Hear (g : Nat → Nat → Int32) (τ : Nat → Int32) : Prop := τ 9 = 0 ∧ ¬ m_radio g τ = 0
theorem rep_at (g t : Nat → Nat → Int32) (s : Int32) : ∀ n i : Nat, ((i < n ∧ ¬ nI i = s ∧ Hear g (t i)) → m_repAll g s t n i = repT (t i) (g 8 1)) ∧ (¬ (i < n ∧ ¬ nI i = s ∧ Hear g (t i)) → m_repAll g s t n i = t i)
  | 0, i => ⟨fun h => absurd h.1 (Nat.not_lt_zero _), fun _ => rfl⟩
  | n + 1, i => by
    have ih := rep_at g t s n i
    have ihn := (rep_at g t s n n).2 (fun h => absurd h.1 (Nat.lt_irrefl _))
    rw [m_repAll, ihn]
    by_cases e : i = n
    · subst e
      by_cases c1 : t i 9 = 0
      · rw [if_pos c1]
        by_cases c2 : nI i = s
        · rw [if_pos c2]; exact ⟨fun h => absurd c2 h.2.1, fun _ => ihn⟩
        · rw [if_neg c2]
          by_cases c3 : m_radio g (t i) = 0
          · rw [if_pos c3]; exact ⟨fun h => absurd c3 h.2.2.2, fun _ => ihn⟩
          · rw [if_neg c3]
            refine ⟨fun _ => by rw [report_s, ihn], fun h => absurd ⟨Nat.lt_succ_self _, c2, c1, c3⟩ h⟩
      · rw [if_neg c1]; exact ⟨fun h => absurd h.2.2.1 c1, fun _ => ihn⟩
    · have hi : ∀ M : Nat → Nat → Int32, M i = m_repAll g s t n i → ((i < n + 1 ∧ ¬ nI i = s ∧ Hear g (t i)) → M i = repT (t i) (g 8 1)) ∧ (¬ (i < n + 1 ∧ ¬ nI i = s ∧ Hear g (t i)) → M i = t i) := by
        intro M hM
        rw [hM]
        exact ⟨fun h => ih.1 ⟨by omega, h.2⟩, fun h => ih.2 (fun h2 => h ⟨by omega, h2.2⟩)⟩
      by_cases c1 : t n 9 = 0
      · rw [if_pos c1]
        by_cases c2 : nI n = s
        · rw [if_pos c2]; exact hi _ rfl
        · rw [if_neg c2]
          by_cases c3 : m_radio g (t n) = 0
          · rw [if_pos c3]; exact hi _ rfl
          · rw [if_neg c3]; exact hi _ (report_n _ _ e)
      · rw [if_neg c1]; exact hi _ rfl
theorem bound_le (g t : Nat → Nat → Int32) (i nW : Nat) : (m_bound g t i nW).toInt ≤ (2999 + t i 0).toInt := by
  unfold m_bound
  have h1 := (m_min_i (m_min (2999 + t i 0) (m_ba g t i)) (m_bw (g 6) (t i 4) nW)).1
  have h2 := (m_min_i (2999 + t i 0) (m_ba g t i)).1
  omega
theorem auth_at (g t : Nat → Nat → Int32) (nW : Nat) : ∀ n i : Nat, ((i < n ∧ Hear g (t i)) → ∃ v : Int32, m_authAll g nW t n i = upd (t i) 6 v ∧ (t i 4).toInt ≤ v.toInt ∧ (v.toInt ≤ (t i 4).toInt ∨ v.toInt ≤ (2999 + t i 0).toInt)) ∧ (¬ (i < n ∧ Hear g (t i)) → m_authAll g nW t n i = t i)
  | 0, i => ⟨fun h => absurd h.1 (Nat.not_lt_zero _), fun _ => rfl⟩
  | n + 1, i => by
    have ih := auth_at g t nW n i
    have ihn := (auth_at g t nW n n).2 (fun h => absurd h.1 (Nat.lt_irrefl _))
    rw [m_authAll, ihn]
    by_cases e : i = n
    · subst e
      by_cases c1 : t i 9 = 0
      · rw [if_pos c1]
        by_cases c3 : m_radio g (t i) = 0
        · rw [if_pos c3]; exact ⟨fun h => absurd c3 h.2.2, fun _ => ihn⟩
        · rw [if_neg c3]
          refine ⟨fun _ => ⟨_, by rw [up2_s, ihn], (m_max_i _ _).2.1, ?_⟩, fun h => absurd ⟨Nat.lt_succ_self _, c1, c3⟩ h⟩
          have hb := bound_le g (m_authAll g nW t i) i nW
          rw [ihn] at hb
          rcases (m_max_i (m_bound g (m_authAll g nW t i) i nW) (t i 4)).2.2 with h | h
          · exact Or.inr (by omega)
          · exact Or.inl (by omega)
      · rw [if_neg c1]; exact ⟨fun h => absurd h.2.1 c1, fun _ => ihn⟩
    · have hi : ∀ M : Nat → Nat → Int32, M i = m_authAll g nW t n i → ((i < n + 1 ∧ Hear g (t i)) → ∃ v : Int32, M i = upd (t i) 6 v ∧ (t i 4).toInt ≤ v.toInt ∧ (v.toInt ≤ (t i 4).toInt ∨ v.toInt ≤ (2999 + t i 0).toInt)) ∧ (¬ (i < n + 1 ∧ Hear g (t i)) → M i = t i) := by
        intro M hM
        rw [hM]
        exact ⟨fun h => ih.1 ⟨by omega, h.2⟩, fun h => ih.2 (fun h2 => h ⟨by omega, h2.2⟩)⟩
      by_cases c1 : t n 9 = 0
      · rw [if_pos c1]
        by_cases c3 : m_radio g (t n) = 0
        · rw [if_pos c3]; exact hi _ rfl
        · rw [if_neg c3]; exact hi _ (up2_n e)
      · rw [if_neg c1]; exact hi _ rfl
/-! going -/
def spd (g : Nat → Nat → Int32) (nS : Nat) (τ : Nat → Int32) : Int32 := if m_allow g τ nS ≤ τ 5 then (if τ 5 ≤ m_allow g τ nS then τ 5 else m_max (τ 5 - m_hold (g 1) τ) (m_allow g τ nS)) else m_min (τ 5 + τ 2) (m_allow g τ nS)
/-- did it brake? -/
def brk (g : Nat → Nat → Int32) (nS : Nat) (τ : Nat → Int32) : Int32 := if m_allow g τ nS ≤ τ 5 then (if τ 5 ≤ m_allow g τ nS then τ 14 else τ 14 + 1) else τ 14
/-- it stops at station j -/
def StaF (g : Nat → Nat → Int32) (nS : Nat) (τ : Nat → Int32) (j : Nat) : Prop := nxO (g 3) (τ 8) nS = some j ∧ spd g nS τ = 0 ∧ g 3 j = τ 4 + spd g nS τ
def GoF (g : Nat → Nat → Int32) (nS : Nat) (τ σ : Nat → Int32) : Prop :=
  (∀ j, j ≠ 4 → j ≠ 5 → j ≠ 7 → j ≠ 8 → j ≠ 14 → j ≠ 16 → σ j = τ j) ∧
  ((0 < τ 7 ∧ σ 4 = τ 4 ∧ σ 5 = τ 5 ∧ σ 7 = τ 7 - 1 ∧ σ 8 = τ 8 ∧ σ 14 = τ 14 ∧ σ 16 = τ 16) ∨
   (¬ 0 < τ 7 ∧ σ 4 = τ 4 + spd g nS τ ∧ σ 5 = spd g nS τ ∧ σ 14 = brk g nS τ ∧
     ∃ st : Int32, ((∃ j, StaF g nS τ j ∧ σ 7 = g 4 j ∧ st = τ 8 &&& (((1 : Int32) <<< (nI j &&& 31)) ^^^ (-1))) ∨ ((¬ ∃ j, StaF g nS τ j) ∧ σ 7 = τ 7 ∧ st = τ 8)) ∧
       σ 8 = st &&& m_sf (g 3) (τ 4 + spd g nS τ) nS ∧ σ 16 = τ 16 + (m_bc st - m_bc (st &&& m_sf (g 3) (τ 4 + spd g nS τ) nS))))
theorem go1_s (t g : Nat → Nat → Int32) (i nS : Nat) : m_go1 t g i nS i 5 = spd g nS (t i) ∧ m_go1 t g i nS i 14 = brk g nS (t i) ∧ ∀ j, j ≠ 5 → j ≠ 14 → m_go1 t g i nS i j = t i j := by
  unfold m_go1 spd brk
  by_cases c1 : m_allow g (t i) nS ≤ t i 5
  · rw [if_pos c1, if_pos c1, if_pos c1]
    by_cases c2 : t i 5 ≤ m_allow g (t i) nS
    · rw [if_pos c2, if_pos c2, if_pos c2]; exact ⟨rfl, rfl, fun _ _ _ => rfl⟩
    · rw [if_neg c2, if_neg c2, if_neg c2]
      exact ⟨by rw [up_nj (by decide), up_at], by rw [up_at], fun j h1 h2 => by rw [up_nj h2, up_nj h1]⟩
  · rw [if_neg c1, if_neg c1, if_neg c1]
    exact ⟨by rw [up_at], by rw [up_nj (by decide)], fun j h1 _ => by rw [up_nj h1]⟩
theorem go_s (t g : Nat → Nat → Int32) (i nS : Nat) : GoF g nS (t i) ((m_go t g i nS).1 i) := by
  unfold m_go
  by_cases c : 0 < t i 7
  · rw [if_pos c]
    refine ⟨fun j _ _ h7 _ _ _ => up_nj h7, Or.inl ⟨c, up_nj (by decide), up_nj (by decide), up_at, up_nj (by decide), up_nj (by decide), up_nj (by decide)⟩⟩
  · rw [if_neg c]
    obtain ⟨a5, a14, ao⟩ := go1_s t g i nS
    generalize m_go1 t g i nS = u at a5 a14 ao
    have b4 : m_go2 u i i 4 = t i 4 + spd g nS (t i) := by unfold m_go2; rw [up_at, a5, ao 4 (by decide) (by decide)]
    have bo : ∀ j, j ≠ 4 → m_go2 u i i j = u i j := fun j h => by unfold m_go2; rw [up_nj h]
    generalize m_go2 u i = w at b4 bo
    have d5 : w i 5 = spd g nS (t i) := by rw [bo 5 (by decide), a5]
    have d8 : w i 8 = t i 8 := by rw [bo 8 (by decide), ao 8 (by decide) (by decide)]
    have d7 : w i 7 = t i 7 := by rw [bo 7 (by decide), ao 7 (by decide) (by decide)]
    have d14 : w i 14 = brk g nS (t i) := by rw [bo 14 (by decide), a14]
    have d16 : w i 16 = t i 16 := by rw [bo 16 (by decide), ao 16 (by decide) (by decide)]
    have dd : ∀ j, j ≠ 4 → j ≠ 5 → j ≠ 14 → w i j = t i j := fun j h4 h5 h14 => by rw [bo j h4, ao j h5 h14]
    have key : ∃ (z : Nat → Nat → Int32) (st : Int32), (m_stopAt w g i nS).1 = z ∧ (m_stopAt w g i nS).2 3 = g 3 ∧ z i 8 = st ∧ z i 4 = w i 4 ∧ z i 5 = w i 5 ∧ z i 14 = w i 14 ∧ z i 16 = w i 16 ∧ (∀ j, j ≠ 7 → j ≠ 8 → z i j = w i j) ∧ ((∃ j, StaF g nS (t i) j ∧ z i 7 = g 4 j ∧ st = t i 8 &&& (((1 : Int32) <<< (nI j &&& 31)) ^^^ (-1))) ∨ ((¬ ∃ j, StaF g nS (t i) j) ∧ z i 7 = t i 7 ∧ st = t i 8)) := by
      unfold m_stopAt
      rw [d8]
      cases hx : nxO (g 3) (t i 8) nS with
      | none => exact ⟨w, _, rfl, rfl, d8, rfl, rfl, rfl, rfl, fun _ _ _ => rfl, Or.inr ⟨fun ⟨j, h, _⟩ => (by rw [hx] at h; cases h), d7, rfl⟩⟩
      | some j =>
        dsimp only
        by_cases c1 : w i 5 = 0
        · rw [if_pos c1]
          by_cases c2 : g 3 j = w i 4
          · rw [if_pos c2]
            refine ⟨up2 (up2 w i 7 (g 4 j)) i 8 (t i 8 &&& (((1 : Int32) <<< (nI j &&& 31)) ^^^ (-1))), t i 8 &&& (((1 : Int32) <<< (nI j &&& 31)) ^^^ (-1)), rfl, (show up2 g 5 j (g 5 j + 1) 3 = g 3 from up2_n (by decide)), up_at, by rw [up_nj (by decide), up_nj (by decide)], by rw [up_nj (by decide), up_nj (by decide)], by rw [up_nj (by decide), up_nj (by decide)], by rw [up_nj (by decide), up_nj (by decide)], fun j h7 h8 => by rw [up_nj h8, up_nj h7], Or.inl ⟨j, ⟨hx, by rw [← d5]; exact c1, by rw [← b4]; exact c2⟩, by rw [up_nj (by decide), up_at], rfl⟩⟩
          · rw [if_neg c2]
            exact ⟨w, _, rfl, rfl, d8, rfl, rfl, rfl, rfl, fun _ _ _ => rfl, Or.inr ⟨fun ⟨q, h, _, h3⟩ => (by rw [hx] at h; cases h; exact c2 (by rw [b4]; exact h3)), d7, rfl⟩⟩
        · rw [if_neg c1]
          exact ⟨w, _, rfl, rfl, d8, rfl, rfl, rfl, rfl, fun _ _ _ => rfl, Or.inr ⟨fun ⟨q, h, h2, _⟩ => c1 (by rw [d5]; exact h2), d7, rfl⟩⟩
    obtain ⟨z, st, hz, hg3, h8, h4, h5, h14, h16, ho, hs⟩ := key
    have e3 : (m_miss (m_stopAt w g i nS).1 (m_stopAt w g i nS).2 i nS) = up2 (up2 z i 16 (z i 16 + (m_bc (z i 8) - m_bc (z i 8 &&& m_sf (g 3) (z i 4) nS)))) i 8 (z i 8 &&& m_sf (g 3) (z i 4) nS) := by
      unfold m_miss
      rw [hz, hg3]
    dsimp only
    rw [e3, h8, h4, b4]
    refine ⟨fun j q4 q5 q7 q8 q14 q16 => by rw [up_nj q8, up_nj q16, ho j q7 q8, dd j q4 q5 q14], Or.inr ⟨c, by rw [up_nj (by decide), up_nj (by decide), h4, b4], by rw [up_nj (by decide), up_nj (by decide), h5, d5], by rw [up_nj (by decide), up_nj (by decide), h14, d14], st, ?_, up_at, by rw [up_nj (by decide), up_at, h16, d16]⟩⟩
    rcases hs with ⟨j, s1, s2, s3⟩ | ⟨s1, s2, s3⟩
    · exact Or.inl ⟨j, s1, by rw [up_nj (by decide), up_nj (by decide)]; exact s2, s3⟩
    · exact Or.inr ⟨s1, by rw [up_nj (by decide), up_nj (by decide)]; exact s2, s3⟩
