/-! A second: going, looking, leaving, train by train. -/
theorem go1_n (t g : Nat → Nat → Int32) {i x : Nat} (nS : Nat) (h : x ≠ i) : m_go1 t g i nS x = t x := by
  unfold m_go1
  by_cases c1 : m_allow g (t i) nS ≤ t i 5
  · rw [if_pos c1]
    by_cases c2 : t i 5 ≤ m_allow g (t i) nS
    · rw [if_pos c2]
    · rw [if_neg c2, up2_n h, up2_n h]
  · rw [if_neg c1, up2_n h]
theorem stopAt_n (t g : Nat → Nat → Int32) {i x : Nat} (nS : Nat) (h : x ≠ i) : (m_stopAt t g i nS).1 x = t x := by
  unfold m_stopAt
  cases nxO (g 3) (t i 8) nS with
  | none => rfl
  | some j =>
    dsimp only
    by_cases c1 : t i 5 = 0
    · rw [if_pos c1]
      by_cases c2 : g 3 j = t i 4
      · rw [if_pos c2]; dsimp only; rw [up2_n h, up2_n h]
      · rw [if_neg c2]
    · rw [if_neg c1]
theorem go_n (t g : Nat → Nat → Int32) {i x : Nat} (nS : Nat) (h : x ≠ i) : (m_go t g i nS).1 x = t x := by
  unfold m_go
  by_cases c : 0 < t i 7
  · rw [if_pos c]; dsimp only; rw [up2_n h]
  · rw [if_neg c]
    dsimp only
    unfold m_miss
    rw [up2_n h, up2_n h, stopAt_n _ _ _ h]
    unfold m_go2
    rw [up2_n h, go1_n _ _ _ h]
theorem GoF.congr {g g' : Nat → Nat → Int32} {nS : Nat} {τ σ : Nat → Int32} (e0 : g' 0 = g 0) (e1 : g' 1 = g 1) (e3 : g' 3 = g 3) (e4 : g' 4 = g 4) (hF : GoF g' nS τ σ) : GoF g nS τ σ := by
  unfold GoF StaF spd brk m_allow at hF
  rw [e0, e1, e3, e4] at hF
  exact hF
theorem nI_nm1 {i : Nat} (h : i ≤ 4) : ¬ nI i = -1 := nI_m1 (by omega)
/-- it goes in this second -/
def GoX (τ : Nat → Int32) : Prop := τ 9 = 0 ∧ τ 10 = 0
theorem goAll_at (t g : Nat → Nat → Int32) (nS : Nat) : ∀ n i : Nat, n ≤ 4 → ((i < n ∧ GoX (t i)) → GoF g nS (t i) ((m_goAll (-1) nS t g n).1 i)) ∧ (¬ (i < n ∧ GoX (t i)) → (m_goAll (-1) nS t g n).1 i = t i)
  | 0, i, _ => ⟨fun h => absurd h.1 (Nat.not_lt_zero _), fun _ => rfl⟩
  | n + 1, i, hn => by
    have ih := goAll_at t g nS n i (by omega)
    have ihn := (goAll_at t g nS n n (by omega)).2 (fun h => absurd h.1 (Nat.lt_irrefl _))
    rw [m_goAll, ihn]
    have hs : ¬ nI n = -1 := nI_nm1 (by omega)
    by_cases e : i = n
    · subst e
      by_cases c1 : t i 9 = 0
      · rw [if_pos c1]
        by_cases c2 : t i 10 = 0
        · rw [if_pos c2, if_neg hs]
          refine ⟨fun _ => ?_, fun h => absurd ⟨Nat.lt_succ_self _, c1, c2⟩ h⟩
          have hg := go_s (m_goAll (-1) nS t g i).1 (m_goAll (-1) nS t g i).2 i nS
          rw [ihn] at hg
          exact hg.congr (m_goAll_g _ _ _ _ (by decide) _) (m_goAll_g _ _ _ _ (by decide) _) (m_goAll_g _ _ _ _ (by decide) _) (m_goAll_g _ _ _ _ (by decide) _)
        · rw [if_neg c2]; exact ⟨fun h => absurd h.2.2 c2, fun _ => ihn⟩
      · rw [if_neg c1]; exact ⟨fun h => absurd h.2.1 c1, fun _ => ihn⟩
    · have hi : ∀ M : Nat → Nat → Int32, M i = (m_goAll (-1) nS t g n).1 i → ((i < n + 1 ∧ GoX (t i)) → GoF g nS (t i) (M i)) ∧ (¬ (i < n + 1 ∧ GoX (t i)) → M i = t i) := by
        intro M hM
        rw [hM]
        exact ⟨fun h => ih.1 ⟨by omega, h.2⟩, fun h => ih.2 (fun h2 => h ⟨by omega, h2.2⟩)⟩
      by_cases c1 : t n 9 = 0
      · rw [if_pos c1]
        by_cases c2 : t n 10 = 0
        · rw [if_pos c2, if_neg hs]; exact hi _ (go_n _ _ _ e)
        · rw [if_neg c2]; exact hi _ rfl
      · rw [if_neg c1]; exact hi _ rfl
/-! looking -/
/-- the same but for what the looking of one behind may do: a crash -/
def CrF (τ σ : Nat → Int32) : Prop := (∀ j, j ≠ 5 → j ≠ 10 → σ j = τ j) ∧ ((σ 10 = τ 10 ∧ σ 5 = τ 5) ∨ (σ 10 = 1 ∧ σ 5 = 0 ∧ τ 9 = 0))
/-- what its own looking does, and the looking of one behind -/
def LoF (τ σ : Nat → Int32) : Prop := (∀ j, j ≠ 5 → j ≠ 10 → j ≠ 15 → j ≠ 17 → σ j = τ j) ∧ ((σ 10 = τ 10 ∧ σ 5 = τ 5) ∨ (σ 10 = 1 ∧ σ 5 = 0 ∧ τ 9 = 0)) ∧ σ 15 = (if τ 9 = 0 ∧ ¬ τ 4 ≤ τ 6 then τ 15 + 1 else τ 15)
def Gap (τ σ : Nat → Int32) : Prop := 0 ≤ m_rear τ - σ 4 - 1
theorem CrF.rfl' {τ : Nat → Int32} : CrF τ τ := ⟨fun _ _ _ => rfl, Or.inl ⟨rfl, rfl⟩⟩
theorem CrF.rear {τ σ : Nat → Int32} (h : CrF τ σ) : m_rear σ = m_rear τ := by unfold m_rear; rw [h.1 4 (by decide) (by decide), h.1 0 (by decide) (by decide)]
theorem LoF.cr {τ σ ρ : Nat → Int32} (h : LoF τ σ) (h2 : CrF σ ρ) : LoF τ ρ := by
  obtain ⟨a1, a2, a3⟩ := h
  obtain ⟨b1, b2⟩ := h2
  refine ⟨fun j h5 h10 h15 h17 => (b1 j h5 h10).trans (a1 j h5 h10 h15 h17), ?_, (b1 15 (by decide) (by decide)).trans a3⟩
  have e9 := a1 9 (by decide) (by decide) (by decide) (by decide)
  rcases b2 with ⟨q1, q2⟩ | ⟨q1, q2, q3⟩
  · rw [q1, q2]; exact a2
  · exact Or.inr ⟨q1, q2, e9.symm.trans q3⟩
theorem look1_s (t : Nat → Nat → Int32) (i : Nat) : (∀ j, j ≠ 15 → m_look1 t i i j = t i j) ∧ m_look1 t i i 15 = (if t i 4 ≤ t i 6 then t i 15 else t i 15 + 1) := by
  unfold m_look1
  by_cases c : t i 4 ≤ t i 6
  · rw [if_pos c, if_pos c]; exact ⟨fun _ _ => rfl, rfl⟩
  · rw [if_neg c, if_neg c]; exact ⟨fun j h => up_nj h, up_at⟩
theorem look1_n (t : Nat → Nat → Int32) {i x : Nat} (h : x ≠ i) : m_look1 t i x = t x := by
  unfold m_look1
  by_cases c : t i 4 ≤ t i 6
  · rw [if_pos c]
  · rw [if_neg c, up2_n h]
theorem crash_s (t : Nat → Nat → Int32) (i : Nat) : (∀ j, j ≠ 5 → j ≠ 10 → m_crash t i i j = t i j) ∧ m_crash t i i 10 = 1 ∧ m_crash t i i 5 = 0 := by
  unfold m_crash
  exact ⟨fun j h5 h10 => by rw [up_nj h5, up_nj h10], by rw [up_nj (by decide), up_at], up_at⟩
theorem crash_n (t : Nat → Nat → Int32) {i x : Nat} (h : x ≠ i) : m_crash t i x = t x := by
  unfold m_crash
  rw [up2_n h, up2_n h]
theorem look_s (t : Nat → Nat → Int32) (n : Nat) (h9 : t n 9 = 0) :
    LoF (t n) (m_look t n n) ∧ (∀ x, x ≠ n → n ≠ x + 1 → m_look t n x = t x) ∧ (∀ x, n = x + 1 → CrF (t x) (m_look t n x) ∧ (t x 9 = 0 → (m_look t n x 10 = 1 ∧ m_look t n n 10 = 1) ∨ Gap (t x) (t n))) := by
  obtain ⟨a1, a2⟩ := look1_s t n
  have a3 : ∀ x, x ≠ n → m_look1 t n x = t x := fun x h => look1_n t h
  unfold m_look
  generalize m_look1 t n = v at a1 a2 a3
  have e15 : v n 15 = (if t n 9 = 0 ∧ ¬ t n 4 ≤ t n 6 then t n 15 + 1 else t n 15) := by
    rw [a2]
    by_cases c : t n 4 ≤ t n 6
    · rw [if_pos c, if_neg (fun h => h.2 c)]
    · rw [if_neg c, if_pos ⟨h9, c⟩]
  have e5 := a1 5 (by decide)
  have e10 := a1 10 (by decide)
  cases ha : m_ahead v n with
  | none =>
    dsimp only
    refine ⟨⟨fun j _ _ h15 _ => a1 j h15, Or.inl ⟨e10, e5⟩, e15⟩, fun x h _ => a3 x h, fun x hx => ⟨by rw [a3 x (by omega)]; exact CrF.rfl', fun hx9 => ?_⟩⟩
    subst hx
    change (if v x 9 = 0 then some x else none) = none at ha
    rw [a3 x (by omega), if_pos hx9] at ha
    cases ha
  | some j =>
    have hj := m_ahead_lt ha
    have hj9 : v j 9 = 0 := by
      subst hj
      change (if v j 9 = 0 then some j else none) = some j at ha
      by_cases c : v j 9 = 0
      · exact c
      · rw [if_neg c] at ha; cases ha
    dsimp only
    have er : m_rear (v j) = m_rear (t j) := by rw [a3 j (by omega)]
    have e4 : v n 4 = t n 4 := a1 4 (by decide)
    by_cases c : 0 ≤ m_rear (v j) - v n 4 - 1
    · rw [if_pos c]
      refine ⟨⟨fun q h5 h10 h15 h17 => by rw [up_nj h17]; exact a1 q h15, Or.inl ⟨by rw [up_nj (by decide)]; exact e10, by rw [up_nj (by decide)]; exact e5⟩, by rw [up_nj (by decide)]; exact e15⟩, fun x h _ => by rw [up2_n h]; exact a3 x h, fun x hx => ?_⟩
      obtain rfl : x = j := by omega
      refine ⟨by rw [up2_n (by omega), a3 x (by omega)]; exact CrF.rfl', fun _ => Or.inr ?_⟩
      rw [er, e4] at c
      exact c
    · rw [if_neg c]
      generalize hw : up2 v n 17 (m_min (v n 17) (m_rear (v j) - v n 4 - 1)) = w
      have w1 : ∀ q, q ≠ 17 → w n q = v n q := fun q h => by rw [← hw, up_nj h]
      have w2 : ∀ x, x ≠ n → w x = v x := fun x h => by rw [← hw, up2_n h]
      obtain ⟨b1, b2, b3⟩ := crash_s w n
      have b4 : ∀ x, x ≠ n → m_crash w n x = w x := fun x h => crash_n w h
      generalize m_crash w n = z at b1 b2 b3 b4
      obtain ⟨d1, d2, d3⟩ := crash_s z j
      have d4 : ∀ x, x ≠ j → m_crash z j x = z x := fun x h => crash_n z h
      generalize m_crash z j = y at d1 d2 d3 d4
      have yn : y n = z n := d4 n (by omega)
      refine ⟨⟨fun q h5 h10 h15 h17 => by rw [yn, b1 q h5 h10, w1 q h17, a1 q h15], Or.inr ⟨by rw [yn]; exact b2, by rw [yn]; exact b3, h9⟩, by rw [yn, b1 15 (by decide) (by decide), w1 15 (by decide)]; exact e15⟩, fun x h h2 => by rw [d4 x (by omega), b4 x h, w2 x h, a3 x h], fun x hx => ?_⟩
      obtain rfl : x = j := by omega
      have hx9 : t x 9 = 0 := by rw [← a3 x (by omega)]; exact hj9
      exact ⟨⟨fun q h5 h10 => by rw [d1 q h5 h10, b4 x (by omega), w2 x (by omega), a3 x (by omega)], Or.inr ⟨d2, d3, hx9⟩⟩, fun _ => Or.inl ⟨d2, by rw [yn]; exact b2⟩⟩
theorem lookAll_at (t : Nat → Nat → Int32) : ∀ n : Nat, n ≤ 4 → (∀ i, i < n → LoF (t i) (m_lookAll t n i)) ∧ (∀ i, n ≤ i → m_lookAll t n i = t i) ∧ (∀ i, i + 1 < n → t i 9 = 0 → t (i + 1) 9 = 0 → (m_lookAll t n i 10 = 1 ∧ m_lookAll t n (i + 1) 10 = 1) ∨ Gap (t i) (t (i + 1)))
  | 0, _ => ⟨fun i h => absurd h (Nat.not_lt_zero _), fun _ _ => rfl, fun i h => absurd h (Nat.not_lt_zero _)⟩
  | n + 1, hn => by
    obtain ⟨p1, p2, p3⟩ := lookAll_at t n (by omega)
    have pn : m_lookAll t n n = t n := p2 n (Nat.le_refl _)
    rw [m_lookAll, pn]
    by_cases c : t n 9 = 0
    · rw [if_pos c]
      generalize m_lookAll t n = u at p1 p2 p3 pn
      obtain ⟨q1, q2, q3⟩ := look_s u n (by rw [pn]; exact c)
      generalize m_look u n = w at q1 q2 q3
      have old : ∀ i, i < n → CrF (u i) (w i) := fun i hi => by
        by_cases e : n = i + 1
        · exact (q3 i e).1
        · rw [q2 i (by omega) e]; exact CrF.rfl'
      have ten : ∀ i, i < n → u i 10 = 1 → w i 10 = 1 := fun i hi h => by
        rcases (old i hi).2 with ⟨e, _⟩ | ⟨e, _⟩
        · rw [e]; exact h
        · exact e
      refine ⟨fun i hi => ?_, fun i hi => ?_, fun i hi h1 h2 => ?_⟩
      · by_cases e : i = n
        · subst e; rw [← pn]; exact q1
        · exact (p1 i (by omega)).cr (old i (by omega))
      · rw [q2 i (by omega) (by omega)]; exact p2 i (by omega)
      · by_cases e : i + 1 = n
        · subst e
          have hr : m_rear (u i) = m_rear (t i) := by unfold m_rear; rw [(p1 i (by omega)).1 4 (by decide) (by decide) (by decide) (by decide), (p1 i (by omega)).1 0 (by decide) (by decide) (by decide) (by decide)]
          rcases (q3 i rfl).2 (by rw [(p1 i (by omega)).1 9 (by decide) (by decide) (by decide) (by decide)]; exact h1) with h | h
          · exact Or.inl h
          · refine Or.inr ?_
            unfold Gap at h ⊢
            rw [hr, pn] at h
            exact h
        · rcases p3 i (by omega) h1 h2 with ⟨h, h'⟩ | h
          · exact Or.inl ⟨ten i (by omega) h, ten (i + 1) (by omega) h'⟩
          · exact Or.inr h
    · rw [if_neg c]
      refine ⟨fun i hi => ?_, fun i hi => p2 i (by omega), fun i hi h1 h2 => ?_⟩
      · by_cases e : i = n
        · subst e
          rw [pn]
          exact ⟨fun _ _ _ _ _ => rfl, Or.inl ⟨rfl, rfl⟩, by rw [if_neg (fun h => c h.1)]⟩
        · exact p1 i (by omega)
      · by_cases e : i + 1 = n
        · subst e; exact absurd h2 c
        · exact p3 i (by omega) h1 h2
/-! leaving -/
def LvF (τ σ : Nat → Int32) : Prop := (∀ j, j ≠ 5 → j ≠ 9 → σ j = τ j) ∧ ((τ 9 = 0 ∧ ¬ m_rear τ ≤ 2999 ∧ σ 9 = 1 ∧ σ 5 = 0) ∨ (¬ (τ 9 = 0 ∧ ¬ m_rear τ ≤ 2999) ∧ σ 9 = τ 9 ∧ σ 5 = τ 5))
theorem leave_at (t : Nat → Nat → Int32) : ∀ n : Nat, (∀ i, i < n → LvF (t i) ((m_leave t n).1 i)) ∧ (∀ i, n ≤ i → (m_leave t n).1 i = t i)
  | 0 => ⟨fun i h => absurd h (Nat.not_lt_zero _), fun _ _ => rfl⟩
  | n + 1 => by
    obtain ⟨p1, p2⟩ := leave_at t n
    have pn : (m_leave t n).1 n = t n := p2 n (Nat.le_refl _)
    rw [m_leave, pn]
    by_cases c : t n 9 = 0
    · rw [if_pos c]
      by_cases c2 : m_rear (t n) ≤ 2999
      · rw [if_pos c2]
        refine ⟨fun i hi => ?_, fun i hi => p2 i (by omega)⟩
        by_cases e : i = n
        · subst e; rw [pn]; exact ⟨fun _ _ _ => rfl, Or.inr ⟨fun h => h.2 c2, rfl, rfl⟩⟩
        · exact p1 i (by omega)
      · rw [if_neg c2]
        dsimp only
        refine ⟨fun i hi => ?_, fun i hi => ?_⟩
        · by_cases e : i = n
          · subst e
            exact ⟨fun j h5 h9 => by rw [up_nj h5, up_nj h9, pn], Or.inl ⟨c, c2, by rw [up_nj (by decide), up_at], up_at⟩⟩
          · rw [up2_n e, up2_n e]; exact p1 i (by omega)
        · rw [up2_n (by omega), up2_n (by omega)]; exact p2 i (by omega)
    · rw [if_neg c]
      refine ⟨fun i hi => ?_, fun i hi => p2 i (by omega)⟩
      by_cases e : i = n
      · subst e; rw [pn]; exact ⟨fun _ _ _ => rfl, Or.inr ⟨fun h => c h.1, rfl, rfl⟩⟩
      · exact p1 i (by omega)
theorem present_congr {t u : Nat → Nat → Int32} : ∀ n : Nat, (∀ i, i < n → u i 9 = t i 9) → m_present u n = m_present t n
  | 0, _ => rfl
  | n + 1, h => by rw [m_present, m_present, present_congr n (fun i hi => h i (by omega)), h n (Nat.lt_succ_self n)]
theorem leave_count (t : Nat → Nat → Int32) : ∀ n : Nat, m_present t n = m_present (m_leave t n).1 n + (m_leave t n).2
  | 0 => rfl
  | n + 1 => by
    have ih := leave_count t n
    obtain ⟨p1, p2⟩ := leave_at t n
    have pn : (m_leave t n).1 n = t n := p2 n (Nat.le_refl _)
    rw [m_leave, pn]
    by_cases c : t n 9 = 0
    · rw [if_pos c]
      by_cases c2 : m_rear (t n) ≤ 2999
      · rw [if_pos c2, m_present, m_present, pn, ih, if_pos c, Int32.add_assoc, Int32.add_assoc, Int32.add_comm 1]
      · rw [if_neg c2]
        dsimp only
        rw [m_present, m_present, present_congr (u := up2 (up2 (m_leave t n).1 n 9 1) n 5 0) (t := (m_leave t n).1) n (fun i hi => by rw [up2_n (by omega), up2_n (by omega)]), up_nj (by decide), up_at, ih, if_pos c, if_neg (by decide), Int32.add_zero, Int32.add_assoc]
    · rw [if_neg c, m_present, m_present, pn, ih, if_neg c, Int32.add_zero, Int32.add_zero]
