/-! The whole line's second. -/
def sI (f : Nat → Int) : Nat → Int
  | 0 => 0
  | n + 1 => sI f n + f n
theorem sI_congr {f h : Nat → Int} : ∀ n : Nat, (∀ i, i < n → f i = h i) → sI f n = sI h n
  | 0, _ => rfl
  | n + 1, e => by rw [sI, sI, sI_congr n (fun i hi => e i (by omega)), e n (Nat.lt_succ_self n)]
theorem sI_one {f h : Nat → Int} {j : Nat} : ∀ n : Nat, j < n → (∀ i, i ≠ j → h i = f i) → sI h n = sI f n - f j + h j
  | 0, hj, _ => absurd hj (Nat.not_lt_zero _)
  | n + 1, hj, e => by
    rw [sI, sI]
    by_cases c : j = n
    · subst c
      rw [sI_congr (f := h) (h := f) j (fun i hi => e i (by omega))]
      omega
    · rw [sI_one n (by omega) e, e n (fun z => c z.symm)]
      omega
theorem sI_le {f h : Nat → Int} : ∀ n : Nat, (∀ i, i < n → f i ≤ h i) → sI f n ≤ sI h n
  | 0, _ => Int.le_refl _
  | n + 1, e => by
    rw [sI, sI]
    have := sI_le n (fun i hi => e i (Nat.lt_succ_of_lt hi))
    have := e n (Nat.lt_succ_self n)
    omega
theorem sI_zero : ∀ n : Nat, sI (fun _ => 0) n = 0
  | 0 => rfl
  | n + 1 => by rw [sI, sI_zero n]; rfl
theorem sI_nn {f : Nat → Int} (n : Nat) (h : ∀ i, i < n → 0 ≤ f i) : 0 ≤ sI f n := by
  have := sI_le (f := fun _ => 0) (h := f) n h
  rw [sI_zero] at this
  exact this
theorem sI_at {f : Nat → Int} {j : Nat} : ∀ n : Nat, j < n → (∀ i, i < n → 0 ≤ f i) → f j ≤ sI f n
  | 0, hj, _ => absurd hj (Nat.not_lt_zero _)
  | n + 1, hj, e => by
    rw [sI]
    by_cases c : j = n
    · subst c
      have := sI_nn j (fun i hi => e i (Nat.lt_succ_of_lt hi))
      omega
    · have := sI_at (f := f) (j := j) n (by omega) (fun i hi => e i (Nat.lt_succ_of_lt hi))
      have := e n (Nat.lt_succ_self n)
      omega
def rI (g : Nat → Nat → Int32) : Nat → Int := fun k => (g 5 k).toInt
def tQ (t : Nat → Nat → Int32) : Nat → Int := fun i => (t i 16).toInt + bI (t i 8)
def Pot (t g : Nat → Nat → Int32) (nS nT : Nat) : Int := sI (rI g) nS + sI (tQ t) nT
theorem go_g (t g : Nat → Nat → Int32) (i nS : Nat) : (0 < t i 7 → (m_go t g i nS).2 = g) ∧ (¬ 0 < t i 7 → (∀ j, StaF g nS (t i) j → (m_go t g i nS).2 = up2 g 5 j (g 5 j + 1)) ∧ ((¬ ∃ j, StaF g nS (t i) j) → (m_go t g i nS).2 = g)) := by
  unfold m_go
  by_cases c : 0 < t i 7
  · rw [if_pos c]; exact ⟨fun _ => rfl, fun h => absurd c h⟩
  · rw [if_neg c]
    refine ⟨fun h => absurd h c, fun _ => ?_⟩
    dsimp only
    obtain ⟨a5, a14, ao⟩ := go1_s t g i nS
    generalize m_go1 t g i nS = u at a5 a14 ao
    have b4 : m_go2 u i i 4 = t i 4 + spd g nS (t i) := by unfold m_go2; rw [up_at, a5, ao 4 (by decide) (by decide)]
    have b5 : m_go2 u i i 5 = spd g nS (t i) := by unfold m_go2; rw [up_nj (by decide), a5]
    have b8 : m_go2 u i i 8 = t i 8 := by unfold m_go2; rw [up_nj (by decide), ao 8 (by decide) (by decide)]
    generalize m_go2 u i = w at b4 b5 b8
    unfold m_stopAt
    rw [b8, b4, b5]
    cases hx : nxO (g 3) (t i 8) nS with
    | none => exact ⟨fun j h => (by rw [h.1] at hx; cases hx), fun _ => rfl⟩
    | some j =>
      dsimp only
      by_cases c1 : spd g nS (t i) = 0
      · rw [if_pos c1]
        by_cases c2 : g 3 j = t i 4 + spd g nS (t i)
        · rw [if_pos c2]
          exact ⟨fun q h => by rw [h.1] at hx; cases hx; rfl, fun h => absurd ⟨j, hx, c1, c2⟩ h⟩
        · rw [if_neg c2]
          exact ⟨fun q h => by have h1 := h.1; rw [hx] at h1; cases h1; exact absurd h.2.2 c2, fun _ => rfl⟩
      · rw [if_neg c1]
        exact ⟨fun q h => absurd h.2.1 c1, fun _ => rfl⟩
theorem goAll_pot (t g : Nat → Nat → Int32) {nS nT : Nat} {cl : Nat → Int} (hS : nS ≤ 4) (hT : nT ≤ 4) (h1 : ∀ i, i < nT → BI g nS (t i) (cl i)) (h2 : ∀ k, k < nS → 0 ≤ (g 5 k).toInt) (h3 : Pot t g nS nT ≤ 16) : ∀ n : Nat, n ≤ nT →
    (∀ i, i < nT → BI g nS ((m_goAll (-1) nS t g n).1 i) (cl i)) ∧ (∀ k, k < nS → 0 ≤ ((m_goAll (-1) nS t g n).2 5 k).toInt) ∧ Pot (m_goAll (-1) nS t g n).1 (m_goAll (-1) nS t g n).2 nS nT = Pot t g nS nT
  | 0, _ => ⟨h1, h2, rfl⟩
  | n + 1, hn => by
    obtain ⟨p1, p2, p3⟩ := goAll_pot t g hS hT h1 h2 h3 n (by omega)
    have hg3 : (m_goAll (-1) nS t g n).2 3 = g 3 := m_goAll_g _ _ _ _ (by decide) _
    rw [m_goAll]
    have hs : ¬ nI n = -1 := nI_nm1 (by omega)
    generalize (m_goAll (-1) nS t g n) = ug at p1 p2 p3 hg3
    obtain ⟨u, gg⟩ := ug
    dsimp only at p1 p2 p3 hg3 ⊢
    by_cases c1 : u n 9 = 0
    · rw [if_pos c1]
      by_cases c2 : u n 10 = 0
      · rw [if_pos c2, if_neg hs]
        have hF := go_s u gg n nS
        have ho : ∀ x, x ≠ n → (m_go u gg n nS).1 x = u x := fun x h => go_n u gg nS h
        obtain ⟨g1, g2⟩ := go_g u gg n nS
        have hb : BI gg nS (u n) (cl n) := by
          have := p1 n (by omega)
          unfold BI at this ⊢
          rw [hg3]
          exact this
        obtain ⟨q1, q2⟩ := hb.go hS hF
        generalize m_go u gg n nS = wg at hF ho g1 g2 q1 q2
        obtain ⟨w, gw⟩ := wg
        dsimp only at hF ho g1 g2 q1 q2 ⊢
        have qn : BI g nS (w n) (cl n) := by
          unfold BI at q1 ⊢
          rw [hg3] at q1
          exact q1
        have r1 : ∀ i, i < nT → BI g nS (w i) (cl i) := fun i hi => by
          by_cases e : i = n
          · subst e; exact qn
          · rw [ho i e]; exact p1 i hi
        have tq : sI (tQ w) nT = sI (tQ u) nT - tQ u n + tQ w n := sI_one nT (by omega) (fun i hi => by unfold tQ; rw [ho i hi])
        have tn : ∀ i, i < nT → 0 ≤ tQ u i := fun i hi => by
          obtain ⟨b1, -, b3, -⟩ := p1 i hi
          have := b4_r b1
          unfold tQ
          omega
        unfold Pot at p3 ⊢ h3
        rcases q2 with ⟨c7, q2⟩ | ⟨c7, ⟨j, hj⟩, q2⟩ | ⟨c7, hj, q2⟩
        · rw [g1 c7]
          refine ⟨r1, p2, ?_⟩
          rw [tq]
          unfold tQ at *
          omega
        · have hjn := nxO_lt hj.1
          rw [(g2 c7).1 j hj]
          have hr : (gg 5 j).toInt ≤ 16 := by
            have a1 : (gg 5 j).toInt ≤ sI (rI gg) nS := sI_at (f := rI gg) (j := j) nS hjn p2
            have a2 := sI_nn (f := tQ u) nT tn
            omega
          have hj0 := p2 j hjn
          have ei : (gg 5 j + 1).toInt = (gg 5 j).toInt + 1 := by rw [i_add (by rw [i_1]; omega) (by rw [i_1]; omega), i_1]
          have rq : sI (rI (up2 gg 5 j (gg 5 j + 1))) nS = sI (rI gg) nS - rI gg j + rI (up2 gg 5 j (gg 5 j + 1)) j := sI_one nS hjn (fun i hi => by unfold rI; rw [up_nj hi])
          have rj : rI (up2 gg 5 j (gg 5 j + 1)) j = (gg 5 j).toInt + 1 := by unfold rI; rw [up_at]; exact ei
          refine ⟨r1, fun k hk => ?_, ?_⟩
          · by_cases e : k = j
            · subst e; rw [up_at]; omega
            · rw [up_nj e]; exact p2 k hk
          · rw [tq, rq, rj]
            unfold tQ rI at *
            omega
        · rw [(g2 c7).2 hj]
          refine ⟨r1, p2, ?_⟩
          rw [tq]
          unfold tQ at *
          omega
      · rw [if_neg c2]; exact ⟨p1, p2, p3⟩
    · rw [if_neg c1]; exact ⟨p1, p2, p3⟩
/-- what every second keeps -/
def LI (t g : Nat → Nat → Int32) (nT nS nW n : Nat) (cl : Nat → Int) : Prop := Ok t g nT nS nW ∧ GI g nS ∧ g 8 1 = nI n ∧ (∀ i, i < nT → TI (t i) n ∧ BI g nS (t i) (cl i)) ∧ (∀ i, nT ≤ i → t i = tauI) ∧ (∀ i, i + 1 < nT → GoX (t i) → GoX (t (i + 1)) → Gap (t i) (t (i + 1))) ∧ (∀ k, k < nS → 0 ≤ (g 5 k).toInt) ∧ Pot t g nS nT ≤ sI cl nT ∧ (∀ i, i < 4 → 0 ≤ cl i ∧ cl i ≤ 4)
theorem cl_sum {cl : Nat → Int} {nT : Nat} (hT : nT ≤ 4) (h : ∀ i, i < 4 → 0 ≤ cl i ∧ cl i ≤ 4) : sI cl nT ≤ 16 := by
  have h0 := h 0 (by decide)
  have h1 := h 1 (by decide)
  have h2 := h 2 (by decide)
  have h3 := h 3 (by decide)
  have : nT = 0 ∨ nT = 1 ∨ nT = 2 ∨ nT = 3 ∨ nT = 4 := by omega
  rcases this with rfl | rfl | rfl | rfl | rfl <;> simp only [sI] <;> omega
theorem hear_rep {g : Nat → Nat → Int32} {τ : Nat → Int32} {now : Int32} : Hear g (repT τ now) ↔ Hear g τ := by
  obtain ⟨r1, -⟩ := rep_f τ now
  unfold Hear m_radio
  rw [r1 9 (by decide) (by decide) (by decide), r1 4 (by decide) (by decide) (by decide)]
theorem sec_at {t g : Nat → Nat → Int32} {nT nS nW : Nat} (hT : nT ≤ 4) :
    (∀ i, i < nT → ScF g nS (g 8 1 + 1) (t i) ((m_goOn (-1) nT nS nW t g).1 i)) ∧ (∀ i, nT ≤ i → (m_goOn (-1) nT nS nW t g).1 i = t i) ∧ (∀ i, i + 1 < nT → GoX ((m_goOn (-1) nT nS nW t g).1 i) → GoX ((m_goOn (-1) nT nS nW t g).1 (i + 1)) → Gap ((m_goOn (-1) nT nS nW t g).1 i) ((m_goOn (-1) nT nS nW t g).1 (i + 1))) ∧ m_present t nT = m_present (m_goOn (-1) nT nS nW t g).1 nT + m_goOnR (-1) nT nS nW t g := by
  have A := rep_at (m_tick g) t (-1) nT
  have en : (m_tick g) 8 1 = g 8 1 + 1 := up_at
  have hB := auth_at (m_tick g) (m_repAll (m_tick g) (-1) t nT) nW nT
  have hC := fun i => goAll_at (m_authAll (m_tick g) nW (m_repAll (m_tick g) (-1) t nT) nT) (m_tick g) nS nT i hT
  have hD := lookAll_at (m_goAll (-1) nS (m_authAll (m_tick g) nW (m_repAll (m_tick g) (-1) t nT) nT) (m_tick g) nT).1 nT hT
  have hE := leave_at (m_lookAll (m_goAll (-1) nS (m_authAll (m_tick g) nW (m_repAll (m_tick g) (-1) t nT) nT) (m_tick g) nT).1 nT) nT
  have hP := leave_count (m_lookAll (m_goAll (-1) nS (m_authAll (m_tick g) nW (m_repAll (m_tick g) (-1) t nT) nT) (m_tick g) nT).1 nT) nT
  show (∀ i, i < nT → ScF g nS (g 8 1 + 1) (t i) ((m_leave (m_lookAll (m_goAll (-1) nS (m_authAll (m_tick g) nW (m_repAll (m_tick g) (-1) t nT) nT) (m_tick g) nT).1 nT) nT).1 i)) ∧ (∀ i, nT ≤ i → (m_leave (m_lookAll (m_goAll (-1) nS (m_authAll (m_tick g) nW (m_repAll (m_tick g) (-1) t nT) nT) (m_tick g) nT).1 nT) nT).1 i = t i) ∧ (∀ i, i + 1 < nT → GoX ((m_leave (m_lookAll (m_goAll (-1) nS (m_authAll (m_tick g) nW (m_repAll (m_tick g) (-1) t nT) nT) (m_tick g) nT).1 nT) nT).1 i) → GoX ((m_leave (m_lookAll (m_goAll (-1) nS (m_authAll (m_tick g) nW (m_repAll (m_tick g) (-1) t nT) nT) (m_tick g) nT).1 nT) nT).1 (i + 1)) → Gap ((m_leave (m_lookAll (m_goAll (-1) nS (m_authAll (m_tick g) nW (m_repAll (m_tick g) (-1) t nT) nT) (m_tick g) nT).1 nT) nT).1 i) ((m_leave (m_lookAll (m_goAll (-1) nS (m_authAll (m_tick g) nW (m_repAll (m_tick g) (-1) t nT) nT) (m_tick g) nT).1 nT) nT).1 (i + 1))) ∧ m_present t nT = m_present (m_leave (m_lookAll (m_goAll (-1) nS (m_authAll (m_tick g) nW (m_repAll (m_tick g) (-1) t nT) nT) (m_tick g) nT).1 nT) nT).1 nT + (m_leave (m_lookAll (m_goAll (-1) nS (m_authAll (m_tick g) nW (m_repAll (m_tick g) (-1) t nT) nT) (m_tick g) nT).1 nT) nT).2
  generalize m_leave (m_lookAll (m_goAll (-1) nS (m_authAll (m_tick g) nW (m_repAll (m_tick g) (-1) t nT) nT) (m_tick g) nT).1 nT) nT = e at hE hP ⊢
  generalize m_lookAll (m_goAll (-1) nS (m_authAll (m_tick g) nW (m_repAll (m_tick g) (-1) t nT) nT) (m_tick g) nT).1 nT = d at hD hE hP
  generalize m_goAll (-1) nS (m_authAll (m_tick g) nW (m_repAll (m_tick g) (-1) t nT) nT) (m_tick g) nT = c at hC hD
  generalize m_authAll (m_tick g) nW (m_repAll (m_tick g) (-1) t nT) nT = b at hB hC
  generalize m_repAll (m_tick g) (-1) t nT = a at A hB
  have hh : ∀ τ : Nat → Int32, Hear (m_tick g) τ ↔ Hear g τ := fun τ => Iff.rfl
  have hb : ∀ i, i < nT → ((Hear g (t i) ∧ ∃ v : Int32, b i = upd (repT (t i) (g 8 1 + 1)) 6 v ∧ (t i 4).toInt ≤ v.toInt ∧ (v.toInt ≤ (t i 4).toInt ∨ v.toInt ≤ (2999 + t i 0).toInt)) ∨ (¬ Hear g (t i) ∧ b i = t i)) := fun i hi => by
    by_cases hH : Hear g (t i)
    · have ha := (A i).1 ⟨hi, nI_nm1 (by omega), hH⟩
      obtain ⟨v, v1, v2, v3⟩ := (hB i).1 ⟨hi, by rw [ha]; exact (hear_rep (g := m_tick g)).mpr hH⟩
      rw [ha, en] at v1
      have r1 := (rep_f (t i) (m_tick g 8 1)).1
      rw [ha, r1 4 (by decide) (by decide) (by decide)] at v2 v3
      rw [r1 0 (by decide) (by decide) (by decide)] at v3
      exact Or.inl ⟨hH, v, v1, v2, v3⟩
    · have ha := (A i).2 (fun h => hH h.2.2)
      exact Or.inr ⟨hH, ((hB i).2 (fun h => hH (by rw [ha] at h; exact h.2))).trans ha⟩
  have hn : ∀ i, nT ≤ i → e.1 i = t i := fun i hi => by
    rw [hE.2 i hi, hD.2.1 i hi, (hC i).2 (fun h => absurd h.1 (by omega)), (hB i).2 (fun h => absurd h.1 (by omega)), (A i).2 (fun h => absurd h.1 (by omega))]
  refine ⟨fun i hi => ⟨b i, c.1 i, d i, hb i hi, ?_, hD.1 i hi, hE.1 i hi⟩, hn, fun i hi g1 g2 => ?_, ?_⟩
  · by_cases hG : GoX (b i)
    · exact Or.inl ⟨hG, ((hC i).1 ⟨hi, hG⟩).congr (g := g) rfl rfl rfl rfl⟩
    · exact Or.inr ⟨hG, (hC i).2 (fun h => hG h.2)⟩
  · have st : ∀ j, j < nT → e.1 j 9 = 0 → d j 9 = 0 ∧ c.1 j 9 = 0 ∧ e.1 j 10 = d j 10 ∧ e.1 j 4 = c.1 j 4 ∧ e.1 j 0 = c.1 j 0 := fun j hj h9 => by
      have d9 := (hD.1 j hj).1 9 (by decide) (by decide) (by decide) (by decide)
      have d4 := (hD.1 j hj).1 4 (by decide) (by decide) (by decide) (by decide)
      have d0 := (hD.1 j hj).1 0 (by decide) (by decide) (by decide) (by decide)
      obtain ⟨E0, E9⟩ := hE.1 j hj
      have q : d j 9 = 0 := by
        rcases E9 with ⟨q1, -⟩ | ⟨-, q2, -⟩
        · exact q1
        · rw [← q2]; exact h9
      exact ⟨q, d9 ▸ q, E0 10 (by decide) (by decide), (E0 4 (by decide) (by decide)).trans d4, (E0 0 (by decide) (by decide)).trans d0⟩
    obtain ⟨x1, x2, x3, x4, x5⟩ := st i (by omega) g1.1
    obtain ⟨y1, y2, y3, y4, y5⟩ := st (i + 1) hi g2.1
    rcases hD.2.2 i hi x2 y2 with ⟨h, -⟩ | h
    · have := g1.2
      rw [x3, h] at this
      exact absurd this (by decide)
    · unfold Gap m_rear at h ⊢
      rw [x4, x5, y4]
      exact h
  · rw [← hP]
    refine (present_congr nT (fun i hi => ?_)).symm
    have d9 := (hD.1 i hi).1 9 (by decide) (by decide) (by decide) (by decide)
    rw [d9]
    have c9 : c.1 i 9 = b i 9 := by
      by_cases hG : GoX (b i)
      · exact ((hC i).1 ⟨hi, hG⟩).1 9 (by decide) (by decide) (by decide) (by decide) (by decide) (by decide)
      · rw [(hC i).2 (fun h => hG h.2)]
    rw [c9]
    rcases hb i hi with ⟨-, v, h, -⟩ | ⟨-, h⟩
    · rw [h, updJ (by decide), (rep_f _ _).1 9 (by decide) (by decide) (by decide)]
    · rw [h]
