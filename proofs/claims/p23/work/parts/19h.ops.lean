/-! What keeps the line's facts: a second, and the law's other calls. -/
theorem GI.of {g g' : Nat → Nat → Int32} {nS : Nat} (h : GI g nS) (e0 : g' 0 = g 0) (e1 : g' 1 = g 1) (e3 : g' 3 = g 3) (e4 : g' 4 = g 4) : GI g' nS := by
  unfold GI
  rw [e0, e1, e3, e4]
  exact h
theorem BI.of {g g' : Nat → Nat → Int32} {nS : Nat} {τ : Nat → Int32} {c : Int} (h : BI g nS τ c) (e3 : g' 3 = g 3) : BI g' nS τ c := by
  unfold BI
  rw [e3]
  exact h
theorem BI.sec {g : Nat → Nat → Int32} {nS : Nat} {now : Int32} {τ e : Nat → Int32} {c : Int} (hn : nS ≤ 4) (h : BI g nS τ c) (hS : ScF g nS now τ e) : BI g nS e c := by
  obtain ⟨b, c1, d, hb, hc, hd, he⟩ := hS
  have h1 : BI g nS b c := by
    rcases hb with ⟨-, v, rfl, -⟩ | ⟨-, rfl⟩
    · have r1 := (rep_f τ now).1
      exact h.same (by rw [updJ (by decide), r1 4 (by decide) (by decide) (by decide)]) (by rw [updJ (by decide), r1 8 (by decide) (by decide) (by decide)]) (by rw [updJ (by decide), r1 16 (by decide) (by decide) (by decide)])
    · exact h
  have h2 : BI g nS c1 c := by
    rcases hc with ⟨-, hF⟩ | ⟨-, rfl⟩
    · exact (h1.go hn hF).1
    · exact h1
  have h3 : BI g nS d c := h2.same (hd.1 4 (by decide) (by decide) (by decide) (by decide)) (hd.1 8 (by decide) (by decide) (by decide) (by decide)) (hd.1 16 (by decide) (by decide) (by decide) (by decide))
  exact h3.same (he.1 4 (by decide) (by decide)) (he.1 8 (by decide) (by decide)) (he.1 16 (by decide) (by decide))
theorem pot_congr {t u g : Nat → Nat → Int32} {nS nT : Nat} (h : ∀ i, i < nT → u i 16 = t i 16 ∧ u i 8 = t i 8) : Pot u g nS nT = Pot t g nS nT := by
  unfold Pot
  rw [sI_congr (f := tQ u) (h := tQ t) nT (fun i hi => by unfold tQ; rw [(h i hi).1, (h i hi).2])]
theorem sec_pot {t g : Nat → Nat → Int32} {nT nS nW n : Nat} {cl : Nat → Int} (h : LI t g nT nS nW n cl) : (∀ k, k < nS → 0 ≤ ((m_goOn (-1) nT nS nW t g).2 5 k).toInt) ∧ Pot (m_goOn (-1) nT nS nW t g).1 (m_goOn (-1) nT nS nW t g).2 nS nT = Pot t g nS nT := by
  obtain ⟨hok, hg, hnow, hT, hfr, hgap, h5, hpot, hcl⟩ := h
  obtain ⟨-, nT4, -, nS4, -⟩ := hok
  have A := rep_at (m_tick g) t (-1) nT
  have hB := auth_at (m_tick g) (m_repAll (m_tick g) (-1) t nT) nW nT
  have hC0 := goAll_pot (m_authAll (m_tick g) nW (m_repAll (m_tick g) (-1) t nT) nT) (m_tick g) (cl := cl) nS4 nT4
  have hD := lookAll_at (m_goAll (-1) nS (m_authAll (m_tick g) nW (m_repAll (m_tick g) (-1) t nT) nT) (m_tick g) nT).1 nT nT4
  have hE := leave_at (m_lookAll (m_goAll (-1) nS (m_authAll (m_tick g) nW (m_repAll (m_tick g) (-1) t nT) nT) (m_tick g) nT).1 nT) nT
  show (∀ k, k < nS → 0 ≤ ((m_goAll (-1) nS (m_authAll (m_tick g) nW (m_repAll (m_tick g) (-1) t nT) nT) (m_tick g) nT).2 5 k).toInt) ∧ Pot (m_leave (m_lookAll (m_goAll (-1) nS (m_authAll (m_tick g) nW (m_repAll (m_tick g) (-1) t nT) nT) (m_tick g) nT).1 nT) nT).1 (m_goAll (-1) nS (m_authAll (m_tick g) nW (m_repAll (m_tick g) (-1) t nT) nT) (m_tick g) nT).2 nS nT = Pot t g nS nT
  have hb : ∀ i, i < nT → m_authAll (m_tick g) nW (m_repAll (m_tick g) (-1) t nT) nT i 4 = t i 4 ∧ m_authAll (m_tick g) nW (m_repAll (m_tick g) (-1) t nT) nT i 8 = t i 8 ∧ m_authAll (m_tick g) nW (m_repAll (m_tick g) (-1) t nT) nT i 16 = t i 16 := fun i hi => by
    have ha : ∀ j, j ≠ 11 → j ≠ 12 → j ≠ 13 → m_repAll (m_tick g) (-1) t nT i j = t i j := fun j h1 h2 h3 => by
      by_cases hH : i < nT ∧ ¬ nI i = -1 ∧ Hear (m_tick g) (t i)
      · rw [(A i).1 hH]; exact (rep_f _ _).1 j h1 h2 h3
      · rw [(A i).2 hH]
    have hq : ∀ j, j ≠ 6 → m_authAll (m_tick g) nW (m_repAll (m_tick g) (-1) t nT) nT i j = m_repAll (m_tick g) (-1) t nT i j := fun j h1 => by
      by_cases hH : i < nT ∧ Hear (m_tick g) (m_repAll (m_tick g) (-1) t nT i)
      · obtain ⟨v, hv, -⟩ := (hB i).1 hH
        rw [hv, updJ h1]
      · rw [(hB i).2 hH]
    exact ⟨(hq 4 (by decide)).trans (ha 4 (by decide) (by decide) (by decide)), (hq 8 (by decide)).trans (ha 8 (by decide) (by decide) (by decide)), (hq 16 (by decide)).trans (ha 16 (by decide) (by decide) (by decide))⟩
  have pb : Pot (m_authAll (m_tick g) nW (m_repAll (m_tick g) (-1) t nT) nT) (m_tick g) nS nT = Pot t g nS nT := (pot_congr (fun i hi => ⟨(hb i hi).2.2, (hb i hi).2.1⟩)).trans rfl
  have c16 := cl_sum nT4 hcl
  obtain ⟨-, q2, q3⟩ := hC0 (fun i hi => ((hT i hi).2.of rfl).same (hb i hi).1 (hb i hi).2.1 (hb i hi).2.2) h5 (by rw [pb]; omega) nT (Nat.le_refl _)
  refine ⟨q2, ?_⟩
  rw [← pb, ← q3]
  refine pot_congr (fun i hi => ?_)
  have e := hE.1 i hi
  have d := hD.1 i hi
  exact ⟨(e.1 16 (by decide) (by decide)).trans (d.1 16 (by decide) (by decide) (by decide) (by decide)), (e.1 8 (by decide) (by decide)).trans (d.1 8 (by decide) (by decide) (by decide) (by decide))⟩
theorem goOn_row {t g : Nat → Nat → Int32} {nT nS nW r : Nat} (h5 : r ≠ 5) (h8 : r ≠ 8) : (m_goOn (-1) nT nS nW t g).2 r = g r := (m_goAll_g _ _ _ _ h5 _).trans (up2_n h8)
theorem goOn_now {t g : Nat → Nat → Int32} {nT nS nW : Nat} : (m_goOn (-1) nT nS nW t g).2 8 1 = g 8 1 + 1 := by
  have e : (m_goOn (-1) nT nS nW t g).2 8 = m_tick g 8 := m_goAll_g _ _ _ _ (by decide) _
  rw [e]
  exact up_at
theorem nI_succ' (n : Nat) : nI n + 1 = nI (n + 1) := (nI_succ n).symm
/-- the second: facts kept, and what is asked of each train -/
theorem LI.sec {t g : Nat → Nat → Int32} {nT nS nW n : Nat} {cl : Nat → Int} (h : LI t g nT nS nW n cl) (hn : n < 100000) :
    LI (m_goOn (-1) nT nS nW t g).1 (m_goOn (-1) nT nS nW t g).2 nT nS nW (n + 1) cl ∧ (∀ i, i < nT → SeF g n (t i) ((m_goOn (-1) nT nS nW t g).1 i)) ∧ m_present t nT = m_present (m_goOn (-1) nT nS nW t g).1 nT + m_goOnR (-1) nT nS nW t g := by
  obtain ⟨p5, pp⟩ := sec_pot h
  have ok' := h.1.goOn (-1)
  obtain ⟨hok, hg, hnow, hT, hfr, hgap, h5, hpot, hcl⟩ := h
  obtain ⟨-, nT4, -, nS4, -⟩ := hok
  obtain ⟨s1, s2, s3, s4⟩ := sec_at (t := t) (g := g) (nT := nT) (nS := nS) (nW := nW) nT4
  have hr : ∀ r, r ≠ 5 → r ≠ 8 → (m_goOn (-1) nT nS nW t g).2 r = g r := fun r h5 h8 => goOn_row h5 h8
  have hw : (m_goOn (-1) nT nS nW t g).2 8 1 = g 8 1 + 1 := goOn_now
  rw [hnow, nI_succ'] at s1
  generalize m_goOn (-1) nT nS nW t g = e at *
  have st := fun i hi => sec_train hg hn (hT i hi).1 (s1 i hi)
  refine ⟨⟨ok', hg.of (hr 0 (by decide) (by decide)) (hr 1 (by decide) (by decide)) (hr 3 (by decide) (by decide)) (hr 4 (by decide) (by decide)), by rw [hw, hnow, nI_succ'], fun i hi => ⟨(st i hi).1, (((hT i hi).2.sec nS4 (s1 i hi)).of (hr 3 (by decide) (by decide)))⟩, fun i hi => by rw [s2 i hi]; exact hfr i hi, s3, p5, by rw [pp]; exact hpot, hcl⟩, fun i hi => (st i hi).2, s4⟩
/-- other rows of the line -/
theorem LI.rows {t g g' : Nat → Nat → Int32} {nT nS nW nW' n : Nat} {cl : Nat → Int} (h : LI t g nT nS nW n cl) (ok : Ok t g' nT nS nW') (hg : GI g' nS) (e3 : g' 3 = g 3) (e5 : g' 5 = g 5) (e8 : g' 8 1 = g 8 1) : LI t g' nT nS nW' n cl := by
  obtain ⟨-, -, hnow, hT, hfr, hgap, h5, hpot, hcl⟩ := h
  refine ⟨ok, hg, e8.trans hnow, fun i hi => ⟨(hT i hi).1, (hT i hi).2.of e3⟩, hfr, hgap, by rw [e5]; exact h5, ?_, hcl⟩
  have : Pot t g' nS nT = Pot t g nS nT := by unfold Pot rI; rw [e5]
  rw [this]
  exact hpot
/-- a train is whole, or not -/
theorem LI.whole {t g : Nat → Nat → Int32} {nT nS nW n : Nat} {cl : Nat → Int} (h : LI t g nT nS nW n cl) {j : Nat} (hj : j < nT) {v : Int32} (hv : b01 v) : LI (up2 t j 3 v) g nT nS nW n cl := by
  obtain ⟨hok, hg, hnow, hT, hfr, hgap, h5, hpot, hcl⟩ := h
  have ho : ∀ i y, y ≠ 3 → up2 t j 3 v i y = t i y := fun i y hy => by
    by_cases e : i = j
    · subst e; exact up_nj hy
    · rw [up2_n e]
  have h3 : ∀ i, i < nT → b01 (up2 t j 3 v i 3) := fun i hi => by
    by_cases e : i = j
    · subst e; rw [up_at]; exact hv
    · rw [up2_n e]; exact (hT i hi).1.2.2.2.2.2.2.2.1
  obtain ⟨k1, k2, k3, k4, k5, k6, k7, k8⟩ := hok
  refine ⟨⟨k1, k2, k3, k4, k5, k6, k7, k8.up (Or.inr hv)⟩, hg, hnow, fun i hi => ⟨?_, (hT i hi).2.same (ho i 4 (by decide)) (ho i 8 (by decide)) (ho i 16 (by decide))⟩, fun i hi => by rw [up2_n (by omega)]; exact hfr i hi, fun i hi g1 g2 => ?_, h5, ?_, hcl⟩
  · have := (hT i hi).1
    have h3' := h3 i hi
    unfold TI at this ⊢
    rw [ho i 0 (by decide), ho i 1 (by decide), ho i 2 (by decide), ho i 4 (by decide), ho i 5 (by decide), ho i 6 (by decide), ho i 7 (by decide), ho i 9 (by decide), ho i 10 (by decide), ho i 11 (by decide), ho i 12 (by decide), ho i 13 (by decide), ho i 14 (by decide), ho i 15 (by decide)]
    exact ⟨this.1, this.2.1, this.2.2.1, this.2.2.2.1, this.2.2.2.2.1, this.2.2.2.2.2.1, this.2.2.2.2.2.2.1, h3', this.2.2.2.2.2.2.2.2⟩
  · unfold GoX at g1 g2
    rw [ho i 9 (by decide), ho i 10 (by decide)] at g1
    rw [ho (i + 1) 9 (by decide), ho (i + 1) 10 (by decide)] at g2
    have := hgap i hi g1 g2
    unfold Gap m_rear at this ⊢
    rw [ho i 4 (by decide), ho i 0 (by decide), ho (i + 1) 4 (by decide)]
    exact this
  · rw [pot_congr (fun i hi => ⟨ho i 16 (by decide), ho i 8 (by decide)⟩)]
    exact hpot
