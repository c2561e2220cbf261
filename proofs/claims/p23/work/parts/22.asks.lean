/-! isSecond's and isSo's asks, as they stand in the bytecode. -/
section
variable {t g : Nat → Nat → Int32} {nS i : Nat}
theorem qt0 : q_trn t g nS i 0 = t i 4 := rfl
theorem qt1 : q_trn t g nS i 1 = m_rear (t i) := rfl
theorem qt2 : q_trn t g nS i 2 = t i 5 := rfl
theorem qt3 : q_trn t g nS i 3 = t i 6 := rfl
theorem qt5 : q_trn t g nS i 5 = t i 7 := rfl
theorem qt6 : q_trn t g nS i 6 = nxI (nxO (g 3) (t i 8) nS) := rfl
theorem qt7 : q_trn t g nS i 7 = stt (t i) := rfl
theorem qt8 : q_trn t g nS i 8 = t i 11 := rfl
theorem qt9 : q_trn t g nS i 9 = t i 12 := rfl
theorem qt10 : q_trn t g nS i 10 = t i 13 := rfl
theorem qt11 : q_trn t g nS i 11 = t i 14 := rfl
theorem qt12 : q_trn t g nS i 12 = t i 15 := rfl
theorem qt13 : q_trn t g nS i 13 = t i 16 := rfl
theorem qt15 : q_trn t g nS i 15 = nxI (m_ahead t i) := rfl
end
theorem nI_pred' {k : Nat} (h : 0 < k) : nI k - 1 = nI (k - 1) := by
  obtain ⟨j, rfl⟩ : ∃ j, k = j + 1 := ⟨k - 1, by omega⟩
  exact nI_pred j
theorem nI_le0 {k : Nat} (hk : k < 2 ^ 31) (h : nI k ≤ 0) : k = 0 := Classical.byContradiction fun e => nI_nle (Nat.pos_of_ne_zero e) hk h
theorem Bw4 {cl : List Value} : True := trivial
/-- the four rows of a second -/
def S4 (cI : ClassId) (z1 z2 z3 z4 : Nat) (f1 f2 f3 f4 : Nat → Int32) : va_W := [(z1, .inl (cI, 4, .inl f1)), (z2, .inl (cI, 4, .inl f2)), (z3, .inl (cI, 4, .inl f3)), (z4, .inl (cI, 4, .inl f4))]
def W4 (cI cZ cT : ClassId) (c : Nat) (a b : Nat → Nat) (t g t2 g2 : Nat → Nat → Int32) (z1 z2 z3 z4 : Nat) (f1 f2 f3 f4 : Nat → Int32) : va_W := WB cI cZ cT c a b t g t2 g2 ++ S4 cI z1 z2 z3 z4 f1 f2 f3 f4
section
variable {cI cZ cT : ClassId} {c : Nat} {a b : Nat → Nat} {t g t2 g2 : Nat → Nat → Int32} {z1 z2 z3 z4 : Nat} {f1 f2 f3 f4 f : Nat → Int32}
theorem W4_s0 : (W4 cI cZ cT c a b t g t2 g2 z1 z2 z3 z4 f1 f2 f3 f4).set 31 (z1, .inl (cI, 4, .inl f)) = W4 cI cZ cT c a b t g t2 g2 z1 z2 z3 z4 f f2 f3 f4 := rfl
theorem W4_s1 : (W4 cI cZ cT c a b t g t2 g2 z1 z2 z3 z4 f1 f2 f3 f4).set 32 (z2, .inl (cI, 4, .inl f)) = W4 cI cZ cT c a b t g t2 g2 z1 z2 z3 z4 f1 f f3 f4 := rfl
theorem W4_s2 : (W4 cI cZ cT c a b t g t2 g2 z1 z2 z3 z4 f1 f2 f3 f4).set 33 (z3, .inl (cI, 4, .inl f)) = W4 cI cZ cT c a b t g t2 g2 z1 z2 z3 z4 f1 f2 f f4 := rfl
theorem W4_s3 : (W4 cI cZ cT c a b t g t2 g2 z1 z2 z3 z4 f1 f2 f3 f4).set 34 (z4, .inl (cI, 4, .inl f)) = W4 cI cZ cT c a b t g t2 g2 z1 z2 z3 z4 f1 f2 f3 f := rfl
end
theorem sec_all {t g : Nat → Nat → Int32} {nT nS nW n : Nat} {cl : Nat → Int} (h : LI t g nT nS nW n cl) (hn : n < 100000) : ∃ u G : Nat → Nat → Int32, m_goOn (-1) nT nS nW t g = (u, G) ∧ LI u G nT nS nW (n + 1) cl ∧ (∀ i, i < nT → SeF g n (t i) (u i)) ∧ q_many u G nT 9 = q_many t g nT 9 + s_by t u nT ∧ q_many u G nT 2 = q_many t g nT 2 + m_outs t g nT nS nW 1 := by
  obtain ⟨h1, h2, h3⟩ := h.sec hn
  refine ⟨(m_goOn (-1) nT nS nW t g).1, (m_goOn (-1) nT nS nW t g).2, rfl, h1, h2, gone_i nT (fun i hi => (h2 i hi).2.2.2.2.2.2.2.2.2), ?_⟩
  show (m_goOn (-1) nT nS nW t g).2 8 0 - m_present (m_goOn (-1) nT nS nW t g).1 nT = g 8 0 - m_present t nT + (0 + m_goOnR (-1) nT nS nW t g)
  rw [h3, h1.1.1, h.1.1, Int32.zero_add]
  generalize m_present (m_goOn (-1) nT nS nW t g).1 nT = p
  generalize m_goOnR (-1) nT nS nW t g = r
  refine Int32.toBitVec_inj.mp ?_
  simp only [Int32.toBitVec_add, Int32.toBitVec_sub]
  generalize (nI nT).toBitVec = x
  generalize p.toBitVec = y
  generalize r.toBitVec = z
  rw [BitVec.sub_eq_add_neg, BitVec.sub_eq_add_neg, BitVec.neg_add]
  rw [BitVec.sub_eq_add_neg, BitVec.add_assoc, BitVec.add_assoc, BitVec.add_comm (-z) z, BitVec.add_right_neg, BitVec.add_zero]
theorem TI.r4 {τ : Nat → Int32} {n : Nat} (h : TI τ n) : 0 ≤ (τ 4).toInt ∧ (τ 4).toInt ≤ 4000 := by
  have a0 := h.1
  have a4 := h.2.2.2.1
  omega
theorem sec_asks {g : Nat → Nat → Int32} {n : Nat} {τ e : Nat → Int32} (h : TI τ n) (h2 : TI e (n + 1)) (hs : SeF g n τ e) : ¬ e 4 - τ 4 < 0 ∧ ¬ (40 : Int32) < e 4 - τ 4 ∧ ¬ τ 5 + 3 < e 4 - τ 4 ∧ (¬ stt τ = 0 → e 4 - τ 4 = 0 ∧ (¬ stt e = stt τ → stt e = 1)) ∧ (stt e = 0 → e 5 = e 4 - τ 4) ∧ (¬ stt e = 0 → e 5 = 0) := by
  obtain ⟨s1, s2, s3, s4, s5, s6, s7, -⟩ := hs
  have r := h.r4
  have r2 := h2.r4
  have a5 := h.2.2.2.2.1
  have e5 := h2.2.2.2.2.1
  have hz := h2.2.2.2.2.2.2.2.2.2.2.2.1
  have b9 := h.b9
  have b10 : b01 (τ 10) := h.2.2.2.2.2.2.2.2.2.1
  have c9 := h2.b9
  have c10 : b01 (e 10) := h2.2.2.2.2.2.2.2.2.2.1
  have ey : (e 4 - τ 4).toInt = (e 4).toInt - (τ 4).toInt := i_sub (by omega) (by omega)
  have e3 : (3 : Int32).toInt = 3 := by decide
  have e40 : (40 : Int32).toInt = 40 := by decide
  have e5' : (τ 5 + 3).toInt = (τ 5).toInt + 3 := by rw [i_add (by rw [e3]; omega) (by rw [e3]; omega), e3]
  refine ⟨fun c => ?_, fun c => ?_, fun c => ?_, fun c => ?_, fun c => ?_, fun c => ?_⟩
  · have := i_lt.mp c; rw [i_0] at this; omega
  · have := i_lt.mp c; rw [e40] at this; omega
  · have := i_lt.mp c; rw [e5'] at this; omega
  · have hx : τ 9 = 1 ∨ τ 10 = 1 := by
      rcases b9 with q | q
      · rcases b10 with q2 | q2
        · exact absurd ((stt_0 h.b9).mpr ⟨q, q2⟩) c
        · exact Or.inr q2
      · exact Or.inl q
    refine ⟨by rw [s4 hx]; exact Int32.sub_self _, fun d => ?_⟩
    rcases c9 with q | q
    · exfalso
      rcases b9 with p | p
      · have p2 : τ 10 = 1 := hx.resolve_left (fun z => by rw [z] at p; exact absurd p (by decide))
        refine d ?_
        unfold stt
        rw [q, p, s6 p2, p2]
      · rw [s5 p] at q; exact absurd q (by decide)
    · exact (stt_1 h2.b9).mpr q
  · obtain ⟨q, q2⟩ := (stt_0 h2.b9).mp c
    exact i_eq.mpr (by rw [ey]; exact s7 q q2)
  · have hx : e 9 = 1 ∨ e 10 = 1 := by
      rcases c9 with q | q
      · rcases c10 with q2 | q2
        · exact absurd ((stt_0 h2.b9).mpr ⟨q, q2⟩) c
        · exact Or.inr q2
      · exact Or.inl q
    exact i_eq.mpr (by rw [i_0]; exact hz hx)
/-- what stands for the report of this second -/
def Rpt (g : Nat → Nat → Int32) (n : Nat) (τ : Nat → Int32) (v : Int32) : Prop := (Hear g τ ∧ v = nI (n + 1)) ∨ (¬ Hear g τ ∧ v = τ 13)
theorem rep_asks {g : Nat → Nat → Int32} {n : Nat} {τ e : Nat → Int32} {v : Int32} (hn : n < 100000) (h : TI τ n) (hs : SeF g n τ e) (hv : Rpt g n τ v) : e 13 = v ∧ (v = nI (n + 1) → e 11 = τ 4 ∧ τ 4 ≤ e 6) := by
  obtain ⟨s1, s2, s3, s4, s5, s6, s7, s8, s9, -⟩ := hs
  have a13 := h.2.2.2.2.2.2.2.2.2.2.2.2.2.2.1
  rcases hv with ⟨q, rfl⟩ | ⟨q, rfl⟩
  · obtain ⟨x1, x2, x3⟩ := s8 q
    exact ⟨x1, fun _ => ⟨x2, i_le.mpr x3⟩⟩
  · refine ⟨s9 q, fun e => ?_⟩
    have := congrArg Int32.toInt e
    rw [i_nI (by omega)] at this
    omega
/-- the calls' row, and the sums' -/
def S5 (cI : ClassId) (o z : Nat) (cl f : Nat → Int32) : va_W := [(o, .inl (cI, 4, .inl cl)), (z, .inl (cI, 5, .inl f))]
def W5 (cI cZ cT : ClassId) (c : Nat) (a b : Nat → Nat) (t g t2 g2 : Nat → Nat → Int32) (o z : Nat) (cl f : Nat → Int32) : va_W := WB cI cZ cT c a b t g t2 g2 ++ S5 cI o z cl f
def W6 (cI cZ cT : ClassId) (c : Nat) (a b : Nat → Nat) (t g t2 g2 : Nat → Nat → Int32) (o : Nat) (cl : Nat → Int32) : va_W := WB cI cZ cT c a b t g t2 g2 ++ [(o, .inl (cI, 4, .inl cl))]
section
variable {cI cZ cT : ClassId} {c : Nat} {a b : Nat → Nat} {t g t2 g2 : Nat → Nat → Int32} {o z : Nat} {cl f f' : Nat → Int32}
theorem W5_s : (W5 cI cZ cT c a b t g t2 g2 o z cl f).set 32 (z, .inl (cI, 5, .inl f')) = W5 cI cZ cT c a b t g t2 g2 o z cl f' := rfl
theorem W6_s : (W6 cI cZ cT c a b t g t2 g2 o cl).set 31 (o, .inl (cI, 4, .inl f')) = W6 cI cZ cT c a b t g t2 g2 o f' := rfl
theorem W5_drop : W5 cI cZ cT c a b t g t2 g2 o z cl f = W6 cI cZ cT c a b t g t2 g2 o cl ++ [(z, .inl (cI, 5, .inl f))] := by
  unfold W5 W6 S5
  rw [List.append_assoc]
  rfl
end
section
variable {t : Nat → Nat → Int32} {k : Nat}
theorem ql_1 (c : stt (t k) = 1) : q_left t k + 1 = q_left t (k + 1) := by rw [q_left, if_pos c]
theorem ql_0 (c : ¬ stt (t k) = 1) : q_left t k + 0 = q_left t (k + 1) := by rw [q_left, if_neg c]
theorem qr_1 (c : stt (t k) = 1) : q_run t k + 0 = q_run t (k + 1) := by rw [q_run, if_pos c]
theorem qr_0 (c : ¬ stt (t k) = 1) : q_run t k + 1 = q_run t (k + 1) := by rw [q_run, if_neg c]
end
/-- what one train is asked, that needs itself alone -/
theorem so_one {g : Nat → Nat → Int32} {nS n : Nat} {τ : Nat → Int32} (h : TI τ n) : ¬ τ 4 < τ 11 ∧ ¬ m_rear τ < τ 12 ∧ ¬ m_rear τ < 0 ∧ ¬ τ 4 < m_rear τ ∧ ¬ τ 5 < 0 ∧ ¬ (40 : Int32) < τ 5 ∧ ¬ τ 7 < 0 ∧ (¬ τ 7 ≤ 0 → τ 5 = 0) ∧ (stt τ = 1 → ¬ m_rear τ ≤ 2999) ∧ (¬ stt τ = 1 → m_rear τ ≤ 2999) ∧ (τ 15 = 0 → ¬ τ 6 < τ 4) := by
  have r := h.rear
  have hl := h.left
  obtain ⟨a0, a1, a2, a4, a5, a6, ⟨a7, a7', a7''⟩, a3, a9, a10, -, hz, a11, a12, a13, ⟨a15, a15', a15''⟩, a14⟩ := h
  have e40 : (40 : Int32).toInt = 40 := by decide
  refine ⟨fun c => ?_, fun c => ?_, fun c => ?_, fun c => ?_, fun c => ?_, fun c => ?_, fun c => ?_, fun c => ?_, fun c d => ?_, fun c => ?_, fun c d => ?_⟩
  · have := i_lt.mp c; omega
  · have := i_lt.mp c; omega
  · have := i_lt.mp c; rw [i_0] at this; omega
  · have := i_lt.mp c; omega
  · have := i_lt.mp c; rw [i_0] at this; omega
  · have := i_lt.mp c; rw [e40] at this; omega
  · have := i_lt.mp c; rw [i_0] at this; omega
  · have := mt i_le.mpr c; rw [i_0] at this; exact i_eq.mpr (by rw [i_0]; exact a7'' (by omega))
  · have := i_le.mp d; rw [i_2999] at this; have := hl.mp c; omega
  · refine i_le.mpr ?_; rw [i_2999]; have := mt hl.mpr c; omega
  · have := i_lt.mp d; have := a15'' (by rw [c]; decide); omega
theorem so_may {t g : Nat → Nat → Int32} {nS i n : Nat} (hg : GI g nS) (h : TI (t i) n) : ¬ q_may t g nS i < 0 ∧ ¬ (40 : Int32) < q_may t g nS i ∧ m_in (q_may t g nS i) 0 40 = 1 ∧ q_stp t g i (q_may t g nS i) ≤ m_max 0 (t i 6 - t i 4) := by
  have r := may_r (t := t) (i := i) hg
  have e40 : (40 : Int32).toInt = 40 := by decide
  have c1 : ¬ q_may t g nS i < 0 := fun c => by have := i_lt.mp c; rw [i_0] at this; omega
  have c2 : ¬ (40 : Int32) < q_may t g nS i := fun c => by have := i_lt.mp c; rw [e40] at this; omega
  refine ⟨c1, c2, ?_, i_le.mpr (may_stops hg h)⟩
  unfold m_in
  rw [if_neg c1, if_neg c2]
theorem so_next {t g : Nat → Nat → Int32} {nS i j : Nat} {cl : Nat → Int32} (hn : nS ≤ 4) (h : BI g nS (t i) (cl i).toInt) (e : nxO (g 3) (t i 8) nS = some j) : j < nS ∧ ¬ g 3 j < t i 4 ∧ ¬ cl i = 0 := by
  obtain ⟨h1, h2⟩ := next_i hn h e
  refine ⟨nxO_lt e, fun c => ?_, fun c => ?_⟩
  · have := i_lt.mp c; omega
  · rw [c, i_0] at h2; omega
theorem so_miss {t g : Nat → Nat → Int32} {nS i : Nat} {cl : Nat → Int32} (h : BI g nS (t i) (cl i).toInt) : t i 16 ≤ cl i := i_le.mpr (miss_i h)
theorem nx_nn {o : Option Nat} (h : ¬ nxI o < 0) : ∃ j : Nat, o = some j ∧ nxI o = nI j := by
  cases o with
  | none => exact absurd (show (-1 : Int32) < 0 from by decide) h
  | some j => exact ⟨j, rfl, rfl⟩
theorem ah_some {t : Nat → Nat → Int32} {i j : Nat} (h : m_ahead t i = some j) : i = j + 1 ∧ t j 9 = 0 := by
  have e := m_ahead_lt h
  subst e
  refine ⟨rfl, ?_⟩
  have h2 : (if t j 9 = 0 then some j else none) = some j := h
  by_cases c : t j 9 = 0
  · exact c
  · rw [if_neg c] at h2; cases h2
theorem so_gap {τ σ : Nat → Int32} {n : Nat} (h1 : TI τ n) (h2 : TI σ n) (hg : Gap τ σ) : σ 4 < m_rear τ := by
  have r1 := h1.rear
  have p1 := h1.r4
  have p2 := h2.r4
  unfold Gap at hg
  have e1 : (m_rear τ - σ 4).toInt = (m_rear τ).toInt - (σ 4).toInt := i_sub (by omega) (by omega)
  have e2 : (m_rear τ - σ 4 - 1).toInt = (m_rear τ).toInt - (σ 4).toInt - 1 := by rw [i_sub (by rw [e1, i_1]; omega) (by rw [e1, i_1]; omega), e1, i_1]
  have := i_le.mp hg
  rw [e2, i_0] at this
  exact i_lt.mpr (by omega)
/-- what all are asked -/
theorem so_all {t g : Nat → Nat → Int32} {nT nS nW n : Nat} {f : Nat → Int32} (h : LI t g nT nS nW n (fun i => (f i).toInt)) : ¬ q_there t nT 20 < q_run t nT ∧ ¬ (3 : Int32) * q_run t nT < q_there t nT 20 ∧ ¬ s32 f nT < s32 (g 5) nS + m_tot t 8 nT ∧ q_many t g nT 1 = nI nT ∧ q_many t g nT 2 = q_left t nT ∧ q_many t g nT 4 = nI nS ∧ q_many t g nT 5 = nI nW := by
  have hst := stops_i h
  obtain ⟨⟨hT, nT4, hS, nS4, hW, nW3, hz, hb⟩, hg, hnow, hTB, hfr, hgap, h5, hpot, hcl⟩ := h
  have hTI : ∀ i, i < nT → TI (t i) n := fun i hi => (hTB i hi).1
  have h9 : ∀ i, i < nT → b01 (t i 9) := fun i hi => (hTI i hi).b9
  obtain ⟨N, p, e1, e2, h1, h2, h3⟩ := there_r nT4 hTI
  obtain ⟨p', hp', e3, e4⟩ := present_n t nT
  have er : q_run t nT = nI p := (run_eq nT h9).trans e2
  refine ⟨fun c => ?_, fun c => ?_, fun c => ?_, hT, ?_, hS, hW⟩
  · rw [e1, er] at c
    have := nI_lt' c (by omega) (by omega)
    omega
  · rw [e1, er, show (3 : Int32) = nI 3 from rfl, pk_mul] at c
    have := nI_lt' c (by omega) (by omega)
    omega
  · have := i_lt.mp c; have := i_le.mp hst; omega
  · show g 8 0 - m_present t nT = q_left t nT
    rw [hT, e3, e4 h9, pk_sub hp']
/-- the mean: the numbers, and that none is a NaN -/
theorem so_mean {t g : Nat → Nat → Int32} {nT nS nW n : Nat} {cl : Nat → Int} (h : LI t g nT nS nW n cl) : ∃ s p : Nat, m_speeds t nT = nI s ∧ q_run t nT = nI p ∧ q_mean t nT = fmean s p ∧ (¬ m_present t nT = 0 → vf_n64 (FP.ddiv (FP.i2d (m_speeds t nT)) (FP.i2d (m_present t nT)))) ∧ vf_n64 (FP.dmul (fmean s p) (FP.i2d (nI p))) ∧ vf_n64 (FP.dsub (FP.dmul (fmean s p) (FP.i2d (nI p))) (FP.i2d (nI s))) ∧ FP.dcmp (FP.dsub (FP.dmul (fmean s p) (FP.i2d (nI p))) (FP.i2d (nI s)) &&& 0x7fffffffffffffff) 4547007122018943789 = some .lt := by
  obtain ⟨s, p, e1, e2, e3, e4⟩ := mean_n h.1.2.1 (fun i hi => (h.2.2.2.1 i hi).1)
  obtain ⟨f1, f2, f3, f4⟩ := fgood_s e4
  refine ⟨s, p, e1, (run_eq nT (fun i hi => (h.2.2.2.1 i hi).1.b9)).trans e2, e3, fun c => ?_, f2, f3, f4⟩
  rw [← e3] at f1
  unfold q_mean at f1
  rw [if_neg c] at f1
  exact f1
