/-! The law's other calls: the entry, section, station, works, end. -/
theorem LI_0 : LI tI gI 0 0 0 0 (fun _ => 0) := by
  refine ⟨⟨rfl, by decide, rfl, by decide, rfl, by decide, fun c hc => Or.inr (fr_in c hc), fun i _ => ⟨Or.inr rfl, Or.inl rfl, Or.inl rfl⟩⟩, ⟨fun c hc => ?_, fun c hc => absurd hc (Nat.not_lt_zero _)⟩, rfl, fun i hi => absurd hi (Nat.not_lt_zero _), fun _ _ => rfl, fun i hi => absurd hi (Nat.not_lt_zero _), fun k hk => absurd hk (Nat.not_lt_zero _), by decide, fun _ _ => ⟨Int.le_refl 0, (show (0 : Int) ≤ 4 from by decide)⟩⟩
  have e0 : gI 0 c = 40 := fl_in c hc
  have e1 : gI 1 c = 0 := rfl
  rw [e0, e1]
  decide
theorem LI.section {t g : Nat → Nat → Int32} {nT nS nW n : Nat} {cl : Nat → Int} (h : LI t g nT nS nW n cl) {k : Nat} {l gr ra : Int32} (h1 : 1 ≤ l.toInt ∧ l.toInt ≤ 40) (h2 : -2 ≤ gr.toInt ∧ gr.toInt ≤ 2) (h3 : b01 ra) : LI t (up2 (up2 (up2 g 0 k l) 1 k gr) 2 k ra) nT nS nW n cl := by
  have hok := h.1
  have hg := h.2.1
  obtain ⟨k1, k2, k3, k4, k5, k6, k7, k8⟩ := hok
  refine h.rows ⟨k1, k2, k3, k4, k5, k6, fun c hc => ?_, k8⟩ ⟨fun c hc => ?_, hg.2⟩ rfl rfl rfl
  · by_cases e : c = k
    · subst e; rw [up_at]; exact h3
    · rw [up_nj e]; exact k7 c hc
  · have q := hg.1 c hc
    have e0 : (up2 (up2 (up2 g 0 k l) 1 k gr) 2 k ra) 0 = upd (g 0) k l := by rw [up2_n (by decide), up2_n (by decide), up2_s]
    have e1 : (up2 (up2 (up2 g 0 k l) 1 k gr) 2 k ra) 1 = upd (g 1) k gr := by rw [up2_n (by decide), up2_s, up2_n (by decide)]
    rw [e0, e1]
    by_cases e : c = k
    · subst e; rw [updA, updA]; exact ⟨h1.1, h1.2, h2.1, h2.2⟩
    · rw [updJ e, updJ e]; exact q
theorem LI.station {t g : Nat → Nat → Int32} {nS nW n : Nat} {cl : Nat → Int} (h : LI t g 0 nS nW n cl) (hS : nS < 4) {m d : Int32} (h1 : 0 ≤ m.toInt ∧ m.toInt ≤ 2999) (h2 : 0 ≤ d.toInt ∧ d.toInt ≤ 60) : LI t (up2 (up2 (up2 (up2 g 3 nS m) 4 nS d) 5 nS 0) 8 2 (nI (nS + 1))) 0 (nS + 1) nW n cl := by
  obtain ⟨⟨k1, k2, k3, k4, k5, k6, k7, k8⟩, hg, hnow, hT, hfr, hgap, h5, hpot, hcl⟩ := h
  have e3 : (up2 (up2 (up2 (up2 g 3 nS m) 4 nS d) 5 nS 0) 8 2 (nI (nS + 1))) 3 = upd (g 3) nS m := by rw [up2_n (by decide), up2_n (by decide), up2_n (by decide), up2_s]
  have e4 : (up2 (up2 (up2 (up2 g 3 nS m) 4 nS d) 5 nS 0) 8 2 (nI (nS + 1))) 4 = upd (g 4) nS d := by rw [up2_n (by decide), up2_n (by decide), up2_s, up2_n (by decide)]
  have e5 : (up2 (up2 (up2 (up2 g 3 nS m) 4 nS d) 5 nS 0) 8 2 (nI (nS + 1))) 5 = upd (g 5) nS 0 := by rw [up2_n (by decide), up2_s, up2_n (by decide), up2_n (by decide)]
  refine ⟨⟨?_, k2, up_at, hS, ?_, k6, k7, k8⟩, ⟨fun c hc => hg.1 c hc, fun c hc => ?_⟩, ?_, fun i hi => absurd hi (Nat.not_lt_zero _), hfr, fun i hi => absurd hi (Nat.not_lt_zero _), fun k hk => ?_, ?_, hcl⟩
  · rw [up_nj (by decide)]; exact k1
  · rw [up_nj (by decide)]; exact k5
  · rw [e3, e4]
    by_cases e : c = nS
    · subst e; rw [updA, updA]; exact ⟨h1.1, h1.2, h2.1, h2.2⟩
    · rw [updJ e, updJ e]; exact hg.2 c (by omega)
  · rw [up_nj (by decide)]; exact hnow
  · rw [e5]
    by_cases e : k = nS
    · subst e; rw [updA]; decide
    · rw [updJ e]; exact h5 k (by omega)
  · unfold Pot rI at hpot ⊢
    rw [e5]
    show sI (fun k => (upd (g 5) nS 0 k).toInt) nS + (upd (g 5) nS 0 nS).toInt + sI (tQ t) 0 ≤ sI cl 0
    rw [updA, sI_congr (f := fun k => (upd (g 5) nS 0 k).toInt) (h := fun k => (g 5 k).toInt) nS (fun i hi => by rw [updJ (by omega)])]
    rw [i_0]
    omega
theorem m_sh_n {g : Nat → Nat → Int32} {j r : Nat} (h6 : r ≠ 6) (h7 : r ≠ 7) : ∀ n : Nat, m_sh g j n r = g r
  | 0 => rfl
  | n + 1 => by rw [m_sh, up2_n h7, up2_n h6]; exact m_sh_n h6 h7 n
theorem LI.end {t g : Nat → Nat → Int32} {nT nS nW n : Nat} {cl : Nat → Int} (h : LI t g nT nS nW n cl) (j q : Nat) : LI t (up2 (m_sh g j q) 8 3 (nI (nW - 1))) nT nS (nW - 1) n cl := by
  have hok := h.1
  have hg := h.2.1
  obtain ⟨k1, k2, k3, k4, k5, k6, k7, k8⟩ := hok
  have e := fun r (h6 : r ≠ 6) (h7 : r ≠ 7) (h8 : r ≠ 8) => (show (up2 (m_sh g j q) 8 3 (nI (nW - 1))) r = g r from (up2_n h8).trans (m_sh_n h6 h7 q))
  refine h.rows ⟨?_, k2, ?_, k4, up_at, by omega, ?_, k8⟩ (hg.of (e 0 (by decide) (by decide) (by decide)) (e 1 (by decide) (by decide) (by decide)) (e 3 (by decide) (by decide) (by decide)) (e 4 (by decide) (by decide) (by decide))) (e 3 (by decide) (by decide) (by decide)) (e 5 (by decide) (by decide) (by decide)) ?_
  · rw [up_nj (by decide), m_sh8]; exact k1
  · rw [up_nj (by decide), m_sh8]; exact k3
  · rw [e 2 (by decide) (by decide) (by decide)]; exact k7
  · rw [up_nj (by decide), m_sh8]
theorem LI.works {t g : Nat → Nat → Int32} {nT nS nW n : Nat} {cl : Nat → Int} (h : LI t g nT nS nW n cl) (hW : nW < 3) (a b : Int32) : LI t (up2 (up2 (up2 g 6 nW a) 7 nW b) 8 3 (nI (nW + 1))) nT nS (nW + 1) n cl := by
  have hok := h.1
  have hg := h.2.1
  obtain ⟨k1, k2, k3, k4, k5, k6, k7, k8⟩ := hok
  refine h.rows ⟨?_, k2, ?_, k4, up_at, hW, k7, k8⟩ (hg.of rfl rfl rfl rfl) rfl rfl ?_
  · rw [up_nj (by decide)]; exact k1
  · rw [up_nj (by decide)]; exact k3
  · rw [up_nj (by decide)]; rfl
/-- as works begin, nobody is on any of their sections -/
theorem on_fe (t : Nat → Nat → Int32) {f e : Nat} (hf : f < 20) (he : e < 20) : ∀ n : Nat, ∃ c : Nat, c ≤ n ∧ m_on t (nI f) (nI e) n = nI c ∧ (c = 0 → ∀ i, i < n → t i 9 = 0 → ¬ (f ≤ secN (t i 4) ∧ secN (m_rear (t i)) ≤ e))
  | 0 => ⟨0, Nat.le_refl _, rfl, fun _ i hi => absurd hi (Nat.not_lt_zero _)⟩
  | n + 1 => by
    obtain ⟨c, hc, e1, e2⟩ := on_fe t hf he n
    obtain ⟨s4, l4⟩ := sec_N (t n 4)
    obtain ⟨s1, l1⟩ := sec_N (m_rear (t n))
    by_cases c9 : t n 9 = 0
    · by_cases ci : m_isOn (t n) (nI f) (nI e) = 0
      · refine ⟨c, by omega, by rw [m_on, e1, if_pos c9, if_pos ci, Int32.add_zero], fun h0 i hi h9 => ?_⟩
        by_cases ee : i = n
        · subst ee
          rintro ⟨q1, q2⟩
          unfold m_isOn at ci
          rw [s4, s1, if_neg (fun z => by have := nI_lt' z (by omega) (by omega); omega), if_neg (fun z => by have := nI_lt' z (by omega) (by omega); omega)] at ci
          exact absurd ci (by decide)
        · exact e2 h0 i (by omega) h9
      · exact ⟨c + 1, by omega, by rw [m_on, e1, if_pos c9, if_neg ci, nI_succ], fun h0 => absurd h0 (Nat.succ_ne_zero _)⟩
    · refine ⟨c, by omega, by rw [m_on, e1, if_neg c9, Int32.add_zero], fun h0 i hi h9 => ?_⟩
      by_cases ee : i = n
      · subst ee; exact absurd h9 c9
      · exact e2 h0 i (by omega) h9
theorem works_no {t : Nat → Nat → Int32} {f e nT : Nat} (hT : nT ≤ 4) (hf : f < 20) (he : e < 20) (h : m_hind t (nI f) (nI e) nT = 0) : ∀ k, f ≤ k → k ≤ e → m_on t (nI k) (nI k) nT = 0 := by
  obtain ⟨c, hc, e1, e2⟩ := on_fe t hf he nT
  intro k hk1 hk2
  have c0 : c = 0 := by
    refine Classical.byContradiction (fun hne => ?_)
    unfold m_hind at h
    rw [e1, if_pos (i_lt.mpr (by rw [i_0, i_nI (by omega)]; omega))] at h
    exact absurd h (by decide)
  rw [on_n t (by omega) nT]
  have z : sN (fun i => onN (t i) k) nT = sN (fun _ => 0) nT := sN_congr nT (fun i hi => by
    unfold onN
    by_cases c9 : t i 9 = 0
    · rw [if_pos c9, if_neg (fun q => e2 c0 i hi c9 ⟨by omega, by omega⟩)]
    · rw [if_neg c9])
  rw [z, sN_0]
  rfl
theorem h3_or (t : Nat → Nat → Int32) (m : Int32) : ∀ n : Nat, m_h3 t m n = 0 ∨ m_h3 t m n = -3
  | 0 => Or.inl rfl
  | n + 1 => by
    rw [m_h3]
    by_cases c : m_h3 t m n = 0
    · rw [if_pos c]
      by_cases d : t n 9 = 0 ∧ t n 4 < m ∧ m ≤ t n 6
      · rw [if_pos d]; exact Or.inr rfl
      · rw [if_neg d]; exact Or.inl rfl
    · rw [if_neg c]; exact Or.inr rfl
theorem hind_or (t : Nat → Nat → Int32) (f e : Int32) (n : Nat) : m_hind t f e n = 0 ∨ m_hind t f e n = -2 ∨ m_hind t f e n = -3 := by
  unfold m_hind
  by_cases c : 0 < m_on t f e n
  · rw [if_pos c]; exact Or.inr (Or.inl rfl)
  · rw [if_neg c]
    rcases h3_or t (m_first f) n with h | h
    · exact Or.inl h
    · exact Or.inr (Or.inr h)
/-! isSecond -/
theorem sec_min {x : Int32} (h : 0 ≤ x.toInt ∧ x.toInt ≤ 4000) : m_min 19 (x / 150) = nI (secN x) := by
  obtain ⟨j, hj, rfl⟩ := nI_of (x := x) (fun z => absurd (i_lt.mp z) (by rw [i_0]; omega))
  rw [i_nI hj] at h
  have e : nI j / 150 = nI (j / 150) := pk_div (d := 150) hj (by decide) (by decide)
  have s := sec_i (x := nI j) (by rw [i_nI hj]; omega)
  rw [i_nI hj] at s
  unfold m_min
  rw [e]
  by_cases c : nI (j / 150) < 19
  · rw [if_pos c]
    have c' : j / 150 < 19 := nI_lt' (b := 19) c (by omega) (by decide)
    congr 1
    rcases s with ⟨p, q⟩ | ⟨p, q⟩ <;> omega
  · rw [if_neg c]
    have c' : 19 ≤ j / 150 := nI_nlt' (b := 19) c (by omega) (by decide)
    show nI 19 = nI (secN (nI j))
    congr 1
    rcases s with ⟨p, q⟩ | ⟨p, q⟩ <;> omega
theorem hear_q {t g : Nat → Nat → Int32} {nT nW i : Nat} (h9 : b01 (t i 9)) : (q_sec t g nT nW (secN (t i 4)) 2 = 1 ∧ ¬ stt (t i) = 1) ↔ Hear g (t i) := by
  have e : q_sec t g nT nW (secN (t i 4)) 2 = (if g 2 (secN (t i 4)) = 0 then 0 else 1) := rfl
  rw [e, stt_1 h9]
  unfold Hear m_radio
  by_cases c : g 2 (secN (t i 4)) = 0
  · rw [if_pos c]; exact ⟨fun h => absurd h.1 (by decide), fun h => absurd c h.2⟩
  · rw [if_neg c]
    rcases h9 with z | z
    · rw [z]; exact ⟨fun _ => ⟨rfl, c⟩, fun _ => ⟨rfl, by decide⟩⟩
    · rw [z]; exact ⟨fun h => absurd rfl h.2, fun h => absurd h.1 (by decide)⟩
/-- how far all heads went -/
def s_by (t u : Nat → Nat → Int32) : Nat → Int32
  | 0 => 0
  | k + 1 => s_by t u k + (u k 4 - t k 4)
theorem gone_i {t u : Nat → Nat → Int32} : ∀ n : Nat, (∀ i, i < n → u i 0 = t i 0) → m_tot u 9 n = m_tot t 9 n + s_by t u n
  | 0, _ => rfl
  | n + 1, h => by
    have e : ∀ (τ : Nat → Nat → Int32), m_tot τ 9 (n + 1) = m_tot τ 9 n + m_gone (τ n) := fun _ => rfl
    rw [e, e, s_by, gone_i n (fun i hi => h i (by omega))]
    have q : m_gone (u n) = m_gone (t n) + (u n 4 - t n 4) := by
      unfold m_gone
      rw [h n (Nat.lt_succ_self n)]
      refine Int32.toBitVec_inj.mp ?_
      simp only [Int32.toBitVec_add, Int32.toBitVec_sub]
      generalize (u n 4).toBitVec = x
      generalize (t n 4).toBitVec = y
      generalize ((t n 0).toBitVec - (1 : Int32).toBitVec) = z
      rw [BitVec.sub_eq_add_neg, BitVec.sub_eq_add_neg, BitVec.sub_eq_add_neg]
      ac_nf
      rw [← BitVec.add_assoc y, BitVec.add_right_neg]
      simp
    rw [q]
    ac_rfl
