/-! What the law's own lines need. -/
theorem lg_self (x : Int64) : lg_cmp x x = 0 := by
  unfold lg_cmp
  rw [if_neg (by simp), if_pos rfl]
theorem lim_in {u : Nat} (h : u < 36) : m_in (5 + nI u) 1 40 = 1 ∧ 1 ≤ (5 + nI u).toInt ∧ (5 + nI u).toInt ≤ 40 := by
  rw [show (5 : Int32) + nI u = nI (5 + u) from nI_add 5 u]
  refine ⟨m_inN (a := 1) (b := 40) (by omega) (by omega) (by decide), ?_⟩
  rw [i_nI (by omega)]
  omega
theorem gr_in {u : Nat} (h : u < 5) : m_in (nI u - 2) (-2) 2 = 1 ∧ -2 ≤ (nI u - 2).toInt ∧ (nI u - 2).toInt ≤ 2 := by
  have : u = 0 ∨ u = 1 ∨ u = 2 ∨ u = 3 ∨ u = 4 := by omega
  rcases this with rfl | rfl | rfl | rfl | rfl <;> decide
theorem brk_in {u : Nat} (h : u < 4) : m_in (1 + nI u) 1 4 = 1 ∧ 1 ≤ (1 + nI u).toInt ∧ (1 + nI u).toInt ≤ 4 := by
  have : u = 0 ∨ u = 1 ∨ u = 2 ∨ u = 3 := by omega
  rcases this with rfl | rfl | rfl | rfl <;> decide
theorem pul_in {u : Nat} (h : u < 3) : m_in (1 + nI u) 1 3 = 1 ∧ 1 ≤ (1 + nI u).toInt ∧ (1 + nI u).toInt ≤ 3 := by
  have : u = 0 ∨ u = 1 ∨ u = 2 := by omega
  rcases this with rfl | rfl | rfl <;> decide
theorem len_in {u : Nat} (h : u < 181) : m_in (nI (20 + u)) 20 200 = 1 ∧ 20 ≤ (nI (20 + u)).toInt ∧ (nI (20 + u)).toInt ≤ 200 := by
  refine ⟨m_inN (a := 20) (b := 200) (by omega) (by omega) (by decide), ?_⟩
  rw [i_nI (by omega)]
  omega
theorem mtr (k u : Nat) : (700 : Int32) * nI k + nI u = nI (700 * k + u) := by
  rw [show (700 : Int32) = nI 700 from rfl, pk_mul, nI_add]
theorem cl_00 : (fun i : Nat => ((fun _ : Nat => (0 : Int32)) i).toInt) = fun _ => (0 : Int) := by
  funext i
  exact i_0
theorem sec_g0 {g : Nat → Nat → Int32} {k j : Nat} {x y z : Int32} : (up2 (up2 (up2 g 0 k x) 1 k y) 2 k z) 0 j = upd (g 0) k x j := by
  rw [up2_n (by decide), up2_n (by decide), up2_s]
theorem sec_40 {g : Nat → Nat → Int32} {k j : Nat} {x y z : Int32} (h : k + 1 ≤ j) (e : g 0 j = 40) : (up2 (up2 (up2 g 0 k x) 1 k y) 2 k z) 0 j = 40 := by
  rw [sec_g0, updJ (by omega)]
  exact e
theorem sec_l {t g : Nat → Nat → Int32} {nT nW k : Nat} {x y z : Int32} : q_sec t (up2 (up2 (up2 g 0 k x) 1 k y) 2 k z) nT nW k 0 = x := by
  show (up2 (up2 (up2 g 0 k x) 1 k y) 2 k z) 0 k = x
  rw [sec_g0, updA]
theorem sta_3 {g : Nat → Nat → Int32} {k j : Nat} {x y z v : Int32} : (up2 (up2 (up2 (up2 g 3 k x) 4 k y) 5 k z) 8 2 v) 3 j = upd (g 3) k x j := by
  rw [up2_n (by decide), up2_n (by decide), up2_n (by decide), up2_s]
theorem sta_hm {g : Nat → Nat → Int32} {k u : Nat} {y z v : Int32} (hk : k < 4) (hu : u < 600) (h : ∀ j, j < k → (g 3 j).toInt < 700 * k) : ∀ j, j < k + 1 → ((up2 (up2 (up2 (up2 g 3 k (nI (700 * k + u))) 4 k y) 5 k z) 8 2 v) 3 j).toInt < ((700 * (k + 1) : Nat) : Int) := by
  intro j hj
  rw [sta_3]
  by_cases e : j = k
  · subst e
    rw [updA, i_nI (by omega)]
    omega
  · rw [updJ e]
    have := h j (by omega)
    omega
theorem sta_new {g : Nat → Nat → Int32} {k u : Nat} (hk : k < 4) (hu : u < 600) (h : ∀ j, j < k → (g 3 j).toInt < 700 * k) : ∀ j, j < k → ¬ g 3 j = nI (700 * k + u) := by
  intro j hj e
  have := h j hj
  rw [e, i_nI (by omega)] at this
  omega
theorem cellx {k : Nat} (h : k < 60) : (13 : Int32) + (nI k - nI k / 17 * 17) = nI (13 + k % 17) := by
  rw [show nI k - nI k / 17 * 17 = nI (k % 17) from pk_rem (d := 17) (by omega) (by decide) (by decide), show (13 : Int32) = nI 13 from rfl, nI_add]
theorem min19 {f u : Nat} (hf : f < 20) (hu : u < 3) : ∃ e, e < 20 ∧ f ≤ e ∧ (if nI f + nI u < 19 then nI f + nI u else (19 : Int32)) = nI e := by
  rw [nI_add]
  by_cases c : nI (f + u) < 19
  · rw [if_pos c]
    have := nI_lt' (b := 19) c (by omega) (by decide)
    exact ⟨f + u, by omega, by omega, rfl⟩
  · rw [if_neg c]
    exact ⟨19, by decide, by omega, rfl⟩
theorem nI_n2 {j : Nat} (h : j < 2 ^ 31) : ¬ nI j = -2 := fun e => by
  have := congrArg Int32.toInt e
  rw [nI_toInt h, show (-2 : Int32).toInt = -2 by decide] at this
  omega
theorem nI_n3 {j : Nat} (h : j < 2 ^ 31) : ¬ nI j = -3 := fun e => by
  have := congrArg Int32.toInt e
  rw [nI_toInt h, show (-3 : Int32).toInt = -3 by decide] at this
  omega
theorem upd_upd {f : Nat → Int32} {i : Nat} {x y : Int32} : upd (upd f i x) i y = upd f i y := by
  funext j
  by_cases e : j = i
  · subst e; rw [updA, updA]
  · rw [updJ e, updJ e, updJ e]
/-- a train's calls, counted so far -/
def cA (f : Nat → Int32) (x sp : Int32) (k : Nat) : Nat := if sp = 0 then 0 else cntA f x k
theorem cA_le {f : Nat → Int32} {x sp : Int32} : ∀ k : Nat, cA f x sp k ≤ k := by
  intro k
  unfold cA
  by_cases c : sp = 0
  · rw [if_pos c]; exact Nat.zero_le k
  · rw [if_neg c]
    induction k with
    | zero => exact Nat.le_refl _
    | succ k ih =>
      rw [cntA]
      by_cases d : f k < x
      · rw [if_pos d]; omega
      · rw [if_neg d]; omega
theorem cA_0 {f : Nat → Int32} {x sp : Int32} {cl : Nat → Int32} {i : Nat} (h : cl i = 0) : upd cl i (nI (cA f x sp 0)) = cl := by
  have e : cA f x sp 0 = 0 := by
    unfold cA
    by_cases c : sp = 0
    · rw [if_pos c]
    · rw [if_neg c]; rfl
  rw [e]
  funext j
  by_cases d : j = i
  · subst d; rw [updA, h]; rfl
  · rw [updJ d]
theorem cA_s0 {f : Nat → Int32} {x sp : Int32} {k : Nat} (c : sp = 0) : nI (cA f x sp k) + 0 = nI (cA f x sp (k + 1)) := by
  unfold cA
  rw [if_pos c, if_pos c, Int32.add_zero]
theorem cA_s1 {f : Nat → Int32} {x sp : Int32} {k : Nat} (c : ¬ sp = 0) (d : f k < x) : nI (cA f x sp k) + 0 = nI (cA f x sp (k + 1)) := by
  unfold cA
  rw [if_neg c, if_neg c, cntA, if_pos d, Int32.add_zero]
  rfl
theorem cA_s2 {f : Nat → Int32} {x sp : Int32} {k : Nat} (c : ¬ sp = 0) (d : ¬ f k < x) : nI (cA f x sp k) + 1 = nI (cA f x sp (k + 1)) := by
  unfold cA
  rw [if_neg c, if_neg c, cntA, if_neg d, nI_1]
/-- a train is told -/
theorem add_law {t g : Nat → Nat → Int32} {nT nS nW n : Nat} {cl : Nat → Int32} {len br pu sp : Int32} (h : LI t g nT nS nW n (fun i => (cl i).toInt)) (hn : n < 100000) (hT : nT < 4) (h1 : 20 ≤ len.toInt ∧ len.toInt ≤ 200) (h2 : 1 ≤ br.toInt ∧ br.toInt ≤ 4) (h3 : 1 ≤ pu.toInt ∧ pu.toInt ≤ 3) (h5 : ∀ k, k < nT → t k 9 = 0 → ¬ m_rear (t k) ≤ len) :
    ∃ t' g' : Nat → Nat → Int32, m_add t g nT nS len br pu sp = t' ∧ up2 g 8 0 (nI (nT + 1)) = g' ∧ LI t' g' (nT + 1) nS nW n (fun i => (upd cl nT (nI (cA (g 3) (len - 1) sp nS)) i).toInt) ∧ t' nT 4 = len - 1 ∧ t' nT 6 = len - 1 ∧ t' nT 13 = g' 8 1 ∧ g' 3 = g 3 := by
  have nS4 := h.1.2.2.2.1
  have hcl := h.2.2.2.2.2.2.2.2
  have hle := cA_le (f := g 3) (x := len - 1) (sp := sp) nS
  have hb : bI (if sp = 0 then 0 else m_sf (g 3) (len - 1) nS) ≤ ((cA (g 3) (len - 1) sp nS : Nat) : Int) := by
    unfold cA
    by_cases c : sp = 0
    · rw [if_pos c, if_pos c]; decide +kernel
    · rw [if_neg c, if_neg c, (sf_at (g 3) (len - 1) nS nS4).2.1]; exact Int.le_refl _
  obtain ⟨k1, k2, k3, k4⟩ := h.add (cl' := fun i => (upd cl nT (nI (cA (g 3) (len - 1) sp nS)) i).toInt) (stop := sp) hn hT h1 h2 h3 h5 (fun i hi => by
    show (upd cl nT _ i).toInt = (cl i).toInt
    rw [updJ (Nat.ne_of_lt hi)]) (by
    show _ ≤ (upd cl nT _ nT).toInt
    rw [updA, i_nI (by omega)]
    exact hb) (fun i hi => by
    show 0 ≤ (upd cl nT _ i).toInt ∧ (upd cl nT _ i).toInt ≤ 4
    by_cases e : i = nT
    · rw [e, updA, i_nI (by omega)]; omega
    · rw [updJ e]; exact hcl i hi)
  refine ⟨_, _, rfl, rfl, k1, k2, k3, k4.trans ?_, up2_n (by decide)⟩
  rw [up2_s, updJ (by decide)]
/-- works begin: nobody is there, and they are there -/
theorem wrk_law {t g : Nat → Nat → Int32} {nT nS nW n f e : Nat} {cl : Nat → Int} (h : LI t g nT nS nW n cl) (hW : nW < 3) (hf : f < 20) (he : e < 20) (hh : m_hind t (nI f) (nI e) nT = 0) :
    ∃ G : Nat → Nat → Int32, up2 (up2 (up2 g 6 nW (nI f)) 7 nW (nI e)) 8 3 (nI (nW + 1)) = G ∧ LI t G nT nS (nW + 1) n cl ∧ ∀ k, f ≤ k → k ≤ e → q_sec t G nT (nW + 1) k 3 = 0 ∧ q_sec t G nT (nW + 1) k 4 = 1 := by
  refine ⟨_, rfl, h.works hW (nI f) (nI e), fun k h1 h2 => ⟨works_no h.1.2.1 hf he hh k h1 h2, ?_⟩⟩
  have eq : ∀ G : Nat → Nat → Int32, m_hw G (nI k) (nW + 1) = 1 → q_sec t G nT (nW + 1) k 4 = 1 := fun G hG => by
    unfold q_sec
    rw [if_neg (by decide), if_neg (by decide), if_neg (by decide), if_neg (by decide), hG, if_neg (by decide)]
  refine eq _ ?_
  have e6 : (up2 (up2 (up2 g 6 nW (nI f)) 7 nW (nI e)) 8 3 (nI (nW + 1))) 6 nW = nI f := by rw [up2_n (by decide), up2_n (by decide), up2_s, updA]
  have e7 : (up2 (up2 (up2 g 6 nW (nI f)) 7 nW (nI e)) 8 3 (nI (nW + 1))) 7 nW = nI e := by rw [up2_n (by decide), up2_s, updA]
  rw [m_hw, if_neg]
  rw [e6, e7, m_inN h1 h2 (by omega)]
  decide
theorem rm_ok {kc ks mc ms : Nat} (h1 : kc + mc ≤ 20000) (h2 : ks + ms ≤ 100000) : kc + mc ≤ room_1.cells ∧ ks + ms ≤ room_1.slots := ⟨Nat.le_trans h1 (Nat.le_of_ble_eq_true rfl), Nat.le_trans h2 (Nat.le_of_ble_eq_true rfl)⟩
theorem rm_c {kc : Nat} (h1 : kc ≤ 20000) : kc ≤ room_1.cells := Nat.le_trans h1 (Nat.le_of_ble_eq_true rfl)
theorem rm_s {ks : Nat} (h1 : ks ≤ 100000) : ks ≤ room_1.slots := Nat.le_trans h1 (Nat.le_of_ble_eq_true rfl)
theorem nw_X3 : ∀ j, j < 2 → defaultValue (tyX3 j) = vp_V [.null, .null] j := by
  intro j hj
  match j, hj with
  | 0, _ => rfl
  | 1, _ => rfl
  | k + 2, h => exact absurd h (by omega)
