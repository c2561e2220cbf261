/-! What every second keeps: the counts, the booleans. -/
def Ok (t g : Nat → Nat → Int32) (nT nS nW : Nat) : Prop := g 8 0 = nI nT ∧ nT ≤ 4 ∧ g 8 2 = nI nS ∧ nS ≤ 4 ∧ g 8 3 = nI nW ∧ nW ≤ 3 ∧ (∀ c, c < 20 → b01 (g 2 c)) ∧ BT t
theorem BT.up {t : Nat → Nat → Int32} (h : BT t) {i j : Nat} {v : Int32} (hv : (j ≠ 3 ∧ j ≠ 9 ∧ j ≠ 10) ∨ b01 v) : BT (up2 t i j v) := by
  intro x hx
  have h0 := h x hx
  by_cases e : x = i
  · subst e
    rw [up2_s]
    unfold upd
    rcases hv with hv | hv
    · rw [if_neg (Ne.symm hv.1), if_neg (Ne.symm hv.2.1), if_neg (Ne.symm hv.2.2)]; exact h0
    · refine ⟨?_, ?_, ?_⟩
      · by_cases c : 3 = j
        · rw [if_pos c]; exact hv
        · rw [if_neg c]; exact h0.1
      · by_cases c : 9 = j
        · rw [if_pos c]; exact hv
        · rw [if_neg c]; exact h0.2.1
      · by_cases c : 10 = j
        · rw [if_pos c]; exact hv
        · rw [if_neg c]; exact h0.2.2
  · rw [up2_n e]; exact h0
theorem b01_0 : b01 0 := Or.inl rfl
theorem b01_1 : b01 1 := Or.inr rfl
theorem BT.report {t : Nat → Nat → Int32} (h : BT t) (i : Nat) (now : Int32) : BT (m_report t i now) := by
  unfold m_report
  by_cases c : t i 3 = 0
  · rw [if_pos c]; exact (h.up (Or.inl (by decide))).up (Or.inl (by decide))
  · rw [if_neg c]; exact ((h.up (Or.inl (by decide))).up (Or.inl (by decide))).up (Or.inl (by decide))
theorem BT.repAll {g t : Nat → Nat → Int32} {s : Int32} (h : BT t) : ∀ k : Nat, BT (m_repAll g s t k)
  | 0 => h
  | k + 1 => by
    have ih := BT.repAll (g := g) (s := s) h k
    rw [m_repAll]
    by_cases c1 : m_repAll g s t k k 9 = 0
    · rw [if_pos c1]
      by_cases c2 : nI k = s
      · rw [if_pos c2]; exact ih
      · rw [if_neg c2]
        by_cases c3 : m_radio g (m_repAll g s t k k) = 0
        · rw [if_pos c3]; exact ih
        · rw [if_neg c3]; exact ih.report _ _
    · rw [if_neg c1]; exact ih
theorem BT.authAll {g t : Nat → Nat → Int32} {nW : Nat} (h : BT t) : ∀ k : Nat, BT (m_authAll g nW t k)
  | 0 => h
  | k + 1 => by
    have ih := BT.authAll (g := g) (nW := nW) h k
    rw [m_authAll]
    by_cases c1 : m_authAll g nW t k k 9 = 0
    · rw [if_pos c1]
      by_cases c3 : m_radio g (m_authAll g nW t k k) = 0
      · rw [if_pos c3]; exact ih
      · rw [if_neg c3]; exact ih.up (Or.inl (by decide))
    · rw [if_neg c1]; exact ih
theorem BT.stopAt {t g : Nat → Nat → Int32} (h : BT t) (i nS : Nat) : BT (m_stopAt t g i nS).1 := by
  unfold m_stopAt
  cases nxO (g 3) (t i 8) nS with
  | none => exact h
  | some j =>
    dsimp only
    by_cases c1 : t i 5 = 0
    · by_cases c2 : g 3 j = t i 4
      · rw [if_pos c1, if_pos c2]; exact (h.up (Or.inl (by decide))).up (Or.inl (by decide))
      · rw [if_pos c1, if_neg c2]; exact h
    · rw [if_neg c1]; exact h
theorem BT.miss {t g : Nat → Nat → Int32} (h : BT t) (i nS : Nat) : BT (m_miss t g i nS) := (h.up (Or.inl (by decide))).up (Or.inl (by decide))
theorem BT.go1 {t g : Nat → Nat → Int32} (h : BT t) (i nS : Nat) : BT (m_go1 t g i nS) := by
  unfold m_go1
  by_cases c1 : m_allow g (t i) nS ≤ t i 5
  · rw [if_pos c1]
    by_cases c2 : t i 5 ≤ m_allow g (t i) nS
    · rw [if_pos c2]; exact h
    · rw [if_neg c2]; exact (h.up (Or.inl (by decide))).up (Or.inl (by decide))
  · rw [if_neg c1]; exact h.up (Or.inl (by decide))
theorem BT.go {t g : Nat → Nat → Int32} (h : BT t) (i nS : Nat) : BT (m_go t g i nS).1 := by
  unfold m_go
  by_cases c : 0 < t i 7
  · rw [if_pos c]; exact h.up (Or.inl (by decide))
  · rw [if_neg c]
    exact BT.miss (BT.stopAt ((BT.go1 h i nS).up (Or.inl (by decide))) i nS) i nS
theorem BT.goAll {t g : Nat → Nat → Int32} {s : Int32} {nS : Nat} (h : BT t) : ∀ k : Nat, BT (m_goAll s nS t g k).1
  | 0 => h
  | k + 1 => by
    have ih := BT.goAll (g := g) (s := s) (nS := nS) h k
    rw [m_goAll]
    by_cases c1 : (m_goAll s nS t g k).1 k 9 = 0
    · rw [if_pos c1]
      by_cases c2 : (m_goAll s nS t g k).1 k 10 = 0
      · rw [if_pos c2]
        by_cases c3 : nI k = s
        · rw [if_pos c3]; exact ih
        · rw [if_neg c3]; exact ih.go _ _
      · rw [if_neg c2]; exact ih
    · rw [if_neg c1]; exact ih
theorem BT.crash {t : Nat → Nat → Int32} (h : BT t) (i : Nat) : BT (m_crash t i) := (h.up (Or.inr b01_1)).up (Or.inl (by decide))
theorem BT.look1 {t : Nat → Nat → Int32} (h : BT t) (i : Nat) : BT (m_look1 t i) := by
  unfold m_look1
  by_cases c : t i 4 ≤ t i 6
  · rw [if_pos c]; exact h
  · rw [if_neg c]; exact h.up (Or.inl (by decide))
theorem BT.look {t : Nat → Nat → Int32} (h : BT t) (i : Nat) : BT (m_look t i) := by
  have h1 := h.look1 i
  unfold m_look
  cases m_ahead (m_look1 t i) i with
  | none => exact h1
  | some j =>
    dsimp only
    by_cases c : 0 ≤ m_rear (m_look1 t i j) - m_look1 t i i 4 - 1
    · rw [if_pos c]; exact h1.up (Or.inl (by decide))
    · rw [if_neg c]; exact ((h1.up (Or.inl (by decide))).crash i).crash j
theorem BT.lookAll {t : Nat → Nat → Int32} (h : BT t) : ∀ k : Nat, BT (m_lookAll t k)
  | 0 => h
  | k + 1 => by
    have ih := BT.lookAll h k
    rw [m_lookAll]
    by_cases c1 : m_lookAll t k k 9 = 0
    · rw [if_pos c1]; exact ih.look _
    · rw [if_neg c1]; exact ih
theorem BT.leave {t : Nat → Nat → Int32} (h : BT t) : ∀ k : Nat, BT (m_leave t k).1
  | 0 => h
  | k + 1 => by
    have ih := BT.leave h k
    rw [m_leave]
    by_cases c1 : (m_leave t k).1 k 9 = 0
    · rw [if_pos c1]
      by_cases c2 : m_rear ((m_leave t k).1 k) ≤ 2999
      · rw [if_pos c2]; exact ih
      · rw [if_neg c2]; exact (ih.up (Or.inr b01_1)).up (Or.inl (by decide))
    · rw [if_neg c1]; exact ih
theorem Ok.goOn {t g : Nat → Nat → Int32} {nT nS nW : Nat} (h : Ok t g nT nS nW) (s : Int32) : Ok (m_goOn s nT nS nW t g).1 (m_goOn s nT nS nW t g).2 nT nS nW := by
  obtain ⟨h1, h2, h3, h4, h5, h6, h7, h8⟩ := h
  have e8 : (m_goOn s nT nS nW t g).2 8 = m_tick g 8 := m_goAll_g _ _ _ _ (by decide) _
  have e2 : (m_goOn s nT nS nW t g).2 2 = m_tick g 2 := m_goAll_g _ _ _ _ (by decide) _
  refine ⟨by rw [e8]; exact h1, h2, by rw [e8]; exact h3, h4, by rw [e8]; exact h5, h6, by rw [e2]; exact h7, ?_⟩
  exact BT.leave (BT.lookAll (BT.goAll (BT.authAll (BT.repAll h8 _) _) _) _) _
/-- n seconds -/
def m_it (s : Int32) (nT nS nW : Nat) (t g : Nat → Nat → Int32) : Nat → LnS
  | 0 => (t, g)
  | n + 1 => m_goOn s nT nS nW (m_it s nT nS nW t g n).1 (m_it s nT nS nW t g n).2
theorem Ok.it {t g : Nat → Nat → Int32} {nT nS nW : Nat} (h : Ok t g nT nS nW) (s : Int32) : ∀ n : Nat, Ok (m_it s nT nS nW t g n).1 (m_it s nT nS nW t g n).2 nT nS nW
  | 0 => h
  | n + 1 => (Ok.it h s n).goOn s
/-- the whole of an object: itself, its line, its trial -/
def WB (cI cZ cT : ClassId) (c : Nat) (a b : Nat → Nat) (t g t2 g2 : Nat → Nat → Int32) : va_W := (c, .inr (3, [.ref (a 4), .ref (b 4)])) :: (Wl cI cZ cT a t g ++ Wl cI cZ cT b t2 g2)
section
variable {cI cZ cT : ClassId} {c : Nat} {a b : Nat → Nat} {t g t2 g2 : Nat → Nat → Int32} {v : Int32} {k i j : Nat}
theorem WB_a : [(c, .inr (3, [.ref (a 4), .ref (b 4)]))] ++ (Wl cI cZ cT a t g ++ Wl cI cZ cT b t2 g2) = WB cI cZ cT c a b t g t2 g2 := rfl
theorem WB_b : ((c, .inr (3, [.ref (a 4), .ref (b 4)])) :: Wl cI cZ cT a t g) ++ (Wl cI cZ cT b t2 g2 ++ []) = WB cI cZ cT c a b t g t2 g2 := by simp [WB]
theorem WB_ab : [(c, .inr (3, [.ref (a 4), .ref (b 4)]))] ++ ((Wl cI cZ cT a t g ++ Wl cI cZ cT b t2 g2) ++ []) = WB cI cZ cT c a b t g t2 g2 := by simp [WB]
theorem WB_ta (h : i < 4) : (WB cI cZ cT c a b t g t2 g2)[1 + i]? = some (a i, .inr (2, trF (t i))) := by
  match i, h with
  | 0, _ => rfl
  | 1, _ => rfl
  | 2, _ => rfl
  | 3, _ => rfl
theorem WB_tb (h : i < 4) : (WB cI cZ cT c a b t g t2 g2)[16 + i]? = some (b i, .inr (2, trF (t2 i))) := by
  match i, h with
  | 0, _ => rfl
  | 1, _ => rfl
  | 2, _ => rfl
  | 3, _ => rfl
theorem WB_seta (h : i < 4) (hj : j < 18) : (WB cI cZ cT c a b t g t2 g2).set (1 + i) (a i, .inr (2, (trF (t i)).set j (.int v))) = WB cI cZ cT c a b (up2 t i j v) g t2 g2 := by
  rw [trF_set hj, ← up2_s]
  match i, h with
  | 0, _ => rfl
  | 1, _ => rfl
  | 2, _ => rfl
  | 3, _ => rfl
theorem WB_setb (h : i < 4) (hj : j < 18) : (WB cI cZ cT c a b t g t2 g2).set (16 + i) (b i, .inr (2, (trF (t2 i)).set j (.int v))) = WB cI cZ cT c a b t g (up2 t2 i j v) g2 := by
  rw [trF_set hj, ← up2_s]
  match i, h with
  | 0, _ => rfl
  | 1, _ => rfl
  | 2, _ => rfl
  | 3, _ => rfl
theorem WB_r0 : (WB cI cZ cT c a b t g t2 g2).set 7 (a 6, .inl (cI, 20, .inl (upd (g 0) k v))) = WB cI cZ cT c a b t (up2 g 0 k v) t2 g2 := rfl
theorem WB_r1 : (WB cI cZ cT c a b t g t2 g2).set 8 (a 7, .inl (cI, 20, .inl (upd (g 1) k v))) = WB cI cZ cT c a b t (up2 g 1 k v) t2 g2 := rfl
theorem WB_r2 : (WB cI cZ cT c a b t g t2 g2).set 9 (a 8, .inl (cZ, 20, .inl (upd (g 2) k v))) = WB cI cZ cT c a b t (up2 g 2 k v) t2 g2 := rfl
end
/-! The answers of the class, as functions of its line. -/
def m_hw (g : Nat → Nat → Int32) (s : Int32) : Nat → Int32
  | 0 => 0
  | k + 1 => if m_in s (g 6 k) (g 7 k) = 0 then m_hw g s k else 1
theorem m_hw_eq {g : Nat → Nat → Int32} {s r : Int32} : ∀ {n : Nat}, ((r = 1 ∧ ∃ k, k < n ∧ ¬ m_in s (g 6 k) (g 7 k) = 0) ∨ (r = 0 ∧ ∀ k, k < n → m_in s (g 6 k) (g 7 k) = 0)) → r = m_hw g s n
  | 0, h => by
    rcases h with ⟨_, k, hk, _⟩ | h
    · exact absurd hk (Nat.not_lt_zero _)
    · exact h.1
  | n + 1, h => by
    rw [m_hw]
    by_cases c : m_in s (g 6 n) (g 7 n) = 0
    · rw [if_pos c]
      refine m_hw_eq ?_
      rcases h with ⟨e, k, hk, hn⟩ | h
      · refine Or.inl ⟨e, k, ?_, hn⟩
        rcases Nat.lt_succ_iff_lt_or_eq.mp hk with q | q
        · exact q
        · subst q; exact absurd c hn
      · exact Or.inr ⟨h.1, fun k hk => h.2 k (Nat.lt_succ_of_lt hk)⟩
    · rw [if_neg c]
      rcases h with h | h
      · exact h.1
      · exact absurd (h.2 n (Nat.lt_succ_self n)) c
def q_sec (t g : Nat → Nat → Int32) (nT nW k : Nat) (w : Int32) : Int32 := if w = 0 then g 0 k else if w = 1 then g 1 k else if w = 2 then (if g 2 k = 0 then 0 else 1) else if w = 3 then m_on t (nI k) (nI k) nT else if m_hw g (nI k) nW = 0 then 0 else 1
def q_trn (t g : Nat → Nat → Int32) (nS i : Nat) (w : Int32) : Int32 := if w = 6 then nxI (nxO (g 3) (t i 8) nS) else if w = 15 then nxI (m_ahead t i) else if 8 ≤ w then m_kept (t i) w else m_now (t i) w
def q_stp (t g : Nat → Nat → Int32) (i : Nat) (v : Int32) : Int32 := m_stop v (m_hold (g 1) (t i))
def q_may (t g : Nat → Nat → Int32) (nS i : Nat) : Int32 := if t i 9 = 0 then m_allow g (t i) nS else 0
def q_why (t g : Nat → Nat → Int32) (nW i : Nat) : Int32 := if t i 9 = 0 then m_why g t i nW else (-1)
def q_stn (g : Nat → Nat → Int32) (k : Nat) (w : Int32) : Int32 := if w = 0 then g 3 k else if w = 1 then g 4 k else g 5 k
def q_many (t g : Nat → Nat → Int32) (nT : Nat) (w : Int32) : Int32 := if w = 0 then g 8 1 else if w = 1 then g 8 0 else if w = 2 then g 8 0 - m_present t nT else if w = 3 then m_crashed t nT else if w = 4 then g 8 2 else if w = 5 then g 8 3 else m_tot t w nT
def q_mean (t : Nat → Nat → Int32) (nT : Nat) : UInt64 := if m_present t nT = 0 then FP.dconst0 else FP.ddiv (FP.i2d (m_speeds t nT)) (FP.i2d (m_present t nT))
def q_rs (t g : Nat → Nat → Int32) (nT nS nW i : Nat) (m : Int32) : Nat → Nat → Int32
  | 0, _ => -1
  | f + 1, k => if (m_it (-1) nT nS nW t g k).1 i 4 < m then q_rs t g nT nS nW i m f (k + 1) else nI k
def q_reach (t g : Nat → Nat → Int32) (nT nS nW i : Nat) (m : Int32) (n : Nat) : Int32 := if t i 4 < m then q_rs t g nT nS nW i m n 1 else 0
def q_close (t g : Nat → Nat → Int32) (nT nS nW i n : Nat) : Int32 := match m_ahead t i with
  | none => -1
  | some j => if t i 9 = 0 then m_gap ((m_it (nI j) nT nS nW (up2 t i 17 1000000) g n).1 i) else (-1)
def q_ws (t g : Nat → Nat → Int32) (nT nS nW : Nat) (f l : Int32) : Nat → Nat → Int32
  | 0, k => if m_hind (m_it (-1) nT nS nW t g k).1 f l nT = 0 then nI k else (-1)
  | d + 1, k => if m_hind (m_it (-1) nT nS nW t g k).1 f l nT = 0 then nI k else q_ws t g nT nS nW f l d (k + 1)
def foldN (f : Nat → Int64 → Int64) : Nat → Int64 → Int64
  | 0, d => d
  | n + 1, d => f n (foldN f n d)
def dg (v : Int32) (d : Int64) : Int64 := d * 31 + v.toInt64
def q_d1 (t g : Nat → Nat → Int32) (nT k : Nat) : Int64 := foldN (fun w d => dg (q_many t g nT (nI w)) d) k 4810
def q_d2 (t g : Nat → Nat → Int32) (nT nW k : Nat) : Int64 := foldN (fun s d => foldN (fun w d => dg (q_sec t g nT nW s (nI w)) d) 5 d) k (q_d1 t g nT 10)
def q_dT (t g : Nat → Nat → Int32) (nT nS nW i : Nat) (d : Int64) : Int64 := dg (q_close t g nT nS nW i 30) (dg (q_reach t g nT nS nW i 2000 90) (dg (q_why t g nW i) (dg (q_may t g nS i) (dg (q_stp t g i 20) (foldN (fun w d => dg (q_trn t g nS i (nI w)) d) 16 d)))))
def q_d3 (t g : Nat → Nat → Int32) (nT nS nW k : Nat) : Int64 := foldN (fun i d => q_dT t g nT nS nW i d) k (q_d2 t g nT nW 20)
def q_d4 (t g : Nat → Nat → Int32) (nT nS nW k : Nat) : Int64 := foldN (fun s d => foldN (fun w d => dg (q_stn g s (nI w)) d) 3 d) k (q_d3 t g nT nS nW nT)
def q_dig (t g : Nat → Nat → Int32) (nT nS nW : Nat) : Int64 := dg (q_ws t g nT nS nW (nI 5) (nI 6) 60 0) (q_d4 t g nT nS nW nS)
/-- how many left in n seconds -/
def m_outs (t g : Nat → Nat → Int32) (nT nS nW : Nat) : Nat → Int32
  | 0 => 0
  | n + 1 => m_outs t g nT nS nW n + m_goOnR (-1) nT nS nW (m_it (-1) nT nS nW t g n).1 (m_it (-1) nT nS nW t g n).2
theorem m_inN {k a b : Nat} (ha : a ≤ k) (hb : k ≤ b) (h : b < 2 ^ 31) : m_in (nI k) (nI a) (nI b) = 1 := by
  rw [m_in, if_neg (nI_nlt ha (by omega)), if_neg (nI_nlt hb h)]
theorem nI_012 {w : Nat} (h : w < 3) : nI w = 0 ∨ nI w = 1 ∨ nI w = 2 := by
  match w, h with
  | 0, _ => exact Or.inl rfl
  | 1, _ => exact Or.inr (Or.inl rfl)
  | 2, _ => exact Or.inr (Or.inr rfl)
theorem kvl {x y : Int64} (h : x = y) : some (Value.long x) = some (Value.long y) := congrArg (fun z => some (Value.long z)) h
theorem foldN_0 (f : Nat → Int64 → Int64) (d : Int64) : foldN f 0 d = d := rfl
theorem foldN_s (f : Nat → Int64 → Int64) (n : Nat) (d : Int64) : foldN f (n + 1) d = f n (foldN f n d) := rfl
theorem q_d1_0 (t g : Nat → Nat → Int32) (nT : Nat) : q_d1 t g nT 0 = 4810 := rfl
theorem q_d1_s (t g : Nat → Nat → Int32) (nT k : Nat) : q_d1 t g nT (k + 1) = dg (q_many t g nT (nI k)) (q_d1 t g nT k) := rfl
theorem q_d2_0 (t g : Nat → Nat → Int32) (nT nW : Nat) : q_d2 t g nT nW 0 = q_d1 t g nT 10 := by rw [q_d2, foldN_0]
theorem q_d2_s (t g : Nat → Nat → Int32) (nT nW k : Nat) : q_d2 t g nT nW (k + 1) = foldN (fun w d => dg (q_sec t g nT nW k (nI w)) d) 5 (q_d2 t g nT nW k) := by rw [q_d2, foldN_s, q_d2]
theorem q_d3_0 (t g : Nat → Nat → Int32) (nT nS nW : Nat) : q_d3 t g nT nS nW 0 = q_d2 t g nT nW 20 := by rw [q_d3, foldN_0]
theorem q_d3_s (t g : Nat → Nat → Int32) (nT nS nW k : Nat) : q_d3 t g nT nS nW (k + 1) = q_dT t g nT nS nW k (q_d3 t g nT nS nW k) := by rw [q_d3, foldN_s, q_d3]
theorem q_d4_0 (t g : Nat → Nat → Int32) (nT nS nW : Nat) : q_d4 t g nT nS nW 0 = q_d3 t g nT nS nW nT := by rw [q_d4, foldN_0]
theorem q_d4_s (t g : Nat → Nat → Int32) (nT nS nW k : Nat) : q_d4 t g nT nS nW (k + 1) = foldN (fun w d => dg (q_stn g k (nI w)) d) 3 (q_d4 t g nT nS nW k) := by rw [q_d4, foldN_s, q_d4]
