/-! Two lines side by side, and worlds that hold the same cells. -/
/-- worlds that the same heaps hold -/
def EqW (D : va_G) (cl : List vw_C) (ws ws' : va_W) : Prop := ws.map Prod.fst = ws'.map Prod.fst ∧ ∀ H : Heap, va_P D cl ws H → va_P D cl ws' H
theorem V_eqv {X : VC} {l : Launch} {R : Room} {D : va_G} {cl : List vw_C} {tys : List (ClassId × FieldType)} {A : Nat → Prop} {cc : ByteArray} {nL : Nat} {own : String} {Ts : List Cond} {ret : Option FieldType} {kc ks pc : Nat} {ws ws' : va_W} {lv : List (Nat × Value)} {st : List Value} (hC : Cx X l R D cl tys A cc nL own Ts ret) (h : EqW D cl ws ws') (k : V X kc ks ws' lv pc st) : V X kc ks ws lv pc st := by
  obtain ⟨p, l, e, R, s, m, args, below, meth, c, D, cl, A, Q, nL⟩ := X
  obtain ⟨rfl, rfl, rfl, rfl, rfl, rfl, hF, hK, hA, hr, hlk, hNs⟩ := hC
  intro H locs ls hP hD hS hl
  refine k H locs ls (h.2 H hP) ?_ hS hl
  rw [D_iff] at hD ⊢
  refine ⟨h.1 ▸ hD.1, fun q hq => ?_⟩
  have h1 : q.1 ∈ ws'.map Prod.fst := List.mem_map_of_mem hq
  rw [← h.1] at h1
  obtain ⟨q2, hq2, e2⟩ := List.mem_map.mp h1
  exact e2 ▸ hD.2 q2 hq2
theorem EqW.rf {D : va_G} {cl : List vw_C} {ws : va_W} : EqW D cl ws ws := ⟨rfl, fun _ h => h⟩
theorem EqW.app {D : va_G} {cl : List vw_C} {w1 w2 v1 v2 : va_W} (h1 : EqW D cl w1 v1) (h2 : EqW D cl w2 v2) : EqW D cl (w1 ++ w2) (v1 ++ v2) := by
  refine ⟨by rw [List.map_append, List.map_append, h1.1, h2.1], fun H h => ?_⟩
  rw [P_iff] at h
  have a1 := h1.2 H (P_iff.mpr fun q hq => h q (List.mem_append_left _ hq))
  have a2 := h2.2 H (P_iff.mpr fun q hq => h q (List.mem_append_right _ hq))
  exact a1.app a2
theorem EqW.cons {D : va_G} {cl : List vw_C} {a : Nat} {e e' : va_E} {w v : va_W} (he : ∀ H, va_at D cl (a, e) H → va_at D cl (a, e') H) (h : EqW D cl w v) : EqW D cl ((a, e) :: w) ((a, e') :: v) := by
  refine ⟨by rw [List.map_cons, List.map_cons, h.1], fun H hP => ?_⟩
  rw [P_iff] at hP ⊢
  have a2 := P_iff.mp (h.2 H (P_iff.mpr fun q hq => hP q (List.mem_cons_of_mem _ hq)))
  intro q hq
  rcases List.mem_cons.mp hq with rfl | hq
  · exact he H (hP _ List.mem_cons_self)
  · exact a2 q hq
theorem EqW.nil {D : va_G} {cl : List vw_C} : EqW D cl [] [] := EqW.rf
/-- a row of ints is told by its places alone -/
theorem at_row {D : va_G} {cl : List vw_C} {a n : Nat} {cA : ClassId} {f f' : Nat → Int32} (h : ∀ k, k < n → f k = f' k) (H : Heap) (hP : va_at D cl (a, .inl (cA, n, .inl f)) H) : va_at D cl (a, .inl (cA, n, .inl f')) H := by
  have e : arrV cA n (fun j => .int (f j)) = arrV cA n (fun j => .int (f' j)) := by
    unfold arrV
    congr 1
    apply Array.ext
    · simp
    · intro i h1 h2
      simp only [Array.getElem_ofFn]
      rw [h i (by simpa using h1)]
  show H[a]? = some (arrV cA n (fun j => .int (f' j)))
  rw [← e]; exact hP
theorem trF_ext {τ τ' : Nat → Int32} (h : ∀ j, j < 18 → τ j = τ' j) : trF τ = trF τ' := by
  unfold trF
  rw [h 0 (by decide), h 1 (by decide), h 2 (by decide), h 3 (by decide), h 4 (by decide), h 5 (by decide), h 6 (by decide), h 7 (by decide), h 8 (by decide), h 9 (by decide), h 10 (by decide), h 11 (by decide), h 12 (by decide), h 13 (by decide), h 14 (by decide), h 15 (by decide), h 16 (by decide), h 17 (by decide)]
/-- how many places a row of g has -/
def rowN (r : Nat) : Nat := if r < 3 then 20 else if r < 6 then 4 else if r < 8 then 3 else 4
theorem EqW_l {D : va_G} {cl : List vw_C} {cI cZ cT : ClassId} {a : Nat → Nat} {t t' g g' : Nat → Nat → Int32} (ht : ∀ i, i < 4 → ∀ j, j < 18 → t i j = t' i j) (hg : ∀ r, r < 9 → ∀ c, c < rowN r → g r c = g' r c) : EqW D cl (Wl cI cZ cT a t g) (Wl cI cZ cT a t' g') := by
  unfold Wl
  rw [trF_ext (ht 0 (by decide)), trF_ext (ht 1 (by decide)), trF_ext (ht 2 (by decide)), trF_ext (ht 3 (by decide)), hg 8 (by decide) 0 (by decide), hg 8 (by decide) 1 (by decide), hg 8 (by decide) 2 (by decide), hg 8 (by decide) 3 (by decide)]
  refine EqW.cons (fun _ h => h) (EqW.cons (fun _ h => h) (EqW.cons (fun _ h => h) (EqW.cons (fun _ h => h) (EqW.cons (fun _ h => h) (EqW.cons (fun _ h => h) ?_)))))
  refine EqW.cons (at_row (hg 0 (by decide))) (EqW.cons (at_row (hg 1 (by decide))) (EqW.cons (at_row (hg 2 (by decide))) (EqW.cons (at_row (hg 3 (by decide))) (EqW.cons (at_row (hg 4 (by decide))) (EqW.cons (at_row (hg 5 (by decide))) (EqW.cons (at_row (hg 6 (by decide))) (EqW.cons (at_row (hg 7 (by decide))) EqW.rf)))))))
section
variable {cI cZ cT : ClassId} {a b : Nat → Nat} {t g t2 g2 : Nat → Nat → Int32} {v : Int32} {k i j : Nat}
theorem W2_ta (h : i < 4) : (Wl cI cZ cT a t g ++ Wl cI cZ cT b t2 g2)[i]? = some (a i, .inr (2, trF (t i))) := by
  match i, h with
  | 0, _ => rfl
  | 1, _ => rfl
  | 2, _ => rfl
  | 3, _ => rfl
theorem W2_tb (h : i < 4) : (Wl cI cZ cT a t g ++ Wl cI cZ cT b t2 g2)[15 + i]? = some (b i, .inr (2, trF (t2 i))) := by
  match i, h with
  | 0, _ => rfl
  | 1, _ => rfl
  | 2, _ => rfl
  | 3, _ => rfl
theorem W2_set (h : i < 4) (hj : j < 18) : (Wl cI cZ cT a t g ++ Wl cI cZ cT b t2 g2).set (15 + i) (b i, .inr (2, (trF (t2 i)).set j (.int v))) = Wl cI cZ cT a t g ++ Wl cI cZ cT b (up2 t2 i j v) g2 := by
  rw [trF_set hj, ← up2_s]
  match i, h with
  | 0, _ => rfl
  | 1, _ => rfl
  | 2, _ => rfl
  | 3, _ => rfl
theorem W2_s0 : (Wl cI cZ cT a t g ++ Wl cI cZ cT b t2 g2).set 19 (b 4, .inr (0, ([.ref (b 5), .ref (b 14), .int (g2 8 0), .int (g2 8 1)] : List Value).set 2 (.int v))) = Wl cI cZ cT a t g ++ Wl cI cZ cT b t2 (up2 g2 8 0 v) := rfl
theorem W2_s1 : (Wl cI cZ cT a t g ++ Wl cI cZ cT b t2 g2).set 19 (b 4, .inr (0, ([.ref (b 5), .ref (b 14), .int (g2 8 0), .int (g2 8 1)] : List Value).set 3 (.int v))) = Wl cI cZ cT a t g ++ Wl cI cZ cT b t2 (up2 g2 8 1 v) := rfl
theorem W2_s2 : (Wl cI cZ cT a t g ++ Wl cI cZ cT b t2 g2).set 20 (b 5, .inr (1, ([.ref (b 6), .ref (b 7), .ref (b 8), .ref (b 9), .ref (b 10), .ref (b 11), .int (g2 8 2), .ref (b 12), .ref (b 13), .int (g2 8 3)] : List Value).set 6 (.int v))) = Wl cI cZ cT a t g ++ Wl cI cZ cT b t2 (up2 g2 8 2 v) := rfl
theorem W2_s3 : (Wl cI cZ cT a t g ++ Wl cI cZ cT b t2 g2).set 20 (b 5, .inr (1, ([.ref (b 6), .ref (b 7), .ref (b 8), .ref (b 9), .ref (b 10), .ref (b 11), .int (g2 8 2), .ref (b 12), .ref (b 13), .int (g2 8 3)] : List Value).set 9 (.int v))) = Wl cI cZ cT a t g ++ Wl cI cZ cT b t2 (up2 g2 8 3 v) := rfl
theorem W2_r0 : (Wl cI cZ cT a t g ++ Wl cI cZ cT b t2 g2).set 21 (b 6, .inl (cI, 20, .inl (upd (g2 0) k v))) = Wl cI cZ cT a t g ++ Wl cI cZ cT b t2 (up2 g2 0 k v) := rfl
theorem W2_r1 : (Wl cI cZ cT a t g ++ Wl cI cZ cT b t2 g2).set 22 (b 7, .inl (cI, 20, .inl (upd (g2 1) k v))) = Wl cI cZ cT a t g ++ Wl cI cZ cT b t2 (up2 g2 1 k v) := rfl
theorem W2_r2 : (Wl cI cZ cT a t g ++ Wl cI cZ cT b t2 g2).set 23 (b 8, .inl (cZ, 20, .inl (upd (g2 2) k v))) = Wl cI cZ cT a t g ++ Wl cI cZ cT b t2 (up2 g2 2 k v) := rfl
theorem W2_r3 : (Wl cI cZ cT a t g ++ Wl cI cZ cT b t2 g2).set 24 (b 9, .inl (cI, 4, .inl (upd (g2 3) k v))) = Wl cI cZ cT a t g ++ Wl cI cZ cT b t2 (up2 g2 3 k v) := rfl
theorem W2_r4 : (Wl cI cZ cT a t g ++ Wl cI cZ cT b t2 g2).set 25 (b 10, .inl (cI, 4, .inl (upd (g2 4) k v))) = Wl cI cZ cT a t g ++ Wl cI cZ cT b t2 (up2 g2 4 k v) := rfl
theorem W2_r5 : (Wl cI cZ cT a t g ++ Wl cI cZ cT b t2 g2).set 26 (b 11, .inl (cI, 4, .inl (upd (g2 5) k v))) = Wl cI cZ cT a t g ++ Wl cI cZ cT b t2 (up2 g2 5 k v) := rfl
theorem W2_r6 : (Wl cI cZ cT a t g ++ Wl cI cZ cT b t2 g2).set 27 (b 12, .inl (cI, 3, .inl (upd (g2 6) k v))) = Wl cI cZ cT a t g ++ Wl cI cZ cT b t2 (up2 g2 6 k v) := rfl
theorem W2_r7 : (Wl cI cZ cT a t g ++ Wl cI cZ cT b t2 g2).set 28 (b 13, .inl (cI, 3, .inl (upd (g2 7) k v))) = Wl cI cZ cT a t g ++ Wl cI cZ cT b t2 (up2 g2 7 k v) := rfl
end
def b01 (x : Int32) : Prop := x = 0 ∨ x = 1
theorem nb {x : Int32} (h : b01 x) : narrow .boolean (.int x) = .int x := by rcases h with rfl | rfl <;> rfl
theorem fb {x : Int32} (h : b01 x) : fits .boolean (.int x) = true := by rcases h with rfl | rfl <;> rfl
theorem nbv {x : Int32} (h : b01 x) : vp_nar .boolean x = x := by rcases h with rfl | rfl <;> rfl
/-- the trains' booleans are 0 or 1 -/
def BT (t : Nat → Nat → Int32) : Prop := ∀ i, i < 4 → b01 (t i 3) ∧ b01 (t i 9) ∧ b01 (t i 10)
/-- g2 after k steps of the three copying loops -/
def cpA (g g2 : Nat → Nat → Int32) : Nat → Nat → Nat → Int32
  | 0 => g2
  | k + 1 => up2 (up2 (up2 (cpA g g2 k) 0 k (g 0 k)) 1 k (g 1 k)) 2 k (g 2 k)
def cpB (g g2 : Nat → Nat → Int32) : Nat → Nat → Nat → Int32
  | 0 => g2
  | k + 1 => up2 (up2 (up2 (cpB g g2 k) 3 k (g 3 k)) 4 k (g 4 k)) 5 k (g 5 k)
def cpC (g g2 : Nat → Nat → Int32) : Nat → Nat → Nat → Int32
  | 0 => g2
  | k + 1 => up2 (up2 (cpC g g2 k) 6 k (g 6 k)) 7 k (g 7 k)
theorem cpA_in (g g2 : Nat → Nat → Int32) : ∀ n k r : Nat, k < n → r < 3 → cpA g g2 n r k = g r k
  | 0, _, _, h, _ => absurd h (Nat.not_lt_zero _)
  | n + 1, k, r, h, hr => by
    by_cases e : k = n
    · subst e
      match r, hr with
      | 0, _ => simp [cpA, up2, upd]
      | 1, _ => simp [cpA, up2, upd]
      | 2, _ => simp [cpA, up2, upd]
    · have ih := cpA_in g g2 n k r (by omega) hr
      match r, hr with
      | 0, _ => simpa [cpA, up2, upd, e] using ih
      | 1, _ => simpa [cpA, up2, upd, e] using ih
      | 2, _ => simpa [cpA, up2, upd, e] using ih
theorem cpA_out (g g2 : Nat → Nat → Int32) {r : Nat} (hr : 3 ≤ r) : ∀ n : Nat, cpA g g2 n r = g2 r
  | 0 => rfl
  | n + 1 => by rw [cpA, up2_n (by omega), up2_n (by omega), up2_n (by omega)]; exact cpA_out g g2 hr n
theorem cpB_in (g g2 : Nat → Nat → Int32) : ∀ n k r : Nat, k < n → r < 3 → cpB g g2 n (3 + r) k = g (3 + r) k
  | 0, _, _, h, _ => absurd h (Nat.not_lt_zero _)
  | n + 1, k, r, h, hr => by
    by_cases e : k = n
    · subst e
      match r, hr with
      | 0, _ => simp [cpB, up2, upd]
      | 1, _ => simp [cpB, up2, upd]
      | 2, _ => simp [cpB, up2, upd]
    · have ih := cpB_in g g2 n k r (by omega) hr
      match r, hr with
      | 0, _ => simpa [cpB, up2, upd, e] using ih
      | 1, _ => simpa [cpB, up2, upd, e] using ih
      | 2, _ => simpa [cpB, up2, upd, e] using ih
theorem cpB_out (g g2 : Nat → Nat → Int32) {r : Nat} (hr : r < 3 ∨ 6 ≤ r) : ∀ n : Nat, cpB g g2 n r = g2 r
  | 0 => rfl
  | n + 1 => by rw [cpB, up2_n (by omega), up2_n (by omega), up2_n (by omega)]; exact cpB_out g g2 hr n
theorem cpC_in (g g2 : Nat → Nat → Int32) : ∀ n k r : Nat, k < n → r < 2 → cpC g g2 n (6 + r) k = g (6 + r) k
  | 0, _, _, h, _ => absurd h (Nat.not_lt_zero _)
  | n + 1, k, r, h, hr => by
    by_cases e : k = n
    · subst e
      match r, hr with
      | 0, _ => simp [cpC, up2, upd]
      | 1, _ => simp [cpC, up2, upd]
    · have ih := cpC_in g g2 n k r (by omega) hr
      match r, hr with
      | 0, _ => simpa [cpC, up2, upd, e] using ih
      | 1, _ => simpa [cpC, up2, upd, e] using ih
theorem cpC_out (g g2 : Nat → Nat → Int32) {r : Nat} (hr : r < 6 ∨ 8 ≤ r) : ∀ n : Nat, cpC g g2 n r = g2 r
  | 0 => rfl
  | n + 1 => by rw [cpC, up2_n (by omega), up2_n (by omega)]; exact cpC_out g g2 hr n
/-- what Track.copyFrom leaves: all of g but the line's own numbers -/
def cpT (g g2 : Nat → Nat → Int32) : Nat → Nat → Int32 := up2 (up2 g 8 0 (g2 8 0)) 8 1 (g2 8 1)
theorem cpT_n (g g2 : Nat → Nat → Int32) {r : Nat} (h : r ≠ 8) : cpT g g2 r = g r := by rw [cpT, up2_n h, up2_n h]
theorem cp_all (g g2 : Nat → Nat → Int32) : ∀ r, r < 9 → ∀ c, c < rowN r → up2 (cpC g (up2 (cpB g (cpA g g2 20) 4) 8 2 (g 8 2)) 3) 8 3 (g 8 3) r c = cpT g g2 r c := by
  intro r hr c hc
  by_cases e8 : r = 8
  · subst e8
    have hc4 : c < 4 := hc
    have e0 : ∀ c : Nat, cpC g (up2 (cpB g (cpA g g2 20) 4) 8 2 (g 8 2)) 3 8 c = upd (g2 8) 2 (g 8 2) c := by
      intro c
      rw [cpC_out _ _ (Or.inr (by decide)), up2_s, cpB_out _ _ (Or.inr (by decide)), cpA_out _ _ (by decide)]
    rw [up2_s, cpT, up2_s, up2_s]
    match c, hc4 with
    | 0, _ => simp [upd, e0]
    | 1, _ => simp [upd, e0]
    | 2, _ => simp [upd, e0]
    | 3, _ => simp [upd]
  · rw [up2_n e8, cpT_n _ _ e8]
    by_cases h3 : r < 3
    · have hc2 : c < 20 := by simpa [rowN, h3] using hc
      rw [cpC_out _ _ (Or.inl (by omega)), up2_n e8, cpB_out _ _ (Or.inl h3), cpA_in g g2 20 c r hc2 h3]
    · by_cases h6 : r < 6
      · have hc2 : c < 4 := by simpa [rowN, h3, h6] using hc
        obtain ⟨z, rfl⟩ : ∃ z, r = 3 + z := ⟨r - 3, by omega⟩
        rw [cpC_out _ _ (Or.inl h6), up2_n e8, cpB_in g _ 4 c z hc2 (by omega)]
      · have h8 : r < 8 := by omega
        have hc2 : c < 3 := by simpa [rowN, h3, h6, h8] using hc
        obtain ⟨z, rfl⟩ : ∃ z, r = 6 + z := ⟨r - 6, by omega⟩
        rw [cpC_in g _ 3 c z hc2 (by omega)]
def cpR (t t2 : Nat → Nat → Int32) : Nat → Nat → Nat → Int32
  | 0 => t2
  | k + 1 => fun x => if x = k then t k else cpR t t2 k x
theorem cpR_in (t t2 : Nat → Nat → Int32) : ∀ n i : Nat, i < n → cpR t t2 n i = t i
  | 0, _, h => absurd h (Nat.not_lt_zero _)
  | n + 1, i, h => by
    by_cases e : i = n
    · subst e; simp [cpR]
    · simp only [cpR, if_neg e]; exact cpR_in t t2 n i (by omega)
