/-! What a line of the class is: t: train i's field j (the slots' order); g: row 0 limits, 1 grades, 2 radios, 3 stationMetres, 4 dwells, 5 stopCounts, 6 worksFirst, 7 worksLast; row 8: 0 trainCount, 1 now, 2 stationCount, 3 worksCount. a: the cells' addresses: 0..3 the trains, 4 the line, 5 its track, 6..13 the rows, 14 the row of the trains. -/
def kCl : List vw_C := [(RX0, TX0, 4), (RX1, TX1, 10), (RX2, TX2, 18), (RX3, TX3, 2)]
def kTy (cI cZ cT : ClassId) : List (ClassId × FieldType) := [(cI, .int), (cZ, .boolean), (cT, .object RX2)]
def up2 (f : Nat → Nat → Int32) (i j : Nat) (v : Int32) : Nat → Nat → Int32 := fun x => if x = i then upd (f i) j v else f x
theorem up2_s (f : Nat → Nat → Int32) (i j : Nat) (v : Int32) : up2 f i j v i = upd (f i) j v := if_pos rfl
theorem up2_n {f : Nat → Nat → Int32} {i j x : Nat} {v : Int32} (h : x ≠ i) : up2 f i j v x = f x := if_neg h
def trF (τ : Nat → Int32) : List Value := [.int (τ 0), .int (τ 1), .int (τ 2), .int (τ 3), .int (τ 4), .int (τ 5), .int (τ 6), .int (τ 7), .int (τ 8), .int (τ 9), .int (τ 10), .int (τ 11), .int (τ 12), .int (τ 13), .int (τ 14), .int (τ 15), .int (τ 16), .int (τ 17)]
theorem trF_set {τ : Nat → Int32} {v : Int32} {j : Nat} (h : j < 18) : (trF τ).set j (.int v) = trF (upd τ j v) := by
  match j, h with
  | 0, _ => rfl
  | 1, _ => rfl
  | 2, _ => rfl
  | 3, _ => rfl
  | 4, _ => rfl
  | 5, _ => rfl
  | 6, _ => rfl
  | 7, _ => rfl
  | 8, _ => rfl
  | 9, _ => rfl
  | 10, _ => rfl
  | 11, _ => rfl
  | 12, _ => rfl
  | 13, _ => rfl
  | 14, _ => rfl
  | 15, _ => rfl
  | 16, _ => rfl
  | 17, _ => rfl
  | k + 18, h => exact absurd h (by omega)
def trA (a : Nat → Nat) : Nat → Option Nat := va_up (va_up (va_up (va_up (fun _ => none) 0 (some (a 0))) 1 (some (a 1))) 2 (some (a 2))) 3 (some (a 3))
theorem trA_at {a : Nat → Nat} {i : Nat} (h : i < 4) : trA a i = some (a i) := by
  match i, h with
  | 0, _ => rfl
  | 1, _ => rfl
  | 2, _ => rfl
  | 3, _ => rfl
def Wl (cI cZ cT : ClassId) (a : Nat → Nat) (t g : Nat → Nat → Int32) : va_W := [(a 0, .inr (2, trF (t 0))), (a 1, .inr (2, trF (t 1))), (a 2, .inr (2, trF (t 2))), (a 3, .inr (2, trF (t 3))),
  (a 4, .inr (0, [.ref (a 5), .ref (a 14), .int (g 8 0), .int (g 8 1)])),
  (a 5, .inr (1, [.ref (a 6), .ref (a 7), .ref (a 8), .ref (a 9), .ref (a 10), .ref (a 11), .int (g 8 2), .ref (a 12), .ref (a 13), .int (g 8 3)])),
  (a 6, .inl (cI, 20, .inl (g 0))), (a 7, .inl (cI, 20, .inl (g 1))), (a 8, .inl (cZ, 20, .inl (g 2))), (a 9, .inl (cI, 4, .inl (g 3))), (a 10, .inl (cI, 4, .inl (g 4))), (a 11, .inl (cI, 4, .inl (g 5))), (a 12, .inl (cI, 3, .inl (g 6))), (a 13, .inl (cI, 3, .inl (g 7))),
  (a 14, .inl (cT, 4, .inr (.inr (.inr (.inr (trA a))))))]
theorem Wl_t {cI cZ cT : ClassId} {a : Nat → Nat} {t g : Nat → Nat → Int32} {i : Nat} (h : i < 4) : (Wl cI cZ cT a t g)[i]? = some (a i, .inr (2, trF (t i))) := by
  match i, h with
  | 0, _ => rfl
  | 1, _ => rfl
  | 2, _ => rfl
  | 3, _ => rfl
theorem Wl_set {cI cZ cT : ClassId} {a : Nat → Nat} {t g : Nat → Nat → Int32} {i j : Nat} {v : Int32} (h : i < 4) (hj : j < 18) : (Wl cI cZ cT a t g).set i (a i, .inr (2, (trF (t i)).set j (.int v))) = Wl cI cZ cT a (up2 t i j v) g := by
  rw [trF_set hj, ← up2_s]
  match i, h with
  | 0, _ => rfl
  | 1, _ => rfl
  | 2, _ => rfl
  | 3, _ => rfl
section
variable {cI cZ cT : ClassId} {a : Nat → Nat} {t g : Nat → Nat → Int32} {v : Int32} {k : Nat}
theorem Wl_s0 : (Wl cI cZ cT a t g).set 4 (a 4, .inr (0, ([.ref (a 5), .ref (a 14), .int (g 8 0), .int (g 8 1)] : List Value).set 2 (.int v))) = Wl cI cZ cT a t (up2 g 8 0 v) := rfl
theorem Wl_s1 : (Wl cI cZ cT a t g).set 4 (a 4, .inr (0, ([.ref (a 5), .ref (a 14), .int (g 8 0), .int (g 8 1)] : List Value).set 3 (.int v))) = Wl cI cZ cT a t (up2 g 8 1 v) := rfl
theorem Wl_s2 : (Wl cI cZ cT a t g).set 5 (a 5, .inr (1, ([.ref (a 6), .ref (a 7), .ref (a 8), .ref (a 9), .ref (a 10), .ref (a 11), .int (g 8 2), .ref (a 12), .ref (a 13), .int (g 8 3)] : List Value).set 6 (.int v))) = Wl cI cZ cT a t (up2 g 8 2 v) := rfl
theorem Wl_s3 : (Wl cI cZ cT a t g).set 5 (a 5, .inr (1, ([.ref (a 6), .ref (a 7), .ref (a 8), .ref (a 9), .ref (a 10), .ref (a 11), .int (g 8 2), .ref (a 12), .ref (a 13), .int (g 8 3)] : List Value).set 9 (.int v))) = Wl cI cZ cT a t (up2 g 8 3 v) := rfl
theorem Wl_r0 : (Wl cI cZ cT a t g).set 6 (a 6, .inl (cI, 20, .inl (upd (g 0) k v))) = Wl cI cZ cT a t (up2 g 0 k v) := rfl
theorem Wl_r1 : (Wl cI cZ cT a t g).set 7 (a 7, .inl (cI, 20, .inl (upd (g 1) k v))) = Wl cI cZ cT a t (up2 g 1 k v) := rfl
theorem Wl_r2 : (Wl cI cZ cT a t g).set 8 (a 8, .inl (cZ, 20, .inl (upd (g 2) k v))) = Wl cI cZ cT a t (up2 g 2 k v) := rfl
theorem Wl_r3 : (Wl cI cZ cT a t g).set 9 (a 9, .inl (cI, 4, .inl (upd (g 3) k v))) = Wl cI cZ cT a t (up2 g 3 k v) := rfl
theorem Wl_r4 : (Wl cI cZ cT a t g).set 10 (a 10, .inl (cI, 4, .inl (upd (g 4) k v))) = Wl cI cZ cT a t (up2 g 4 k v) := rfl
theorem Wl_r5 : (Wl cI cZ cT a t g).set 11 (a 11, .inl (cI, 4, .inl (upd (g 5) k v))) = Wl cI cZ cT a t (up2 g 5 k v) := rfl
theorem Wl_r6 : (Wl cI cZ cT a t g).set 12 (a 12, .inl (cI, 3, .inl (upd (g 6) k v))) = Wl cI cZ cT a t (up2 g 6 k v) := rfl
theorem Wl_r7 : (Wl cI cZ cT a t g).set 13 (a 13, .inl (cI, 3, .inl (upd (g 7) k v))) = Wl cI cZ cT a t (up2 g 7 k v) := rfl
end
