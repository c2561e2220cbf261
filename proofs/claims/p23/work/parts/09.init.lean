/-! A new line. -/
def fl : Nat → Nat → Int32
  | 0 => fun _ => 0
  | k + 1 => upd (fl k) k 40
def fr : Nat → Nat → Int32
  | 0 => fun _ => 0
  | k + 1 => upd (fr k) k 1
def tauI : Nat → Int32 := fun j => if j = 3 then 1 else if j = 17 then 1000000 else 0
def tI : Nat → Nat → Int32 := fun _ => tauI
def gI : Nat → Nat → Int32 := fun r => if r = 0 then fl 20 else if r = 2 then fr 20 else fun _ => 0
def Wt (cI cZ : ClassId) (x p0 p1 p2 p3 p4 p5 p6 p7 : Nat) (f0 f2 : Nat → Int32) : va_W := [(x, .inr (1, [.ref p0, .ref p1, .ref p2, .ref p3, .ref p4, .ref p5, .int 0, .ref p6, .ref p7, .int 0])), (p0, .inl (cI, 20, .inl f0)), (p1, .inl (cI, 20, .inl (fun _ => 0))), (p2, .inl (cZ, 20, .inl f2)), (p3, .inl (cI, 4, .inl (fun _ => 0))), (p4, .inl (cI, 4, .inl (fun _ => 0))), (p5, .inl (cI, 4, .inl (fun _ => 0))), (p6, .inl (cI, 3, .inl (fun _ => 0))), (p7, .inl (cI, 3, .inl (fun _ => 0)))]
theorem fl_in : ∀ c, c < 20 → fl 20 c = 40 := by decide
theorem fr_in : ∀ c, c < 20 → fr 20 c = 1 := by decide
theorem nw_X0 : ∀ j, j < 4 → defaultValue (tyX0 j) = vp_V [.null, .null, .int 0, .int 0] j := by
  intro j hj
  match j, hj with
  | 0, _ => rfl
  | 1, _ => rfl
  | 2, _ => rfl
  | 3, _ => rfl
theorem nw_X1 : ∀ j, j < 10 → defaultValue (tyX1 j) = vp_V [.null, .null, .null, .null, .null, .null, .int 0, .null, .null, .int 0] j := by
  intro j hj
  match j, hj with
  | 0, _ => rfl
  | 1, _ => rfl
  | 2, _ => rfl
  | 3, _ => rfl
  | 4, _ => rfl
  | 5, _ => rfl
  | 6, _ => rfl
  | 7, _ => rfl
  | 8, _ => rfl
  | 9, _ => rfl
  | k + 10, h => exact absurd h (by omega)
theorem nw_X2 : ∀ j, j < 18 → defaultValue (tyX2 j) = vp_V [.int 0, .int 0, .int 0, .int 0, .int 0, .int 0, .int 0, .int 0, .int 0, .int 0, .int 0, .int 0, .int 0, .int 0, .int 0, .int 0, .int 0, .int 0] j := by
  intro j hj
  match j, hj with
  | 0, _ => rfl
  | 1, _ => rfl
  | 2, _ => rfl
  | 3, _ => rfl
  | 4, _ => rfl
  | 5, _ => rfl
  | 6, _ => rfl
  | 7, _ => rfl
  | 8, _ => rfl
  | 9, _ => rfl
  | 10, _ => rfl
  | 11, _ => rfl
  | 12, _ => rfl
  | 13, _ => rfl
  | 14, _ => rfl
  | 15, _ => rfl
  | 16, _ => rfl
  | 17, _ => rfl
  | k + 18, h => exact absurd h (by omega)
