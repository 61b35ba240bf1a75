/-! the cells of the class's object (LX) and of the reference's (LM), as a memory holds them; τ: the array classes -/
def tysL (τ : Nat → ClassId) : List (ClassId × FieldType) := [(τ 0, .int), (τ 1, .long), (τ 2, .boolean), (τ 3, .object RX2), (τ 4, .array .int), (τ 5, .array .long)]
def arI (c : ClassId) (n : Nat) (r : Nat → Int) : va_E := .inl (c, n, .inl (fun j => iN (r j)))
def arL (c : ClassId) (n : Nat) (r : Nat → Int) : va_E := .inl (c, n, .inr (.inl (fun j => jN (r j))))
def arQ (c : ClassId) (n : Nat) (g : Nat → Nat) (a : Nat → Nat) : va_E := .inl (c, n, .inr (.inr (.inr (.inr (fun j => some (a (g j)))))))
def fsX6 (a : Nat → Nat) (r : Nat → Int) : List Value := [.int (iN (r 0)), .ref (a 1), .ref (a 2), .ref (a 9), .ref (a 14), .ref (a 27), .ref (a 44), .ref (a 120), .int (iN (r 8)), .int (iN (r 9))]
def fsX0 (r : Nat → Int) : List Value := [.long (jN (r 0))]
def fsX1 (a : Nat → Nat) (r : Nat → Int) : List Value := [.ref (a 3), .ref (a 4), .ref (a 5), .ref (a 6), .ref (a 7), .ref (a 8), .int (iN (r 6))]
def fsX3 (a : Nat → Nat) (r : Nat → Int) : List Value := [.ref (a 10), .ref (a 11), .ref (a 12), .ref (a 13), .int (iN (r 4))]
def fsX2 (a : Nat → Nat) (k : Nat) (r : Nat → Int) : List Value := [.ref (a (k + 1)), .ref (a (k + 2)), .ref (a (k + 3)), .int (iN (r 3)), .int (iN (r 4)), .int (iN (r 5)), .int (iN (r 6))]
def fsX4 (a : Nat → Nat) (r : Nat → Int) : List Value := [.ref (a 28), .ref (a 29), .ref (a 30), .ref (a 31), .ref (a 32), .int (iN (r 5)), .int (iN (r 6))]
def fsX5 (a : Nat → Nat) (r : Nat → Int) : List Value := [.ref (a 45), .ref (a 46), .ref (a 47), .ref (a 55), .int (iN (r 4))]
def shX (τ : Nat → ClassId) (a : Nat → Nat) (k : Nat) (r : Nat → Int) : va_E :=
  if k = 0 then .inr (6, fsX6 a r) else if k = 1 then .inr (0, fsX0 r) else if k = 2 then .inr (1, fsX1 a r) else if k < 9 then arI (τ 0) 10 r
  else if k = 9 then .inr (3, fsX3 a r) else if k < 14 then arI (τ 0) 40 r else if k = 14 then arQ (τ 3) 3 (fun j => 15 + 4 * j) a
  else if k < 27 then (if (k - 15) % 4 = 0 then .inr (2, fsX2 a k r) else if (k - 15) % 4 = 1 then arI (τ 0) 40 r else arI (τ 0) 10 r)
  else if k = 27 then .inr (4, fsX4 a r) else if k < 32 then arI (τ 0) 10 r else if k = 32 then arQ (τ 5) 11 (fun j => 33 + j) a else if k < 44 then arL (τ 1) 41 r
  else if k = 44 then .inr (5, fsX5 a r) else if k < 47 then arI (τ 0) 6 r else if k = 47 then arQ (τ 4) 7 (fun j => 48 + j) a else if k < 55 then arI (τ 0) 7 r
  else if k = 55 then arQ (τ 4) 64 (fun j => 56 + j) a else if k < 120 then arI (τ 0) 6 r else arI (τ 0) 40 r
def LX (τ : Nat → ClassId) : Lay := (121, shX τ)
def fsM (a : Nat → Nat) (r : Nat → Int) : List Value := [.int (iN (r 0)), .long (jN (r 1)), .int (iN (r 2)), .int (iN (r 3)), .ref (a 1), .ref (a 2), .ref (a 3), .ref (a 4), .ref (a 5), .ref (a 6), .int (iN (r 10)), .ref (a 7), .ref (a 8), .ref (a 9), .ref (a 10), .int (iN (r 15)), .ref (a 11), .ref (a 12), .int (iN (r 18)), .ref (a 13), .ref (a 14), .ref (a 15), .ref (a 16), .ref (a 17), .ref (a 18), .int (iN (r 25)), .ref (a 19), .ref (a 20), .ref (a 21)]
def shM (τ : Nat → ClassId) (a : Nat → Nat) (k : Nat) (r : Nat → Int) : va_E :=
  if k = 0 then .inr (7, fsM a r) else if k < 5 then arI (τ 0) 10 r else if k < 7 then arL (τ 1) 10 r else if k = 7 then arI (τ 0) 40 r else if k < 11 then arL (τ 1) 40 r
  else if k < 13 then arI (τ 0) 3 r else if k = 13 then arI (τ 0) 30 r else if k = 14 then arI (τ 0) 3 r else if k = 15 then arI (τ 0) 120 r else if k < 18 then arI (τ 0) 10 r
  else if k = 18 then arI (τ 2) 120 r else if k = 19 then arI (τ 0) 6 r else if k = 20 then arL (τ 1) 384 r else arI (τ 0) 40 r
def LM (τ : Nat → ClassId) : Lay := (22, shM τ)
section Lays
variable {τ : Nat → ClassId} {a : Nat → Nat}
theorem ox_0 : ObC (LX τ) a 0 6 (fsX6 a) := ⟨Nat.le_of_ble_eq_true rfl, fun _ => rfl⟩
theorem ox_1 : ObC (LX τ) a 1 0 fsX0 := ⟨Nat.le_of_ble_eq_true rfl, fun _ => rfl⟩
theorem ox_2 : ObC (LX τ) a 2 1 (fsX1 a) := ⟨Nat.le_of_ble_eq_true rfl, fun _ => rfl⟩
theorem ox_9 : ObC (LX τ) a 9 3 (fsX3 a) := ⟨Nat.le_of_ble_eq_true rfl, fun _ => rfl⟩
theorem ox_27 : ObC (LX τ) a 27 4 (fsX4 a) := ⟨Nat.le_of_ble_eq_true rfl, fun _ => rfl⟩
theorem ox_44 : ObC (LX τ) a 44 5 (fsX5 a) := ⟨Nat.le_of_ble_eq_true rfl, fun _ => rfl⟩
theorem ox_M {m : Nat} (h : m < 3) : ObC (LX τ) a (15 + 4 * m) 2 (fsX2 a (15 + 4 * m)) := by
  rcases (show m = 0 ∨ m = 1 ∨ m = 2 by omega) with rfl | rfl | rfl
  · exact ⟨Nat.le_of_ble_eq_true rfl, fun _ => rfl⟩
  · exact ⟨Nat.le_of_ble_eq_true rfl, fun _ => rfl⟩
  · exact ⟨Nat.le_of_ble_eq_true rfl, fun _ => rfl⟩
theorem ax_3 : ArI (LX τ) a (tysL τ) 3 10 := ⟨Nat.le_of_ble_eq_true rfl, by decide, τ 0, 0, rfl, fun _ => rfl⟩
theorem ax_4 : ArI (LX τ) a (tysL τ) 4 10 := ⟨Nat.le_of_ble_eq_true rfl, by decide, τ 0, 0, rfl, fun _ => rfl⟩
theorem ax_5 : ArI (LX τ) a (tysL τ) 5 10 := ⟨Nat.le_of_ble_eq_true rfl, by decide, τ 0, 0, rfl, fun _ => rfl⟩
theorem ax_6 : ArI (LX τ) a (tysL τ) 6 10 := ⟨Nat.le_of_ble_eq_true rfl, by decide, τ 0, 0, rfl, fun _ => rfl⟩
theorem ax_7 : ArI (LX τ) a (tysL τ) 7 10 := ⟨Nat.le_of_ble_eq_true rfl, by decide, τ 0, 0, rfl, fun _ => rfl⟩
theorem ax_8 : ArI (LX τ) a (tysL τ) 8 10 := ⟨Nat.le_of_ble_eq_true rfl, by decide, τ 0, 0, rfl, fun _ => rfl⟩
theorem ax_10 : ArI (LX τ) a (tysL τ) 10 40 := ⟨Nat.le_of_ble_eq_true rfl, by decide, τ 0, 0, rfl, fun _ => rfl⟩
theorem ax_11 : ArI (LX τ) a (tysL τ) 11 40 := ⟨Nat.le_of_ble_eq_true rfl, by decide, τ 0, 0, rfl, fun _ => rfl⟩
theorem ax_12 : ArI (LX τ) a (tysL τ) 12 40 := ⟨Nat.le_of_ble_eq_true rfl, by decide, τ 0, 0, rfl, fun _ => rfl⟩
theorem ax_13 : ArI (LX τ) a (tysL τ) 13 40 := ⟨Nat.le_of_ble_eq_true rfl, by decide, τ 0, 0, rfl, fun _ => rfl⟩
theorem ax_28 : ArI (LX τ) a (tysL τ) 28 10 := ⟨Nat.le_of_ble_eq_true rfl, by decide, τ 0, 0, rfl, fun _ => rfl⟩
theorem ax_29 : ArI (LX τ) a (tysL τ) 29 10 := ⟨Nat.le_of_ble_eq_true rfl, by decide, τ 0, 0, rfl, fun _ => rfl⟩
theorem ax_30 : ArI (LX τ) a (tysL τ) 30 10 := ⟨Nat.le_of_ble_eq_true rfl, by decide, τ 0, 0, rfl, fun _ => rfl⟩
theorem ax_31 : ArI (LX τ) a (tysL τ) 31 10 := ⟨Nat.le_of_ble_eq_true rfl, by decide, τ 0, 0, rfl, fun _ => rfl⟩
theorem ax_45 : ArI (LX τ) a (tysL τ) 45 6 := ⟨Nat.le_of_ble_eq_true rfl, by decide, τ 0, 0, rfl, fun _ => rfl⟩
theorem ax_46 : ArI (LX τ) a (tysL τ) 46 6 := ⟨Nat.le_of_ble_eq_true rfl, by decide, τ 0, 0, rfl, fun _ => rfl⟩
theorem ax_120 : ArI (LX τ) a (tysL τ) 120 40 := ⟨Nat.le_of_ble_eq_true rfl, by decide, τ 0, 0, rfl, fun _ => rfl⟩
theorem ax_R {m : Nat} (h : m < 3) : ArI (LX τ) a (tysL τ) (15 + 4 * m + 1) 40 := by
  rcases (show m = 0 ∨ m = 1 ∨ m = 2 by omega) with rfl | rfl | rfl
  · exact ⟨Nat.le_of_ble_eq_true rfl, by decide, τ 0, 0, rfl, fun _ => rfl⟩
  · exact ⟨Nat.le_of_ble_eq_true rfl, by decide, τ 0, 0, rfl, fun _ => rfl⟩
  · exact ⟨Nat.le_of_ble_eq_true rfl, by decide, τ 0, 0, rfl, fun _ => rfl⟩
theorem ax_F {m : Nat} (h : m < 3) : ArI (LX τ) a (tysL τ) (15 + 4 * m + 2) 10 := by
  rcases (show m = 0 ∨ m = 1 ∨ m = 2 by omega) with rfl | rfl | rfl
  · exact ⟨Nat.le_of_ble_eq_true rfl, by decide, τ 0, 0, rfl, fun _ => rfl⟩
  · exact ⟨Nat.le_of_ble_eq_true rfl, by decide, τ 0, 0, rfl, fun _ => rfl⟩
  · exact ⟨Nat.le_of_ble_eq_true rfl, by decide, τ 0, 0, rfl, fun _ => rfl⟩
theorem ax_A {m : Nat} (h : m < 3) : ArI (LX τ) a (tysL τ) (15 + 4 * m + 3) 10 := by
  rcases (show m = 0 ∨ m = 1 ∨ m = 2 by omega) with rfl | rfl | rfl
  · exact ⟨Nat.le_of_ble_eq_true rfl, by decide, τ 0, 0, rfl, fun _ => rfl⟩
  · exact ⟨Nat.le_of_ble_eq_true rfl, by decide, τ 0, 0, rfl, fun _ => rfl⟩
  · exact ⟨Nat.le_of_ble_eq_true rfl, by decide, τ 0, 0, rfl, fun _ => rfl⟩
theorem ax_14 : ArQ (LX τ) a (tysL τ) 14 3 (fun j => 15 + 4 * j) := ⟨Nat.le_of_ble_eq_true rfl, by decide, τ 3, 3, .object RX2, rfl, rfl, fun _ => rfl⟩
theorem ax_32 : ArQ (LX τ) a (tysL τ) 32 11 (fun j => 33 + j) := ⟨Nat.le_of_ble_eq_true rfl, by decide, τ 5, 5, .array .long, rfl, rfl, fun _ => rfl⟩
theorem ax_47 : ArQ (LX τ) a (tysL τ) 47 7 (fun j => 48 + j) := ⟨Nat.le_of_ble_eq_true rfl, by decide, τ 4, 4, .array .int, rfl, rfl, fun _ => rfl⟩
theorem ax_55 : ArQ (LX τ) a (tysL τ) 55 64 (fun j => 56 + j) := ⟨Nat.le_of_ble_eq_true rfl, by decide, τ 4, 4, .array .int, rfl, rfl, fun _ => rfl⟩
theorem ax_E {i : Nat} (h : i < 11) : ArL (LX τ) a (tysL τ) (33 + i) 41 := by
  refine ⟨show 33 + i < 121 by omega, by decide, τ 1, 1, rfl, fun r => ?_⟩
  show shX τ a (33 + i) r = _
  unfold shX
  rw [if_neg (by omega), if_neg (by omega), if_neg (by omega), if_neg (by omega), if_neg (by omega), if_neg (by omega), if_neg (by omega), if_neg (by omega), if_neg (by omega), if_neg (by omega), if_neg (by omega), if_pos (by omega)]
  rfl
theorem ax_Y {i : Nat} (h : i < 7) : ArI (LX τ) a (tysL τ) (48 + i) 7 := by
  refine ⟨show 48 + i < 121 by omega, by decide, τ 0, 0, rfl, fun r => ?_⟩
  show shX τ a (48 + i) r = _
  unfold shX
  rw [if_neg (by omega), if_neg (by omega), if_neg (by omega), if_neg (by omega), if_neg (by omega), if_neg (by omega), if_neg (by omega), if_neg (by omega), if_neg (by omega), if_neg (by omega), if_neg (by omega), if_neg (by omega), if_neg (by omega), if_neg (by omega), if_neg (by omega), if_pos (by omega)]
  rfl
theorem ax_Z {i : Nat} (h : i < 64) : ArI (LX τ) a (tysL τ) (56 + i) 6 := by
  refine ⟨show 56 + i < 121 by omega, by decide, τ 0, 0, rfl, fun r => ?_⟩
  show shX τ a (56 + i) r = _
  unfold shX
  rw [if_neg (by omega), if_neg (by omega), if_neg (by omega), if_neg (by omega), if_neg (by omega), if_neg (by omega), if_neg (by omega), if_neg (by omega), if_neg (by omega), if_neg (by omega), if_neg (by omega), if_neg (by omega), if_neg (by omega), if_neg (by omega), if_neg (by omega), if_neg (by omega), if_neg (by omega), if_pos (by omega)]
  rfl
theorem om_0 : ObC (LM τ) a 0 7 (fsM a) := ⟨Nat.le_of_ble_eq_true rfl, fun _ => rfl⟩
theorem am_1 : ArI (LM τ) a (tysL τ) 1 10 := ⟨Nat.le_of_ble_eq_true rfl, by decide, τ 0, 0, rfl, fun _ => rfl⟩
theorem am_2 : ArI (LM τ) a (tysL τ) 2 10 := ⟨Nat.le_of_ble_eq_true rfl, by decide, τ 0, 0, rfl, fun _ => rfl⟩
theorem am_3 : ArI (LM τ) a (tysL τ) 3 10 := ⟨Nat.le_of_ble_eq_true rfl, by decide, τ 0, 0, rfl, fun _ => rfl⟩
theorem am_4 : ArI (LM τ) a (tysL τ) 4 10 := ⟨Nat.le_of_ble_eq_true rfl, by decide, τ 0, 0, rfl, fun _ => rfl⟩
theorem am_7 : ArI (LM τ) a (tysL τ) 7 40 := ⟨Nat.le_of_ble_eq_true rfl, by decide, τ 0, 0, rfl, fun _ => rfl⟩
theorem am_11 : ArI (LM τ) a (tysL τ) 11 3 := ⟨Nat.le_of_ble_eq_true rfl, by decide, τ 0, 0, rfl, fun _ => rfl⟩
theorem am_12 : ArI (LM τ) a (tysL τ) 12 3 := ⟨Nat.le_of_ble_eq_true rfl, by decide, τ 0, 0, rfl, fun _ => rfl⟩
theorem am_13 : ArI (LM τ) a (tysL τ) 13 30 := ⟨Nat.le_of_ble_eq_true rfl, by decide, τ 0, 0, rfl, fun _ => rfl⟩
theorem am_14 : ArI (LM τ) a (tysL τ) 14 3 := ⟨Nat.le_of_ble_eq_true rfl, by decide, τ 0, 0, rfl, fun _ => rfl⟩
theorem am_15 : ArI (LM τ) a (tysL τ) 15 120 := ⟨Nat.le_of_ble_eq_true rfl, by decide, τ 0, 0, rfl, fun _ => rfl⟩
theorem am_16 : ArI (LM τ) a (tysL τ) 16 10 := ⟨Nat.le_of_ble_eq_true rfl, by decide, τ 0, 0, rfl, fun _ => rfl⟩
theorem am_17 : ArI (LM τ) a (tysL τ) 17 10 := ⟨Nat.le_of_ble_eq_true rfl, by decide, τ 0, 0, rfl, fun _ => rfl⟩
theorem am_19 : ArI (LM τ) a (tysL τ) 19 6 := ⟨Nat.le_of_ble_eq_true rfl, by decide, τ 0, 0, rfl, fun _ => rfl⟩
theorem am_21 : ArI (LM τ) a (tysL τ) 21 40 := ⟨Nat.le_of_ble_eq_true rfl, by decide, τ 0, 0, rfl, fun _ => rfl⟩
theorem am_5 : ArL (LM τ) a (tysL τ) 5 10 := ⟨Nat.le_of_ble_eq_true rfl, by decide, τ 1, 1, rfl, fun _ => rfl⟩
theorem am_6 : ArL (LM τ) a (tysL τ) 6 10 := ⟨Nat.le_of_ble_eq_true rfl, by decide, τ 1, 1, rfl, fun _ => rfl⟩
theorem am_8 : ArL (LM τ) a (tysL τ) 8 40 := ⟨Nat.le_of_ble_eq_true rfl, by decide, τ 1, 1, rfl, fun _ => rfl⟩
theorem am_9 : ArL (LM τ) a (tysL τ) 9 40 := ⟨Nat.le_of_ble_eq_true rfl, by decide, τ 1, 1, rfl, fun _ => rfl⟩
theorem am_10 : ArL (LM τ) a (tysL τ) 10 40 := ⟨Nat.le_of_ble_eq_true rfl, by decide, τ 1, 1, rfl, fun _ => rfl⟩
theorem am_20 : ArL (LM τ) a (tysL τ) 20 384 := ⟨Nat.le_of_ble_eq_true rfl, by decide, τ 1, 1, rfl, fun _ => rfl⟩
theorem am_18 : ArZ (LM τ) a (tysL τ) 18 120 := ⟨Nat.le_of_ble_eq_true rfl, by decide, τ 2, 2, rfl, fun _ => rfl⟩
end Lays
