abbrev iX0 : MInf := (cX0_init, 3, RX0, none, { frames := 1, cells := 0, slots := 0, locals := 20 })
theorem dfX0 : ∀ j, j < 1 → defaultValue (tyX0 j) = vp_V [.long (jN 0)] j := by
  intro j hj
  match j, hj with
  | 0, _ => rfl
  | j + 1, h => exact absurd h (by omega)
theorem oX0 : Cond.methodLink RX0 1 objectInit ∈ gw ∧ Cond.instanceMethod objectInit ∈ gw ∧ Cond.code objectInit ⟨#[0xb1]⟩ 1 none ∈ gw := ⟨tm_1 (List.mem_of_getElem? (i := 197) rfl) rfl, tm_1 (List.mem_of_getElem? (i := 24) rfl) rfl, tm_1 (List.mem_of_getElem? (i := 25) rfl) rfl⟩
theorem nX0_7 : FLn RX0 7 0 0 .long := ⟨RX0, TX0, 1, tyX0, rfl, by decide, tm_1 (List.mem_of_getElem? (i := 198) rfl) rfl, inX0, tyX0_ok, nmX0, Or.inl rfl, tyX0_ok 0 (by decide)⟩
abbrev iX1 : MInf := (cX1_init, 1, RX1, none, { frames := 1, cells := 6, slots := 60, locals := 20 })
theorem dfX1 : ∀ j, j < 7 → defaultValue (tyX1 j) = vp_V [.null, .null, .null, .null, .null, .null, .int (iN 0)] j := by
  intro j hj
  match j, hj with
  | 0, _ => rfl
  | 1, _ => rfl
  | 2, _ => rfl
  | 3, _ => rfl
  | 4, _ => rfl
  | 5, _ => rfl
  | 6, _ => rfl
  | j + 7, h => exact absurd h (by omega)
theorem oX1 : Cond.methodLink RX1 3 objectInit ∈ gw ∧ Cond.instanceMethod objectInit ∈ gw ∧ Cond.code objectInit ⟨#[0xb1]⟩ 1 none ∈ gw := ⟨tm_1 (List.mem_of_getElem? (i := 31) rfl) rfl, tm_1 (List.mem_of_getElem? (i := 24) rfl) rfl, tm_1 (List.mem_of_getElem? (i := 25) rfl) rfl⟩
theorem nX1_9 : FLn RX1 9 1 0 (.array .int) := ⟨RX1, TX1, 7, tyX1, rfl, by decide, tm_1 (List.mem_of_getElem? (i := 32) rfl) rfl, inX1, tyX1_ok, nmX1, Or.inr ⟨rfl, rfl⟩, tyX1_ok 0 (by decide)⟩
theorem nX1_15 : FLn RX1 15 1 1 (.array .int) := ⟨RX1, TX1, 7, tyX1, rfl, by decide, tm_1 (List.mem_of_getElem? (i := 34) rfl) rfl, inX1, tyX1_ok, nmX1, Or.inr ⟨rfl, rfl⟩, tyX1_ok 1 (by decide)⟩
theorem nX1_18 : FLn RX1 18 1 2 (.array .int) := ⟨RX1, TX1, 7, tyX1, rfl, by decide, tm_1 (List.mem_of_getElem? (i := 36) rfl) rfl, inX1, tyX1_ok, nmX1, Or.inr ⟨rfl, rfl⟩, tyX1_ok 2 (by decide)⟩
theorem nX1_21 : FLn RX1 21 1 3 (.array .int) := ⟨RX1, TX1, 7, tyX1, rfl, by decide, tm_1 (List.mem_of_getElem? (i := 38) rfl) rfl, inX1, tyX1_ok, nmX1, Or.inr ⟨rfl, rfl⟩, tyX1_ok 3 (by decide)⟩
theorem nX1_24 : FLn RX1 24 1 4 (.array .int) := ⟨RX1, TX1, 7, tyX1, rfl, by decide, tm_1 (List.mem_of_getElem? (i := 40) rfl) rfl, inX1, tyX1_ok, nmX1, Or.inr ⟨rfl, rfl⟩, tyX1_ok 4 (by decide)⟩
theorem nX1_27 : FLn RX1 27 1 5 (.array .int) := ⟨RX1, TX1, 7, tyX1, rfl, by decide, tm_1 (List.mem_of_getElem? (i := 42) rfl) rfl, inX1, tyX1_ok, nmX1, Or.inr ⟨rfl, rfl⟩, tyX1_ok 5 (by decide)⟩
theorem nX1_30 : FLn RX1 30 1 6 .int := ⟨RX1, TX1, 7, tyX1, rfl, by decide, tm_1 (List.mem_of_getElem? (i := 44) rfl) rfl, inX1, tyX1_ok, nmX1, Or.inl rfl, tyX1_ok 6 (by decide)⟩
abbrev iX2 : MInf := (cX2_init, 1, RX2, none, { frames := 1, cells := 3, slots := 60, locals := 24 })
theorem dfX2 : ∀ j, j < 7 → defaultValue (tyX2 j) = vp_V [.null, .null, .null, .int (iN 0), .int (iN 0), .int (iN 0), .int (iN 0)] j := by
  intro j hj
  match j, hj with
  | 0, _ => rfl
  | 1, _ => rfl
  | 2, _ => rfl
  | 3, _ => rfl
  | 4, _ => rfl
  | 5, _ => rfl
  | 6, _ => rfl
  | j + 7, h => exact absurd h (by omega)
theorem oX2 : Cond.methodLink RX2 3 objectInit ∈ gw ∧ Cond.instanceMethod objectInit ∈ gw ∧ Cond.code objectInit ⟨#[0xb1]⟩ 1 none ∈ gw := ⟨tm_1 (List.mem_of_getElem? (i := 94) rfl) rfl, tm_1 (List.mem_of_getElem? (i := 24) rfl) rfl, tm_1 (List.mem_of_getElem? (i := 25) rfl) rfl⟩
theorem nX2_9 : FLn RX2 9 2 0 (.array .int) := ⟨RX2, TX2, 7, tyX2, rfl, by decide, tm_1 (List.mem_of_getElem? (i := 98) rfl) rfl, inX2, tyX2_ok, nmX2, Or.inr ⟨rfl, rfl⟩, tyX2_ok 0 (by decide)⟩
theorem nX2_15 : FLn RX2 15 2 1 (.array .int) := ⟨RX2, TX2, 7, tyX2, rfl, by decide, tm_1 (List.mem_of_getElem? (i := 101) rfl) rfl, inX2, tyX2_ok, nmX2, Or.inr ⟨rfl, rfl⟩, tyX2_ok 1 (by decide)⟩
theorem nX2_18 : FLn RX2 18 2 2 (.array .int) := ⟨RX2, TX2, 7, tyX2, rfl, by decide, tm_1 (List.mem_of_getElem? (i := 103) rfl) rfl, inX2, tyX2_ok, nmX2, Or.inr ⟨rfl, rfl⟩, tyX2_ok 2 (by decide)⟩
theorem nX2_21 : FLn RX2 21 2 3 .int := ⟨RX2, TX2, 7, tyX2, rfl, by decide, tm_1 (List.mem_of_getElem? (i := 105) rfl) rfl, inX2, tyX2_ok, nmX2, Or.inl rfl, tyX2_ok 3 (by decide)⟩
theorem nX2_25 : FLn RX2 25 2 4 .int := ⟨RX2, TX2, 7, tyX2, rfl, by decide, tm_1 (List.mem_of_getElem? (i := 107) rfl) rfl, inX2, tyX2_ok, nmX2, Or.inl rfl, tyX2_ok 4 (by decide)⟩
theorem nX2_28 : FLn RX2 28 2 5 .int := ⟨RX2, TX2, 7, tyX2, rfl, by decide, tm_1 (List.mem_of_getElem? (i := 110) rfl) rfl, inX2, tyX2_ok, nmX2, Or.inl rfl, tyX2_ok 5 (by decide)⟩
theorem nX2_31 : FLn RX2 31 2 6 .int := ⟨RX2, TX2, 7, tyX2, rfl, by decide, tm_1 (List.mem_of_getElem? (i := 113) rfl) rfl, inX2, tyX2_ok, nmX2, Or.inl rfl, tyX2_ok 6 (by decide)⟩
abbrev iX3 : MInf := (cX3_init, 1, RX3, none, { frames := 1, cells := 4, slots := 160, locals := 20 })
theorem dfX3 : ∀ j, j < 5 → defaultValue (tyX3 j) = vp_V [.null, .null, .null, .null, .int (iN 0)] j := by
  intro j hj
  match j, hj with
  | 0, _ => rfl
  | 1, _ => rfl
  | 2, _ => rfl
  | 3, _ => rfl
  | 4, _ => rfl
  | j + 5, h => exact absurd h (by omega)
theorem oX3 : Cond.methodLink RX3 3 objectInit ∈ gw ∧ Cond.instanceMethod objectInit ∈ gw ∧ Cond.code objectInit ⟨#[0xb1]⟩ 1 none ∈ gw := ⟨tm_1 (List.mem_of_getElem? (i := 67) rfl) rfl, tm_1 (List.mem_of_getElem? (i := 24) rfl) rfl, tm_1 (List.mem_of_getElem? (i := 25) rfl) rfl⟩
theorem nX3_9 : FLn RX3 9 3 0 (.array .int) := ⟨RX3, TX3, 5, tyX3, rfl, by decide, tm_1 (List.mem_of_getElem? (i := 68) rfl) rfl, inX3, tyX3_ok, nmX3, Or.inr ⟨rfl, rfl⟩, tyX3_ok 0 (by decide)⟩
theorem nX3_15 : FLn RX3 15 3 1 (.array .int) := ⟨RX3, TX3, 5, tyX3, rfl, by decide, tm_1 (List.mem_of_getElem? (i := 71) rfl) rfl, inX3, tyX3_ok, nmX3, Or.inr ⟨rfl, rfl⟩, tyX3_ok 1 (by decide)⟩
theorem nX3_18 : FLn RX3 18 3 2 (.array .int) := ⟨RX3, TX3, 5, tyX3, rfl, by decide, tm_1 (List.mem_of_getElem? (i := 72) rfl) rfl, inX3, tyX3_ok, nmX3, Or.inr ⟨rfl, rfl⟩, tyX3_ok 2 (by decide)⟩
theorem nX3_21 : FLn RX3 21 3 3 (.array .int) := ⟨RX3, TX3, 5, tyX3, rfl, by decide, tm_1 (List.mem_of_getElem? (i := 73) rfl) rfl, inX3, tyX3_ok, nmX3, Or.inr ⟨rfl, rfl⟩, tyX3_ok 3 (by decide)⟩
theorem nX3_24 : FLn RX3 24 3 4 .int := ⟨RX3, TX3, 5, tyX3, rfl, by decide, tm_1 (List.mem_of_getElem? (i := 75) rfl) rfl, inX3, tyX3_ok, nmX3, Or.inl rfl, tyX3_ok 4 (by decide)⟩
abbrev iX4 : MInf := (cX4_init, 1, RX4, none, { frames := 1, cells := 16, slots := 502, locals := 20 })
theorem dfX4 : ∀ j, j < 7 → defaultValue (tyX4 j) = vp_V [.null, .null, .null, .null, .null, .int (iN 0), .int (iN 0)] j := by
  intro j hj
  match j, hj with
  | 0, _ => rfl
  | 1, _ => rfl
  | 2, _ => rfl
  | 3, _ => rfl
  | 4, _ => rfl
  | 5, _ => rfl
  | 6, _ => rfl
  | j + 7, h => exact absurd h (by omega)
theorem oX4 : Cond.methodLink RX4 3 objectInit ∈ gw ∧ Cond.instanceMethod objectInit ∈ gw ∧ Cond.code objectInit ⟨#[0xb1]⟩ 1 none ∈ gw := ⟨tm_1 (List.mem_of_getElem? (i := 135) rfl) rfl, tm_1 (List.mem_of_getElem? (i := 24) rfl) rfl, tm_1 (List.mem_of_getElem? (i := 25) rfl) rfl⟩
theorem nX4_9 : FLn RX4 9 4 0 (.array .int) := ⟨RX4, TX4, 7, tyX4, rfl, by decide, tm_1 (List.mem_of_getElem? (i := 138) rfl) rfl, inX4, tyX4_ok, nmX4, Or.inr ⟨rfl, rfl⟩, tyX4_ok 0 (by decide)⟩
theorem nX4_15 : FLn RX4 15 4 1 (.array .int) := ⟨RX4, TX4, 7, tyX4, rfl, by decide, tm_1 (List.mem_of_getElem? (i := 140) rfl) rfl, inX4, tyX4_ok, nmX4, Or.inr ⟨rfl, rfl⟩, tyX4_ok 1 (by decide)⟩
theorem nX4_18 : FLn RX4 18 4 2 (.array .int) := ⟨RX4, TX4, 7, tyX4, rfl, by decide, tm_1 (List.mem_of_getElem? (i := 141) rfl) rfl, inX4, tyX4_ok, nmX4, Or.inr ⟨rfl, rfl⟩, tyX4_ok 2 (by decide)⟩
theorem nX4_21 : FLn RX4 21 4 3 (.array .int) := ⟨RX4, TX4, 7, tyX4, rfl, by decide, tm_1 (List.mem_of_getElem? (i := 142) rfl) rfl, inX4, tyX4_ok, nmX4, Or.inr ⟨rfl, rfl⟩, tyX4_ok 3 (by decide)⟩
theorem nX4_26 : FLn RX4 26 4 4 (.array (.array .long)) := ⟨RX4, TX4, 7, tyX4, rfl, by decide, tm_1 (List.mem_of_getElem? (i := 143) rfl) rfl, inX4, tyX4_ok, nmX4, Or.inr ⟨rfl, rfl⟩, tyX4_ok 4 (by decide)⟩
theorem nX4_29 : FLn RX4 29 4 5 .int := ⟨RX4, TX4, 7, tyX4, rfl, by decide, tm_1 (List.mem_of_getElem? (i := 144) rfl) rfl, inX4, tyX4_ok, nmX4, Or.inl rfl, tyX4_ok 5 (by decide)⟩
theorem nX4_33 : FLn RX4 33 4 6 .int := ⟨RX4, TX4, 7, tyX4, rfl, by decide, tm_1 (List.mem_of_getElem? (i := 145) rfl) rfl, inX4, tyX4_ok, nmX4, Or.inl rfl, tyX4_ok 6 (by decide)⟩
abbrev iX5 : MInf := (cX5_init, 1, RX5, none, { frames := 1, cells := 75, slots := 516, locals := 20 })
theorem dfX5 : ∀ j, j < 5 → defaultValue (tyX5 j) = vp_V [.null, .null, .null, .null, .int (iN 0)] j := by
  intro j hj
  match j, hj with
  | 0, _ => rfl
  | 1, _ => rfl
  | 2, _ => rfl
  | 3, _ => rfl
  | 4, _ => rfl
  | j + 5, h => exact absurd h (by omega)
theorem oX5 : Cond.methodLink RX5 3 objectInit ∈ gw ∧ Cond.instanceMethod objectInit ∈ gw ∧ Cond.code objectInit ⟨#[0xb1]⟩ 1 none ∈ gw := ⟨tm_1 (List.mem_of_getElem? (i := 167) rfl) rfl, tm_1 (List.mem_of_getElem? (i := 24) rfl) rfl, tm_1 (List.mem_of_getElem? (i := 25) rfl) rfl⟩
theorem nX5_9 : FLn RX5 9 5 0 (.array .int) := ⟨RX5, TX5, 5, tyX5, rfl, by decide, tm_1 (List.mem_of_getElem? (i := 170) rfl) rfl, inX5, tyX5_ok, nmX5, Or.inr ⟨rfl, rfl⟩, tyX5_ok 0 (by decide)⟩
theorem nX5_15 : FLn RX5 15 5 1 (.array .int) := ⟨RX5, TX5, 5, tyX5, rfl, by decide, tm_1 (List.mem_of_getElem? (i := 171) rfl) rfl, inX5, tyX5_ok, nmX5, Or.inr ⟨rfl, rfl⟩, tyX5_ok 1 (by decide)⟩
theorem nX5_20 : FLn RX5 20 5 2 (.array (.array .int)) := ⟨RX5, TX5, 5, tyX5, rfl, by decide, tm_1 (List.mem_of_getElem? (i := 172) rfl) rfl, inX5, tyX5_ok, nmX5, Or.inr ⟨rfl, rfl⟩, tyX5_ok 2 (by decide)⟩
theorem nX5_23 : FLn RX5 23 5 3 (.array (.array .int)) := ⟨RX5, TX5, 5, tyX5, rfl, by decide, tm_1 (List.mem_of_getElem? (i := 173) rfl) rfl, inX5, tyX5_ok, nmX5, Or.inr ⟨rfl, rfl⟩, tyX5_ok 3 (by decide)⟩
theorem nX5_26 : FLn RX5 26 5 4 .int := ⟨RX5, TX5, 5, tyX5, rfl, by decide, tm_1 (List.mem_of_getElem? (i := 174) rfl) rfl, inX5, tyX5_ok, nmX5, Or.inl rfl, tyX5_ok 4 (by decide)⟩
abbrev iX6 : MInf := (cX6_init, 4, RX6, none, { frames := 3, cells := 120, slots := 1507, locals := 60 })
theorem dfX6 : ∀ j, j < 10 → defaultValue (tyX6 j) = vp_V [.int (iN 0), .null, .null, .null, .null, .null, .null, .null, .int (iN 0), .int (iN 0)] j := by
  intro j hj
  match j, hj with
  | 0, _ => rfl
  | 1, _ => rfl
  | 2, _ => rfl
  | 3, _ => rfl
  | 4, _ => rfl
  | 5, _ => rfl
  | 6, _ => rfl
  | 7, _ => rfl
  | 8, _ => rfl
  | 9, _ => rfl
  | j + 10, h => exact absurd h (by omega)
theorem oX6 : Cond.methodLink RX6 1 objectInit ∈ gw ∧ Cond.instanceMethod objectInit ∈ gw ∧ Cond.code objectInit ⟨#[0xb1]⟩ 1 none ∈ gw := ⟨tm_1 (List.mem_of_getElem? (i := 23) rfl) rfl, tm_1 (List.mem_of_getElem? (i := 24) rfl) rfl, tm_1 (List.mem_of_getElem? (i := 25) rfl) rfl⟩
theorem nX6_10 : FLn RX6 10 6 2 (.object "FeederOrders$Kinds") := ⟨RX6, TX6, 10, tyX6, rfl, by decide, tm_1 (List.mem_of_getElem? (i := 204) rfl) rfl, inX6, tyX6_ok, nmX6, Or.inr ⟨rfl, rfl⟩, tyX6_ok 2 (by decide)⟩
theorem nX6_19 : FLn RX6 19 6 3 (.object "FeederOrders$Parts") := ⟨RX6, TX6, 10, tyX6, rfl, by decide, tm_1 (List.mem_of_getElem? (i := 205) rfl) rfl, inX6, tyX6_ok, nmX6, Or.inr ⟨rfl, rfl⟩, tyX6_ok 3 (by decide)⟩
theorem nX6_26 : FLn RX6 26 6 4 (.array (.object "FeederOrders$Machine")) := ⟨RX6, TX6, 10, tyX6, rfl, by decide, tm_1 (List.mem_of_getElem? (i := 206) rfl) rfl, inX6, tyX6_ok, nmX6, Or.inr ⟨rfl, rfl⟩, tyX6_ok 4 (by decide)⟩
theorem nX6_33 : FLn RX6 33 6 5 (.object "FeederOrders$Shares") := ⟨RX6, TX6, 10, tyX6, rfl, by decide, tm_1 (List.mem_of_getElem? (i := 207) rfl) rfl, inX6, tyX6_ok, nmX6, Or.inr ⟨rfl, rfl⟩, tyX6_ok 5 (by decide)⟩
theorem nX6_40 : FLn RX6 40 6 6 (.object "FeederOrders$TripPlan") := ⟨RX6, TX6, 10, tyX6, rfl, by decide, tm_1 (List.mem_of_getElem? (i := 208) rfl) rfl, inX6, tyX6_ok, nmX6, Or.inr ⟨rfl, rfl⟩, tyX6_ok 6 (by decide)⟩
theorem nX6_44 : FLn RX6 44 6 7 (.array .int) := ⟨RX6, TX6, 10, tyX6, rfl, by decide, tm_1 (List.mem_of_getElem? (i := 209) rfl) rfl, inX6, tyX6_ok, nmX6, Or.inr ⟨rfl, rfl⟩, tyX6_ok 7 (by decide)⟩
theorem nX6_48 : FLn RX6 48 6 8 .int := ⟨RX6, TX6, 10, tyX6, rfl, by decide, tm_1 (List.mem_of_getElem? (i := 210) rfl) rfl, inX6, tyX6_ok, nmX6, Or.inl rfl, tyX6_ok 8 (by decide)⟩
theorem nX6_52 : FLn RX6 52 6 9 .int := ⟨RX6, TX6, 10, tyX6, rfl, by decide, tm_1 (List.mem_of_getElem? (i := 211) rfl) rfl, inX6, tyX6_ok, nmX6, Or.inl rfl, tyX6_ok 9 (by decide)⟩
theorem nX6_64 : FLn RX6 64 6 0 .int := ⟨RX6, TX6, 10, tyX6, rfl, by decide, tm_1 (List.mem_of_getElem? (i := 202) rfl) rfl, inX6, tyX6_ok, nmX6, Or.inr ⟨rfl, rfl⟩, tyX6_ok 0 (by decide)⟩
theorem nX6_72 : FLn RX6 72 6 1 (.object "FeederOrders$Draws") := ⟨RX6, TX6, 10, tyX6, rfl, by decide, tm_1 (List.mem_of_getElem? (i := 203) rfl) rfl, inX6, tyX6_ok, nmX6, Or.inr ⟨rfl, rfl⟩, tyX6_ok 1 (by decide)⟩
abbrev iX7 : MInf := (cX7_init, 5, RX7, none, { frames := 1, cells := 21, slots := 949, locals := 20 })
theorem dfX7 : ∀ j, j < 29 → defaultValue (tyX7 j) = vp_V [.int (iN 0), .long (jN 0), .int (iN 0), .int (iN 0), .null, .null, .null, .null, .null, .null, .int (iN 0), .null, .null, .null, .null, .int (iN 0), .null, .null, .int (iN 0), .null, .null, .null, .null, .null, .null, .int (iN 0), .null, .null, .null] j := by
  intro j hj
  match j, hj with
  | 0, _ => rfl
  | 1, _ => rfl
  | 2, _ => rfl
  | 3, _ => rfl
  | 4, _ => rfl
  | 5, _ => rfl
  | 6, _ => rfl
  | 7, _ => rfl
  | 8, _ => rfl
  | 9, _ => rfl
  | 10, _ => rfl
  | 11, _ => rfl
  | 12, _ => rfl
  | 13, _ => rfl
  | 14, _ => rfl
  | 15, _ => rfl
  | 16, _ => rfl
  | 17, _ => rfl
  | 18, _ => rfl
  | 19, _ => rfl
  | 20, _ => rfl
  | 21, _ => rfl
  | 22, _ => rfl
  | 23, _ => rfl
  | 24, _ => rfl
  | 25, _ => rfl
  | 26, _ => rfl
  | 27, _ => rfl
  | 28, _ => rfl
  | j + 29, h => exact absurd h (by omega)
theorem oX7 : Cond.methodLink RX7 1 objectInit ∈ gw ∧ Cond.instanceMethod objectInit ∈ gw ∧ Cond.code objectInit ⟨#[0xb1]⟩ 1 none ∈ gw := ⟨tm_3 (List.mem_of_getElem? (i := 213) rfl) rfl, tm_1 (List.mem_of_getElem? (i := 24) rfl) rfl, tm_1 (List.mem_of_getElem? (i := 25) rfl) rfl⟩
theorem nX7_7 : FLn RX7 7 7 4 (.array .int) := ⟨RX7, TX7, 29, tyX7, rfl, by decide, tm_3 (List.mem_of_getElem? (i := 218) rfl) rfl, inX7, tyX7_ok, nmX7, Or.inr ⟨rfl, rfl⟩, tyX7_ok 4 (by decide)⟩
theorem nX7_13 : FLn RX7 13 7 5 (.array .int) := ⟨RX7, TX7, 29, tyX7, rfl, by decide, tm_3 (List.mem_of_getElem? (i := 219) rfl) rfl, inX7, tyX7_ok, nmX7, Or.inr ⟨rfl, rfl⟩, tyX7_ok 5 (by decide)⟩
theorem nX7_16 : FLn RX7 16 7 6 (.array .int) := ⟨RX7, TX7, 29, tyX7, rfl, by decide, tm_3 (List.mem_of_getElem? (i := 220) rfl) rfl, inX7, tyX7_ok, nmX7, Or.inr ⟨rfl, rfl⟩, tyX7_ok 6 (by decide)⟩
theorem nX7_19 : FLn RX7 19 7 7 (.array .int) := ⟨RX7, TX7, 29, tyX7, rfl, by decide, tm_3 (List.mem_of_getElem? (i := 221) rfl) rfl, inX7, tyX7_ok, nmX7, Or.inr ⟨rfl, rfl⟩, tyX7_ok 7 (by decide)⟩
theorem nX7_22 : FLn RX7 22 7 8 (.array .long) := ⟨RX7, TX7, 29, tyX7, rfl, by decide, tm_3 (List.mem_of_getElem? (i := 222) rfl) rfl, inX7, tyX7_ok, nmX7, Or.inr ⟨rfl, rfl⟩, tyX7_ok 8 (by decide)⟩
theorem nX7_26 : FLn RX7 26 7 9 (.array .long) := ⟨RX7, TX7, 29, tyX7, rfl, by decide, tm_3 (List.mem_of_getElem? (i := 223) rfl) rfl, inX7, tyX7_ok, nmX7, Or.inr ⟨rfl, rfl⟩, tyX7_ok 9 (by decide)⟩
theorem nX7_29 : FLn RX7 29 7 11 (.array .int) := ⟨RX7, TX7, 29, tyX7, rfl, by decide, tm_3 (List.mem_of_getElem? (i := 225) rfl) rfl, inX7, tyX7_ok, nmX7, Or.inr ⟨rfl, rfl⟩, tyX7_ok 11 (by decide)⟩
theorem nX7_32 : FLn RX7 32 7 12 (.array .long) := ⟨RX7, TX7, 29, tyX7, rfl, by decide, tm_3 (List.mem_of_getElem? (i := 226) rfl) rfl, inX7, tyX7_ok, nmX7, Or.inr ⟨rfl, rfl⟩, tyX7_ok 12 (by decide)⟩
theorem nX7_35 : FLn RX7 35 7 13 (.array .long) := ⟨RX7, TX7, 29, tyX7, rfl, by decide, tm_3 (List.mem_of_getElem? (i := 227) rfl) rfl, inX7, tyX7_ok, nmX7, Or.inr ⟨rfl, rfl⟩, tyX7_ok 13 (by decide)⟩
theorem nX7_38 : FLn RX7 38 7 14 (.array .long) := ⟨RX7, TX7, 29, tyX7, rfl, by decide, tm_3 (List.mem_of_getElem? (i := 228) rfl) rfl, inX7, tyX7_ok, nmX7, Or.inr ⟨rfl, rfl⟩, tyX7_ok 14 (by decide)⟩
theorem nX7_41 : FLn RX7 41 7 16 (.array .int) := ⟨RX7, TX7, 29, tyX7, rfl, by decide, tm_3 (List.mem_of_getElem? (i := 230) rfl) rfl, inX7, tyX7_ok, nmX7, Or.inr ⟨rfl, rfl⟩, tyX7_ok 16 (by decide)⟩
theorem nX7_44 : FLn RX7 44 7 17 (.array .int) := ⟨RX7, TX7, 29, tyX7, rfl, by decide, tm_3 (List.mem_of_getElem? (i := 231) rfl) rfl, inX7, tyX7_ok, nmX7, Or.inr ⟨rfl, rfl⟩, tyX7_ok 17 (by decide)⟩
theorem nX7_47 : FLn RX7 47 7 19 (.array .int) := ⟨RX7, TX7, 29, tyX7, rfl, by decide, tm_3 (List.mem_of_getElem? (i := 233) rfl) rfl, inX7, tyX7_ok, nmX7, Or.inr ⟨rfl, rfl⟩, tyX7_ok 19 (by decide)⟩
theorem nX7_50 : FLn RX7 50 7 20 (.array .int) := ⟨RX7, TX7, 29, tyX7, rfl, by decide, tm_3 (List.mem_of_getElem? (i := 234) rfl) rfl, inX7, tyX7_ok, nmX7, Or.inr ⟨rfl, rfl⟩, tyX7_ok 20 (by decide)⟩
theorem nX7_53 : FLn RX7 53 7 21 (.array .int) := ⟨RX7, TX7, 29, tyX7, rfl, by decide, tm_3 (List.mem_of_getElem? (i := 235) rfl) rfl, inX7, tyX7_ok, nmX7, Or.inr ⟨rfl, rfl⟩, tyX7_ok 21 (by decide)⟩
theorem nX7_56 : FLn RX7 56 7 22 (.array .int) := ⟨RX7, TX7, 29, tyX7, rfl, by decide, tm_3 (List.mem_of_getElem? (i := 236) rfl) rfl, inX7, tyX7_ok, nmX7, Or.inr ⟨rfl, rfl⟩, tyX7_ok 22 (by decide)⟩
theorem nX7_59 : FLn RX7 59 7 23 (.array .int) := ⟨RX7, TX7, 29, tyX7, rfl, by decide, tm_3 (List.mem_of_getElem? (i := 237) rfl) rfl, inX7, tyX7_ok, nmX7, Or.inr ⟨rfl, rfl⟩, tyX7_ok 23 (by decide)⟩
theorem nX7_62 : FLn RX7 62 7 24 (.array .boolean) := ⟨RX7, TX7, 29, tyX7, rfl, by decide, tm_3 (List.mem_of_getElem? (i := 238) rfl) rfl, inX7, tyX7_ok, nmX7, Or.inr ⟨rfl, rfl⟩, tyX7_ok 24 (by decide)⟩
theorem nX7_66 : FLn RX7 66 7 26 (.array .int) := ⟨RX7, TX7, 29, tyX7, rfl, by decide, tm_4 (List.mem_of_getElem? (i := 0) rfl) rfl, inX7, tyX7_ok, nmX7, Or.inr ⟨rfl, rfl⟩, tyX7_ok 26 (by decide)⟩
theorem nX7_69 : FLn RX7 69 7 27 (.array .long) := ⟨RX7, TX7, 29, tyX7, rfl, by decide, tm_4 (List.mem_of_getElem? (i := 1) rfl) rfl, inX7, tyX7_ok, nmX7, Or.inr ⟨rfl, rfl⟩, tyX7_ok 27 (by decide)⟩
theorem nX7_72 : FLn RX7 72 7 28 (.array .int) := ⟨RX7, TX7, 29, tyX7, rfl, by decide, tm_4 (List.mem_of_getElem? (i := 2) rfl) rfl, inX7, tyX7_ok, nmX7, Or.inr ⟨rfl, rfl⟩, tyX7_ok 28 (by decide)⟩
theorem nX7_75 : FLn RX7 75 7 1 .long := ⟨RX7, TX7, 29, tyX7, rfl, by decide, tm_3 (List.mem_of_getElem? (i := 215) rfl) rfl, inX7, tyX7_ok, nmX7, Or.inl rfl, tyX7_ok 1 (by decide)⟩
theorem nX7_79 : FLn RX7 79 7 2 .int := ⟨RX7, TX7, 29, tyX7, rfl, by decide, tm_3 (List.mem_of_getElem? (i := 216) rfl) rfl, inX7, tyX7_ok, nmX7, Or.inr ⟨rfl, rfl⟩, tyX7_ok 2 (by decide)⟩
theorem lX6_9 : LkN RX6 9 yX1_init iX1 0 := ⟨Or.inr ⟨RX6, fun U h => h.1.1⟩, tm_1 (List.mem_of_getElem? (i := 29) rfl) rfl, tm_1 (List.mem_of_getElem? (i := 2) rfl) rfl, tm_1 (List.mem_of_getElem? (i := 30) rfl) rfl, rfl, rfl, by decide +kernel, by decide +kernel, by decide +kernel⟩
theorem lX6_18 : LkN RX6 18 yX3_init iX3 0 := ⟨Or.inr ⟨RX6, fun U h => h.1.2.1⟩, tm_1 (List.mem_of_getElem? (i := 65) rfl) rfl, tm_1 (List.mem_of_getElem? (i := 3) rfl) rfl, tm_1 (List.mem_of_getElem? (i := 66) rfl) rfl, rfl, rfl, by decide +kernel, by decide +kernel, by decide +kernel⟩
theorem lX6_25 : LkN RX6 25 yX2_init iX2 0 := ⟨Or.inl (tm_1 (List.mem_of_getElem? (i := 91) rfl) rfl), tm_1 (List.mem_of_getElem? (i := 92) rfl) rfl, tm_1 (List.mem_of_getElem? (i := 4) rfl) rfl, tm_1 (List.mem_of_getElem? (i := 93) rfl) rfl, rfl, rfl, by decide +kernel, by decide +kernel, by decide +kernel⟩
theorem lX6_32 : LkN RX6 32 yX4_init iX4 0 := ⟨Or.inr ⟨RX6, fun U h => h.1.2.2.1⟩, tm_1 (List.mem_of_getElem? (i := 133) rfl) rfl, tm_1 (List.mem_of_getElem? (i := 6) rfl) rfl, tm_1 (List.mem_of_getElem? (i := 134) rfl) rfl, rfl, rfl, by decide +kernel, by decide +kernel, by decide +kernel⟩
theorem lX6_39 : LkN RX6 39 yX5_init iX5 0 := ⟨Or.inr ⟨RX6, fun U h => h.1.2.2.2⟩, tm_1 (List.mem_of_getElem? (i := 165) rfl) rfl, tm_1 (List.mem_of_getElem? (i := 7) rfl) rfl, tm_1 (List.mem_of_getElem? (i := 166) rfl) rfl, rfl, rfl, by decide +kernel, by decide +kernel, by decide +kernel⟩
theorem lX6_69 : LkN RX6 69 yX0_init iX0 1 := ⟨Or.inl (tm_1 (List.mem_of_getElem? (i := 194) rfl) rfl), tm_1 (List.mem_of_getElem? (i := 195) rfl) rfl, tm_1 (List.mem_of_getElem? (i := 9) rfl) rfl, tm_1 (List.mem_of_getElem? (i := 196) rfl) rfl, rfl, rfl, by decide +kernel, by decide +kernel, by decide +kernel⟩
def rw4 : Nat → Int := fun j => if j = 4 then 1 else 0
def rwN : Nat → Int := fun j => if j < 10 then -1 else 0
def rw0 (v : Int) : Nat → Int := fun j => if j = 0 then v else 0
def L0d : Lay := (1, fun _ _ r => .inr (0, fsX0 r))
def V0d (v : Int) : Mem := fun k => if k = 0 then rw0 v else fun _ => 0
def L1k (τ : Nat → ClassId) : Lay := (7, fun a k r => if k = 0 then .inr (1, [.ref (a 1), .ref (a 2), .ref (a 3), .ref (a 4), .ref (a 5), .ref (a 6), .int (iN (r 6))]) else arI (τ 0) 10 r)
def L3p (τ : Nat → ClassId) : Lay := (5, fun a k r => if k = 0 then .inr (3, [.ref (a 1), .ref (a 2), .ref (a 3), .ref (a 4), .int (iN (r 4))]) else arI (τ 0) 40 r)
def L2m (τ : Nat → ClassId) : Lay := (4, fun a k r => if k = 0 then .inr (2, [.ref (a 1), .ref (a 2), .ref (a 3), .int (iN (r 3)), .int (iN (r 4)), .int (iN (r 5)), .int (iN (r 6))]) else if k = 1 then arI (τ 0) 40 r else arI (τ 0) 10 r)
def V2m : Mem := fun k => if k = 0 then rw4 else if k = 2 then rwN else fun _ => 0
def L4s (τ : Nat → ClassId) : Lay := (17, fun a k r => if k = 0 then .inr (4, [.ref (a 1), .ref (a 2), .ref (a 3), .ref (a 4), .ref (a 5), .int (iN (r 5)), .int (iN (r 6))]) else if k < 5 then arI (τ 0) 10 r else if k = 5 then arQ (τ 5) 11 (fun j => 6 + j) a else arL (τ 1) 41 r)
def L5t (τ : Nat → ClassId) : Lay := (76, fun a k r => if k = 0 then .inr (5, [.ref (a 1), .ref (a 2), .ref (a 3), .ref (a 11), .int (iN (r 4))]) else if k < 3 then arI (τ 0) 6 r else if k = 3 then arQ (τ 4) 7 (fun j => 4 + j) a else if k < 11 then arI (τ 0) 7 r else if k = 11 then arQ (τ 4) 64 (fun j => 12 + j) a else arI (τ 0) 6 r)
def V6x (sd sl : Int) : Mem := fun k => if k = 0 then rw0 (max 1 (min 120 sl)) else if k = 1 then rw0 sd else if k = 15 ∨ k = 19 ∨ k = 23 then rw4 else if k = 17 ∨ k = 21 ∨ k = 25 then rwN else fun _ => 0
def allP (P : Nat → Prop) : Nat → Prop
  | 0 => True
  | n + 1 => allP P n ∧ P n
theorem allP_at {P : Nat → Prop} : ∀ {n : Nat}, allP P n → ∀ k, k < n → P k
  | 0, _, k, h => absurd h (Nat.not_lt_zero _)
  | n + 1, h, k, hk => by
    by_cases e : k = n
    · subst e; exact h.2
    · exact allP_at h.1 k (by omega)
theorem g_perm {l : Launch} {D : va_G} {tys : List (ClassId × FieldType)} {a : Nat → Nat} {M : MInf} {x : Ctx} {pc : Nat} {lv : List (Nat × Value)} {st : List Value} {V : Mem} {E : Nat → (Nat → Int) → va_E} {n : Nat} (π : Nat → Nat) (h1 : ∀ k, k < n → π k < n) (h2 : ∀ i j, i < n → j < n → π i = π j → i = j) (k : G l D tys (cE n (fun k => E (π k))) (fun k => a (π k)) M x pc lv st (fun k => V (π k))) : G l D tys (cE n E) a M x pc lv st V := by
  obtain ⟨p, e, s, m, args, below, meth, c, cells, slots, Q, A⟩ := x
  refine fun cx ls H locs hl hP hS => k ⟨cx.1, cx.2.1, cx.2.2.1, cx.2.2.2.1, cx.2.2.2.2.1, cx.2.2.2.2.2.1, fun i j hi hj e => h2 i j hi hj (cx.2.2.2.2.2.2.1 _ _ (h1 i hi) (h1 j hj) e), fun i hi => cx.2.2.2.2.2.2.2.1 _ (h1 i hi), cx.2.2.2.2.2.2.2.2⟩ ls H locs hl ?_ hS
  rw [wsP] at hP ⊢
  intro i hi
  exact hP (π i) (h1 i hi)
theorem inn_int {c : ClassId} {K : Nat} (z : Nat → Int) (h : ∀ j, z j = 0 := by intro j; rfl) : vp_cell c (K, .inl (fun j => iN (z j))) = Jvm.Free.Multi.innerC c K (defaultValue .int) := by
  rw [vp_cell_i]
  show _ = ({ cls := c, slots := Array.replicate K (defaultValue .int), vm := .none } : Cell)
  rw [arrV_new]
  exact arrV_congr (fun j _ => by rw [h j]; rfl)
theorem inn_long {c : ClassId} {K : Nat} (z : Nat → Int) (h : ∀ j, z j = 0 := by intro j; rfl) : vp_cell c (K, .inr (.inl (fun j => jN (z j)))) = Jvm.Free.Multi.innerC c K (defaultValue .long) := by
  rw [vp_cell_l]
  show _ = ({ cls := c, slots := Array.replicate K (defaultValue .long), vm := .none } : Cell)
  rw [arrV_new]
  exact arrV_congr (fun j _ => by rw [h j]; rfl)
set_option maxHeartbeats 8000000 in
set_option maxRecDepth 100000 in
/-- Draws(seed) -/
theorem met_X0_init {l : Launch} {D : va_G} {τ : Nat → ClassId} (o : Nat) (v : Int) : CN l D (tysL τ) L0d (V0d v) yX0_init iX0 o [.long (jN v)] (.inr (0, [.long (jN 0)])) := by
  refine CN.of (by decide +kernel) rfl rfl (Nat.le_of_ble_eq_true rfl) (fun x hq => ?_)
  have z0 := hq.zer
  have z1 := hq.ini
  have z2 := hq.nst
  show G l D (tysL τ) (cE 1 (fun _ _ => .inr (0, [.long (jN 0)]))) (fun _ => o) iX0 (bmp x 0 0) 0 [(0, .ref o), (1, .long (jN v))] [] Z0
  refine g_aload_n 0 dX0_init_0 rfl rfl ?_
  refine g_objI oX0 ⟨by decide, by decide⟩ (Nat.le_of_ble_eq_true rfl) dX0_init_1 ?_
  refine g_aload_n 0 dX0_init_4 rfl rfl ?_
  refine g_lload_n 1 dX0_init_5 rfl rfl ?_
  refine g_putE (fs := [.long (jN 0)]) 0 (.long (jN v)) z1 nX0_7 (by decide) rfl dX0_init_6 rfl rfl (Nat.le_of_ble_eq_true rfl) ?_
  refine g_retN hq ⟨rfl, rfl⟩ rfl (by decide) rfl (allP_at ?_) rfl dX0_init_9
  exact And.intro (trivial) (eqv.of rfl)
set_option maxHeartbeats 8000000 in
set_option maxRecDepth 100000 in
/-- Kinds() -/
theorem met_X1_init {l : Launch} {D : va_G} {τ : Nat → ClassId} (o : Nat) : CN l D (tysL τ) (L1k τ) Z0 yX1_init iX1 o [] (.inr (1, [.null, .null, .null, .null, .null, .null, .int (iN 0)])) := by
  refine CN.of (by decide +kernel) rfl rfl (Nat.le_of_ble_eq_true rfl) (fun x hq => ?_)
  have z0 := hq.zer
  have z1 := hq.ini
  have z2 := hq.nst
  show G l D (tysL τ) (cE 1 (fun _ _ => .inr (1, [.null, .null, .null, .null, .null, .null, .int (iN 0)]))) (fun _ => o) iX1 (bmp x 0 0) 0 [(0, .ref o)] [] Z0
  refine g_aload_n 0 dX1_init_0 rfl rfl ?_
  refine g_objI oX1 ⟨by decide, by decide⟩ (Nat.le_of_ble_eq_true rfl) dX1_init_1 ?_
  refine g_aload_n 0 dX1_init_4 rfl rfl ?_
  refine g_bipush dX1_init_5 (by decide) ?_
  refine g_newA (t := 0) (N := 10) (ty := .int) (v := arI (τ 0) 10) z0 rfl (fun C h => by cases h) rfl (tm_1 (List.mem_of_getElem? (i := 61) rfl) rfl) (by decide) (by decide) ⟨_, rfl, rfl⟩ ⟨by decide, by decide⟩ dX1_init_7 (fun q1 => ?_)
  refine g_putE (fs := [.null, .null, .null, .null, .null, .null, .int (iN 0)]) 0 (.ref q1) z1 nX1_9 (by decide) rfl dX1_init_9 rfl rfl (Nat.le_of_ble_eq_true rfl) ?_
  refine g_aload_n 0 dX1_init_12 rfl rfl ?_
  refine g_bipush dX1_init_13 (by decide) ?_
  refine g_newA (t := 0) (N := 10) (ty := .int) (v := arI (τ 0) 10) z0 rfl (fun C h => by cases h) rfl (tm_1 (List.mem_of_getElem? (i := 61) rfl) rfl) (by decide) (by decide) ⟨_, rfl, rfl⟩ ⟨by decide, by decide⟩ dX1_init_15 (fun q2 => ?_)
  refine g_putE (fs := [.ref q1, .null, .null, .null, .null, .null, .int (iN 0)]) 0 (.ref q2) z1 nX1_15 (by decide) rfl dX1_init_17 rfl rfl (Nat.le_of_ble_eq_true rfl) ?_
  refine g_aload_n 0 dX1_init_20 rfl rfl ?_
  refine g_bipush dX1_init_21 (by decide) ?_
  refine g_newA (t := 0) (N := 10) (ty := .int) (v := arI (τ 0) 10) z0 rfl (fun C h => by cases h) rfl (tm_1 (List.mem_of_getElem? (i := 61) rfl) rfl) (by decide) (by decide) ⟨_, rfl, rfl⟩ ⟨by decide, by decide⟩ dX1_init_23 (fun q3 => ?_)
  refine g_putE (fs := [.ref q1, .ref q2, .null, .null, .null, .null, .int (iN 0)]) 0 (.ref q3) z1 nX1_18 (by decide) rfl dX1_init_25 rfl rfl (Nat.le_of_ble_eq_true rfl) ?_
  refine g_aload_n 0 dX1_init_28 rfl rfl ?_
  refine g_bipush dX1_init_29 (by decide) ?_
  refine g_newA (t := 0) (N := 10) (ty := .int) (v := arI (τ 0) 10) z0 rfl (fun C h => by cases h) rfl (tm_1 (List.mem_of_getElem? (i := 61) rfl) rfl) (by decide) (by decide) ⟨_, rfl, rfl⟩ ⟨by decide, by decide⟩ dX1_init_31 (fun q4 => ?_)
  refine g_putE (fs := [.ref q1, .ref q2, .ref q3, .null, .null, .null, .int (iN 0)]) 0 (.ref q4) z1 nX1_21 (by decide) rfl dX1_init_33 rfl rfl (Nat.le_of_ble_eq_true rfl) ?_
  refine g_aload_n 0 dX1_init_36 rfl rfl ?_
  refine g_bipush dX1_init_37 (by decide) ?_
  refine g_newA (t := 0) (N := 10) (ty := .int) (v := arI (τ 0) 10) z0 rfl (fun C h => by cases h) rfl (tm_1 (List.mem_of_getElem? (i := 61) rfl) rfl) (by decide) (by decide) ⟨_, rfl, rfl⟩ ⟨by decide, by decide⟩ dX1_init_39 (fun q5 => ?_)
  refine g_putE (fs := [.ref q1, .ref q2, .ref q3, .ref q4, .null, .null, .int (iN 0)]) 0 (.ref q5) z1 nX1_24 (by decide) rfl dX1_init_41 rfl rfl (Nat.le_of_ble_eq_true rfl) ?_
  refine g_aload_n 0 dX1_init_44 rfl rfl ?_
  refine g_bipush dX1_init_45 (by decide) ?_
  refine g_newA (t := 0) (N := 10) (ty := .int) (v := arI (τ 0) 10) z0 rfl (fun C h => by cases h) rfl (tm_1 (List.mem_of_getElem? (i := 61) rfl) rfl) (by decide) (by decide) ⟨_, rfl, rfl⟩ ⟨by decide, by decide⟩ dX1_init_47 (fun q6 => ?_)
  refine g_putE (fs := [.ref q1, .ref q2, .ref q3, .ref q4, .ref q5, .null, .int (iN 0)]) 0 (.ref q6) z1 nX1_27 (by decide) rfl dX1_init_49 rfl rfl (Nat.le_of_ble_eq_true rfl) ?_
  refine g_aload_n 0 dX1_init_52 rfl rfl ?_
  refine g_iconst dX1_init_53 ?_
  refine g_putE (fs := [.ref q1, .ref q2, .ref q3, .ref q4, .ref q5, .ref q6, .int (iN 0)]) 0 (.int (iN 0)) z1 nX1_30 (by decide) rfl dX1_init_54 rfl rfl (Nat.le_of_ble_eq_true rfl) ?_
  refine g_retN hq ⟨rfl, rfl⟩ rfl (by decide) rfl (allP_at ?_) rfl dX1_init_57
  exact And.intro (And.intro (And.intro (And.intro (And.intro (And.intro (And.intro (trivial) (eqv.of rfl)) (eqv.of rfl)) (eqv.of rfl)) (eqv.of rfl)) (eqv.of rfl)) (eqv.of rfl)) (eqv.of rfl)
set_option maxHeartbeats 8000000 in
set_option maxRecDepth 100000 in
/-- Parts() -/
theorem met_X3_init {l : Launch} {D : va_G} {τ : Nat → ClassId} (o : Nat) : CN l D (tysL τ) (L3p τ) Z0 yX3_init iX3 o [] (.inr (3, [.null, .null, .null, .null, .int (iN 0)])) := by
  refine CN.of (by decide +kernel) rfl rfl (Nat.le_of_ble_eq_true rfl) (fun x hq => ?_)
  have z0 := hq.zer
  have z1 := hq.ini
  have z2 := hq.nst
  show G l D (tysL τ) (cE 1 (fun _ _ => .inr (3, [.null, .null, .null, .null, .int (iN 0)]))) (fun _ => o) iX3 (bmp x 0 0) 0 [(0, .ref o)] [] Z0
  refine g_aload_n 0 dX3_init_0 rfl rfl ?_
  refine g_objI oX3 ⟨by decide, by decide⟩ (Nat.le_of_ble_eq_true rfl) dX3_init_1 ?_
  refine g_aload_n 0 dX3_init_4 rfl rfl ?_
  refine g_bipush dX3_init_5 (by decide) ?_
  refine g_newA (t := 0) (N := 40) (ty := .int) (v := arI (τ 0) 40) z0 rfl (fun C h => by cases h) rfl (tm_1 (List.mem_of_getElem? (i := 61) rfl) rfl) (by decide) (by decide) ⟨_, rfl, rfl⟩ ⟨by decide, by decide⟩ dX3_init_7 (fun q1 => ?_)
  refine g_putE (fs := [.null, .null, .null, .null, .int (iN 0)]) 0 (.ref q1) z1 nX3_9 (by decide) rfl dX3_init_9 rfl rfl (Nat.le_of_ble_eq_true rfl) ?_
  refine g_aload_n 0 dX3_init_12 rfl rfl ?_
  refine g_bipush dX3_init_13 (by decide) ?_
  refine g_newA (t := 0) (N := 40) (ty := .int) (v := arI (τ 0) 40) z0 rfl (fun C h => by cases h) rfl (tm_1 (List.mem_of_getElem? (i := 61) rfl) rfl) (by decide) (by decide) ⟨_, rfl, rfl⟩ ⟨by decide, by decide⟩ dX3_init_15 (fun q2 => ?_)
  refine g_putE (fs := [.ref q1, .null, .null, .null, .int (iN 0)]) 0 (.ref q2) z1 nX3_15 (by decide) rfl dX3_init_17 rfl rfl (Nat.le_of_ble_eq_true rfl) ?_
  refine g_aload_n 0 dX3_init_20 rfl rfl ?_
  refine g_bipush dX3_init_21 (by decide) ?_
  refine g_newA (t := 0) (N := 40) (ty := .int) (v := arI (τ 0) 40) z0 rfl (fun C h => by cases h) rfl (tm_1 (List.mem_of_getElem? (i := 61) rfl) rfl) (by decide) (by decide) ⟨_, rfl, rfl⟩ ⟨by decide, by decide⟩ dX3_init_23 (fun q3 => ?_)
  refine g_putE (fs := [.ref q1, .ref q2, .null, .null, .int (iN 0)]) 0 (.ref q3) z1 nX3_18 (by decide) rfl dX3_init_25 rfl rfl (Nat.le_of_ble_eq_true rfl) ?_
  refine g_aload_n 0 dX3_init_28 rfl rfl ?_
  refine g_bipush dX3_init_29 (by decide) ?_
  refine g_newA (t := 0) (N := 40) (ty := .int) (v := arI (τ 0) 40) z0 rfl (fun C h => by cases h) rfl (tm_1 (List.mem_of_getElem? (i := 61) rfl) rfl) (by decide) (by decide) ⟨_, rfl, rfl⟩ ⟨by decide, by decide⟩ dX3_init_31 (fun q4 => ?_)
  refine g_putE (fs := [.ref q1, .ref q2, .ref q3, .null, .int (iN 0)]) 0 (.ref q4) z1 nX3_21 (by decide) rfl dX3_init_33 rfl rfl (Nat.le_of_ble_eq_true rfl) ?_
  refine g_aload_n 0 dX3_init_36 rfl rfl ?_
  refine g_iconst dX3_init_37 ?_
  refine g_putE (fs := [.ref q1, .ref q2, .ref q3, .ref q4, .int (iN 0)]) 0 (.int (iN 0)) z1 nX3_24 (by decide) rfl dX3_init_38 rfl rfl (Nat.le_of_ble_eq_true rfl) ?_
  refine g_retN hq ⟨rfl, rfl⟩ rfl (by decide) rfl (allP_at ?_) rfl dX3_init_41
  exact And.intro (And.intro (And.intro (And.intro (And.intro (trivial) (eqv.of rfl)) (eqv.of rfl)) (eqv.of rfl)) (eqv.of rfl)) (eqv.of rfl)
theorem g_apart {l : Launch} {D : va_G} {tys : List (ClassId × FieldType)} {L : Lay} {a : Nat → Nat} {M : MInf} {x : Ctx} {pc : Nat} {lv : List (Nat × Value)} {st : List Value} {V : Mem} (k : Apart L a → G l D tys L a M x pc lv st V) : G l D tys L a M x pc lv st V := by
  obtain ⟨p, e, s, m, args, below, meth, c, cells, slots, Q, A⟩ := x
  exact fun cx ls H locs hl hP hS => k cx.2.2.2.2.2.2.1 cx ls H locs hl hP hS
set_option maxHeartbeats 8000000 in
set_option maxRecDepth 100000 in
/-- Machine() -/
theorem met_X2_init {l : Launch} {D : va_G} {τ : Nat → ClassId} (o : Nat) : CN l D (tysL τ) (L2m τ) V2m yX2_init iX2 o [] (.inr (2, [.null, .null, .null, .int (iN 0), .int (iN 0), .int (iN 0), .int (iN 0)])) := by
  refine CN.of (by decide +kernel) rfl rfl (Nat.le_of_ble_eq_true rfl) (fun x hq => ?_)
  have z0 := hq.zer
  have z1 := hq.ini
  have z2 := hq.nst
  show G l D (tysL τ) (cE 1 (fun _ _ => .inr (2, [.null, .null, .null, .int (iN 0), .int (iN 0), .int (iN 0), .int (iN 0)]))) (fun _ => o) iX2 (bmp x 0 0) 0 [(0, .ref o)] [] Z0
  refine g_aload_n 0 dX2_init_0 rfl rfl ?_
  refine g_objI oX2 ⟨by decide, by decide⟩ (Nat.le_of_ble_eq_true rfl) dX2_init_1 ?_
  refine g_aload_n 0 dX2_init_4 rfl rfl ?_
  refine g_bipush dX2_init_5 (by decide) ?_
  refine g_newA (t := 0) (N := 40) (ty := .int) (v := arI (τ 0) 40) z0 rfl (fun C h => by cases h) rfl (tm_1 (List.mem_of_getElem? (i := 61) rfl) rfl) (by decide) (by decide) ⟨_, rfl, rfl⟩ ⟨by decide, by decide⟩ dX2_init_7 (fun q1 => ?_)
  refine g_putE (fs := [.null, .null, .null, .int (iN 0), .int (iN 0), .int (iN 0), .int (iN 0)]) 0 (.ref q1) z1 nX2_9 (by decide) rfl dX2_init_9 rfl rfl (Nat.le_of_ble_eq_true rfl) ?_
  refine g_aload_n 0 dX2_init_12 rfl rfl ?_
  refine g_bipush dX2_init_13 (by decide) ?_
  refine g_newA (t := 0) (N := 10) (ty := .int) (v := arI (τ 0) 10) z0 rfl (fun C h => by cases h) rfl (tm_1 (List.mem_of_getElem? (i := 61) rfl) rfl) (by decide) (by decide) ⟨_, rfl, rfl⟩ ⟨by decide, by decide⟩ dX2_init_15 (fun q2 => ?_)
  refine g_putE (fs := [.ref q1, .null, .null, .int (iN 0), .int (iN 0), .int (iN 0), .int (iN 0)]) 0 (.ref q2) z1 nX2_15 (by decide) rfl dX2_init_17 rfl rfl (Nat.le_of_ble_eq_true rfl) ?_
  refine g_aload_n 0 dX2_init_20 rfl rfl ?_
  refine g_bipush dX2_init_21 (by decide) ?_
  refine g_newA (t := 0) (N := 10) (ty := .int) (v := arI (τ 0) 10) z0 rfl (fun C h => by cases h) rfl (tm_1 (List.mem_of_getElem? (i := 61) rfl) rfl) (by decide) (by decide) ⟨_, rfl, rfl⟩ ⟨by decide, by decide⟩ dX2_init_23 (fun q3 => ?_)
  refine g_putE (fs := [.ref q1, .ref q2, .null, .int (iN 0), .int (iN 0), .int (iN 0), .int (iN 0)]) 0 (.ref q3) z1 nX2_18 (by decide) rfl dX2_init_25 rfl rfl (Nat.le_of_ble_eq_true rfl) ?_
  refine g_aload_n 0 dX2_init_28 rfl rfl ?_
  refine g_iconst dX2_init_29 ?_
  refine g_putE (fs := [.ref q1, .ref q2, .ref q3, .int (iN 0), .int (iN 0), .int (iN 0), .int (iN 0)]) 0 (.int (iN 0)) z1 nX2_21 (by decide) rfl dX2_init_30 rfl rfl (Nat.le_of_ble_eq_true rfl) ?_
  refine g_aload_n 0 dX2_init_33 rfl rfl ?_
  refine g_iconst dX2_init_34 ?_
  refine g_putE (fs := [.ref q1, .ref q2, .ref q3, .int (iN 0), .int (iN 0), .int (iN 0), .int (iN 0)]) 0 (.int (iN 1)) z1 nX2_25 (by decide) rfl dX2_init_35 rfl rfl (Nat.le_of_ble_eq_true rfl) ?_
  refine g_aload_n 0 dX2_init_38 rfl rfl ?_
  refine g_iconst dX2_init_39 ?_
  refine g_putE (fs := [.ref q1, .ref q2, .ref q3, .int (iN 0), .int (iN 1), .int (iN 0), .int (iN 0)]) 0 (.int (iN 0)) z1 nX2_28 (by decide) rfl dX2_init_40 rfl rfl (Nat.le_of_ble_eq_true rfl) ?_
  refine g_aload_n 0 dX2_init_43 rfl rfl ?_
  refine g_iconst dX2_init_44 ?_
  refine g_putE (fs := [.ref q1, .ref q2, .ref q3, .int (iN 0), .int (iN 1), .int (iN 0), .int (iN 0)]) 0 (.int (iN 0)) z1 nX2_31 (by decide) rfl dX2_init_45 rfl rfl (Nat.le_of_ble_eq_true rfl) ?_
  refine g_aload_n 0 dX2_init_48 rfl rfl ?_
  refine g_getf 0 (.ref q2) fX2_15 (fs := fun _ => [.ref q1, .ref q2, .ref q3, .int (iN 0), .int (iN 1), .int (iN 0), .int (iN 0)]) ⟨Nat.le_of_ble_eq_true rfl, fun r => rfl⟩ dX2_init_49 rfl ?_
  refine g_iconst dX2_init_52 ?_
  refine g_apart (fun ha => ?_)
  refine g_callXV [.ref q2, .int (iN (-1))] (met_J0_fill ha (k := 2) (n := 10) ⟨Nat.le_of_ble_eq_true rfl, by decide, τ 0, 0, rfl, fun r => rfl⟩ (-1)) vX2_34 ⟨rfl, rfl, by decide, by decide⟩ rfl (Nat.le_of_ble_eq_true rfl) dX2_init_53 rfl (fun V1 hV1 => ?_)
  subst hV1
  refine g_retN hq ⟨rfl, rfl⟩ rfl (by decide) rfl (allP_at ?_) rfl dX2_init_56
  exact And.intro (And.intro (And.intro (And.intro (trivial) (eqv.of rfl)) (eqv.i (fun j hj => by show fillM Z0 2 10 (-1) 1 j = 0; rw [fillM_ne (Or.inl (by decide))]; rfl))) (eqv.i (fun j hj => by show fillM Z0 2 10 (-1) 2 j = rwN j; rw [fillM_in hj]; exact (if_pos hj).symm))) (eqv.i (fun j hj => by show fillM Z0 2 10 (-1) 3 j = 0; rw [fillM_ne (Or.inl (by decide))]; rfl))
set_option maxHeartbeats 8000000 in
set_option maxRecDepth 100000 in
/-- Shares() -/
theorem met_X4_init {l : Launch} {D : va_G} {τ : Nat → ClassId} (o : Nat) : CN l D (tysL τ) (L4s τ) Z0 yX4_init iX4 o [] (.inr (4, [.null, .null, .null, .null, .null, .int (iN 0), .int (iN 0)])) := by
  refine CN.of (by decide +kernel) rfl rfl (Nat.le_of_ble_eq_true rfl) (fun x hq => ?_)
  have z0 := hq.zer
  have z1 := hq.ini
  have z2 := hq.nst
  show G l D (tysL τ) (cE 1 (fun _ _ => .inr (4, [.null, .null, .null, .null, .null, .int (iN 0), .int (iN 0)]))) (fun _ => o) iX4 (bmp x 0 0) 0 [(0, .ref o)] [] Z0
  refine g_aload_n 0 dX4_init_0 rfl rfl ?_
  refine g_objI oX4 ⟨by decide, by decide⟩ (Nat.le_of_ble_eq_true rfl) dX4_init_1 ?_
  refine g_aload_n 0 dX4_init_4 rfl rfl ?_
  refine g_bipush dX4_init_5 (by decide) ?_
  refine g_newA (t := 0) (N := 10) (ty := .int) (v := arI (τ 0) 10) z0 rfl (fun C h => by cases h) rfl (tm_1 (List.mem_of_getElem? (i := 61) rfl) rfl) (by decide) (by decide) ⟨_, rfl, rfl⟩ ⟨by decide, by decide⟩ dX4_init_7 (fun q1 => ?_)
  refine g_putE (fs := [.null, .null, .null, .null, .null, .int (iN 0), .int (iN 0)]) 0 (.ref q1) z1 nX4_9 (by decide) rfl dX4_init_9 rfl rfl (Nat.le_of_ble_eq_true rfl) ?_
  refine g_aload_n 0 dX4_init_12 rfl rfl ?_
  refine g_bipush dX4_init_13 (by decide) ?_
  refine g_newA (t := 0) (N := 10) (ty := .int) (v := arI (τ 0) 10) z0 rfl (fun C h => by cases h) rfl (tm_1 (List.mem_of_getElem? (i := 61) rfl) rfl) (by decide) (by decide) ⟨_, rfl, rfl⟩ ⟨by decide, by decide⟩ dX4_init_15 (fun q2 => ?_)
  refine g_putE (fs := [.ref q1, .null, .null, .null, .null, .int (iN 0), .int (iN 0)]) 0 (.ref q2) z1 nX4_15 (by decide) rfl dX4_init_17 rfl rfl (Nat.le_of_ble_eq_true rfl) ?_
  refine g_aload_n 0 dX4_init_20 rfl rfl ?_
  refine g_bipush dX4_init_21 (by decide) ?_
  refine g_newA (t := 0) (N := 10) (ty := .int) (v := arI (τ 0) 10) z0 rfl (fun C h => by cases h) rfl (tm_1 (List.mem_of_getElem? (i := 61) rfl) rfl) (by decide) (by decide) ⟨_, rfl, rfl⟩ ⟨by decide, by decide⟩ dX4_init_23 (fun q3 => ?_)
  refine g_putE (fs := [.ref q1, .ref q2, .null, .null, .null, .int (iN 0), .int (iN 0)]) 0 (.ref q3) z1 nX4_18 (by decide) rfl dX4_init_25 rfl rfl (Nat.le_of_ble_eq_true rfl) ?_
  refine g_aload_n 0 dX4_init_28 rfl rfl ?_
  refine g_bipush dX4_init_29 (by decide) ?_
  refine g_newA (t := 0) (N := 10) (ty := .int) (v := arI (τ 0) 10) z0 rfl (fun C h => by cases h) rfl (tm_1 (List.mem_of_getElem? (i := 61) rfl) rfl) (by decide) (by decide) ⟨_, rfl, rfl⟩ ⟨by decide, by decide⟩ dX4_init_31 (fun q4 => ?_)
  refine g_putE (fs := [.ref q1, .ref q2, .ref q3, .null, .null, .int (iN 0), .int (iN 0)]) 0 (.ref q4) z1 nX4_21 (by decide) rfl dX4_init_33 rfl rfl (Nat.le_of_ble_eq_true rfl) ?_
  refine g_aload_n 0 dX4_init_36 rfl rfl ?_
  refine g_bipush dX4_init_37 (by decide) ?_
  refine g_bipush dX4_init_39 (by decide) ?_
  refine g_mna (t := 5) (t1 := 1) (N := 11) (K := 41) (ty := .long) (v := arL (τ 1) 41) z0 z2 (fun U h => h.2.2.2) (fun C h => by cases h) rfl rfl rfl ⟨tm_1 (List.mem_of_getElem? (i := 136) rfl) rfl, tm_1 (List.mem_of_getElem? (i := 161) rfl) rfl⟩ ⟨by decide, by decide⟩ (by decide) rfl rfl (fun j hj => ⟨_, rfl, inn_long _⟩) ⟨by decide, by decide⟩ dX4_init_41 (fun q5 r5 => ?_)
  refine g_putE (fs := [.ref q1, .ref q2, .ref q3, .ref q4, .null, .int (iN 0), .int (iN 0)]) 0 (.ref q5) z1 nX4_26 (by decide) rfl dX4_init_45 rfl rfl (Nat.le_of_ble_eq_true rfl) ?_
  refine g_aload_n 0 dX4_init_48 rfl rfl ?_
  refine g_iconst dX4_init_49 ?_
  refine g_putE (fs := [.ref q1, .ref q2, .ref q3, .ref q4, .ref q5, .int (iN 0), .int (iN 0)]) 0 (.int (iN 0)) z1 nX4_29 (by decide) rfl dX4_init_50 rfl rfl (Nat.le_of_ble_eq_true rfl) ?_
  refine g_aload_n 0 dX4_init_53 rfl rfl ?_
  refine g_iconst dX4_init_54 ?_
  refine g_putE (fs := [.ref q1, .ref q2, .ref q3, .ref q4, .ref q5, .int (iN 0), .int (iN 0)]) 0 (.int (iN 0)) z1 nX4_33 (by decide) rfl dX4_init_55 rfl rfl (Nat.le_of_ble_eq_true rfl) ?_
  refine g_retN hq ⟨rfl, rfl⟩ rfl (by decide) rfl (allP_at ?_) rfl dX4_init_58
  exact And.intro (And.intro (And.intro (And.intro (And.intro (And.intro (And.intro (And.intro (And.intro (And.intro (And.intro (And.intro (And.intro (And.intro (And.intro (And.intro (And.intro (trivial) (eqv.of rfl)) (eqv.of rfl)) (eqv.of rfl)) (eqv.of rfl)) (eqv.of rfl)) (eqv.q (fun j hj => by show some (r5 j) = some (mA _ 5 q5 r5 (6 + j)); unfold mA; rw [if_neg (by omega), if_neg (by omega)]; congr 2; omega))) (eqv.of rfl)) (eqv.of rfl)) (eqv.of rfl)) (eqv.of rfl)) (eqv.of rfl)) (eqv.of rfl)) (eqv.of rfl)) (eqv.of rfl)) (eqv.of rfl)) (eqv.of rfl)) (eqv.of rfl)
set_option maxHeartbeats 8000000 in
set_option maxRecDepth 100000 in
/-- TripPlan() -/
theorem met_X5_init {l : Launch} {D : va_G} {τ : Nat → ClassId} (o : Nat) : CN l D (tysL τ) (L5t τ) Z0 yX5_init iX5 o [] (.inr (5, [.null, .null, .null, .null, .int (iN 0)])) := by
  refine CN.of (by decide +kernel) rfl rfl (Nat.le_of_ble_eq_true rfl) (fun x hq => ?_)
  have z0 := hq.zer
  have z1 := hq.ini
  have z2 := hq.nst
  show G l D (tysL τ) (cE 1 (fun _ _ => .inr (5, [.null, .null, .null, .null, .int (iN 0)]))) (fun _ => o) iX5 (bmp x 0 0) 0 [(0, .ref o)] [] Z0
  refine g_aload_n 0 dX5_init_0 rfl rfl ?_
  refine g_objI oX5 ⟨by decide, by decide⟩ (Nat.le_of_ble_eq_true rfl) dX5_init_1 ?_
  refine g_aload_n 0 dX5_init_4 rfl rfl ?_
  refine g_bipush dX5_init_5 (by decide) ?_
  refine g_newA (t := 0) (N := 6) (ty := .int) (v := arI (τ 0) 6) z0 rfl (fun C h => by cases h) rfl (tm_1 (List.mem_of_getElem? (i := 61) rfl) rfl) (by decide) (by decide) ⟨_, rfl, rfl⟩ ⟨by decide, by decide⟩ dX5_init_7 (fun q1 => ?_)
  refine g_putE (fs := [.null, .null, .null, .null, .int (iN 0)]) 0 (.ref q1) z1 nX5_9 (by decide) rfl dX5_init_9 rfl rfl (Nat.le_of_ble_eq_true rfl) ?_
  refine g_aload_n 0 dX5_init_12 rfl rfl ?_
  refine g_bipush dX5_init_13 (by decide) ?_
  refine g_newA (t := 0) (N := 6) (ty := .int) (v := arI (τ 0) 6) z0 rfl (fun C h => by cases h) rfl (tm_1 (List.mem_of_getElem? (i := 61) rfl) rfl) (by decide) (by decide) ⟨_, rfl, rfl⟩ ⟨by decide, by decide⟩ dX5_init_15 (fun q2 => ?_)
  refine g_putE (fs := [.ref q1, .null, .null, .null, .int (iN 0)]) 0 (.ref q2) z1 nX5_15 (by decide) rfl dX5_init_17 rfl rfl (Nat.le_of_ble_eq_true rfl) ?_
  refine g_aload_n 0 dX5_init_20 rfl rfl ?_
  refine g_bipush dX5_init_21 (by decide) ?_
  refine g_bipush dX5_init_23 (by decide) ?_
  refine g_mna (t := 4) (t1 := 0) (N := 7) (K := 7) (ty := .int) (v := arI (τ 0) 7) z0 z2 (fun U h => h.2.2.1) (fun C h => by cases h) rfl rfl rfl ⟨tm_1 (List.mem_of_getElem? (i := 168) rfl) rfl, tm_1 (List.mem_of_getElem? (i := 61) rfl) rfl⟩ ⟨by decide, by decide⟩ (by decide) rfl rfl (fun j hj => ⟨_, rfl, inn_int _⟩) ⟨by decide, by decide⟩ dX5_init_25 (fun q3 r3 => ?_)
  refine g_putE (fs := [.ref q1, .ref q2, .null, .null, .int (iN 0)]) 0 (.ref q3) z1 nX5_20 (by decide) rfl dX5_init_29 rfl rfl (Nat.le_of_ble_eq_true rfl) ?_
  refine g_aload_n 0 dX5_init_32 rfl rfl ?_
  refine g_bipush dX5_init_33 (by decide) ?_
  refine g_bipush dX5_init_35 (by decide) ?_
  refine g_mna (t := 4) (t1 := 0) (N := 64) (K := 6) (ty := .int) (v := arI (τ 0) 6) z0 z2 (fun U h => h.2.2.1) (fun C h => by cases h) rfl rfl rfl ⟨tm_1 (List.mem_of_getElem? (i := 168) rfl) rfl, tm_1 (List.mem_of_getElem? (i := 61) rfl) rfl⟩ ⟨by decide, by decide⟩ (by decide) rfl rfl (fun j hj => ⟨_, rfl, inn_int _⟩) ⟨by decide, by decide⟩ dX5_init_37 (fun q4 r4 => ?_)
  refine g_putE (fs := [.ref q1, .ref q2, .ref q3, .null, .int (iN 0)]) 0 (.ref q4) z1 nX5_23 (by decide) rfl dX5_init_41 rfl rfl (Nat.le_of_ble_eq_true rfl) ?_
  refine g_aload_n 0 dX5_init_44 rfl rfl ?_
  refine g_iconst dX5_init_45 ?_
  refine g_putE (fs := [.ref q1, .ref q2, .ref q3, .ref q4, .int (iN 0)]) 0 (.int (iN 0)) z1 nX5_26 (by decide) rfl dX5_init_46 rfl rfl (Nat.le_of_ble_eq_true rfl) ?_
  refine g_retN hq ⟨rfl, rfl⟩ rfl (by decide) rfl (allP_at ?_) rfl dX5_init_49
  exact And.intro (And.intro (And.intro (And.intro (And.intro (And.intro (And.intro (And.intro (And.intro (And.intro (And.intro (And.intro (And.intro (And.intro (And.intro (And.intro (And.intro (And.intro (And.intro (And.intro (And.intro (And.intro (And.intro (And.intro (And.intro (And.intro (And.intro (And.intro (And.intro (And.intro (And.intro (And.intro (And.intro (And.intro (And.intro (And.intro (And.intro (And.intro (And.intro (And.intro (And.intro (And.intro (And.intro (And.intro (And.intro (And.intro (And.intro (And.intro (And.intro (And.intro (And.intro (And.intro (And.intro (And.intro (And.intro (And.intro (And.intro (And.intro (And.intro (And.intro (And.intro (And.intro (And.intro (And.intro (And.intro (And.intro (And.intro (And.intro (And.intro (And.intro (And.intro (And.intro (And.intro (And.intro (And.intro (And.intro (trivial) (eqv.of rfl)) (eqv.of rfl)) (eqv.of rfl)) (eqv.q (fun j hj => by show some (r3 j) = some (mA (mA _ 3 q3 r3) 11 q4 r4 (4 + j)); unfold mA; rw [if_pos (by omega), if_neg (by omega), if_neg (by omega)]; congr 2; omega))) (eqv.of rfl)) (eqv.of rfl)) (eqv.of rfl)) (eqv.of rfl)) (eqv.of rfl)) (eqv.of rfl)) (eqv.of rfl)) (eqv.q (fun j hj => by show some (r4 j) = some (mA _ 11 q4 r4 (12 + j)); unfold mA; rw [if_neg (by omega), if_neg (by omega)]; congr 2; omega))) (eqv.of rfl)) (eqv.of rfl)) (eqv.of rfl)) (eqv.of rfl)) (eqv.of rfl)) (eqv.of rfl)) (eqv.of rfl)) (eqv.of rfl)) (eqv.of rfl)) (eqv.of rfl)) (eqv.of rfl)) (eqv.of rfl)) (eqv.of rfl)) (eqv.of rfl)) (eqv.of rfl)) (eqv.of rfl)) (eqv.of rfl)) (eqv.of rfl)) (eqv.of rfl)) (eqv.of rfl)) (eqv.of rfl)) (eqv.of rfl)) (eqv.of rfl)) (eqv.of rfl)) (eqv.of rfl)) (eqv.of rfl)) (eqv.of rfl)) (eqv.of rfl)) (eqv.of rfl)) (eqv.of rfl)) (eqv.of rfl)) (eqv.of rfl)) (eqv.of rfl)) (eqv.of rfl)) (eqv.of rfl)) (eqv.of rfl)) (eqv.of rfl)) (eqv.of rfl)) (eqv.of rfl)) (eqv.of rfl)) (eqv.of rfl)) (eqv.of rfl)) (eqv.of rfl)) (eqv.of rfl)) (eqv.of rfl)) (eqv.of rfl)) (eqv.of rfl)) (eqv.of rfl)) (eqv.of rfl)) (eqv.of rfl)) (eqv.of rfl)) (eqv.of rfl)) (eqv.of rfl)) (eqv.of rfl)) (eqv.of rfl)) (eqv.of rfl)) (eqv.of rfl)) (eqv.of rfl)) (eqv.of rfl)) (eqv.of rfl)) (eqv.of rfl)) (eqv.of rfl)) (eqv.of rfl)) (eqv.of rfl)
