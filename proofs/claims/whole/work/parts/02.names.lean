def RX0 : String := "FeederOrders$Draws"
def RX1 : String := "FeederOrders$Kinds"
def RX2 : String := "FeederOrders$Machine"
def RX3 : String := "FeederOrders$Parts"
def RX4 : String := "FeederOrders$Shares"
def RX5 : String := "FeederOrders$TripPlan"
def RX6 : String := "FeederOrders"
def RX7 : String := "FeederOrdersModel"
def RL : String := "FeederOrdersLaw"
def TX0 : u_T := fun k => match k with
  | _ => ("FeederOrders$Draws", "state", "J", false)
def tyX0 : Nat → FieldType := fun k => match k with
  | _ => .long
theorem nmX0 : ∀ a, a < 1 → ∀ b, b < 1 → a ≠ b → (TX0 a).2.1 ≠ (TX0 b).2.1 := by decide +kernel
theorem tyX0_ok : ∀ k, k < 1 → parseFieldDescriptor (TX0 k).2.2.1 = some (tyX0 k) := by decide +kernel
def TX1 : u_T := fun k => match k with
  | 0 => ("FeederOrders$Kinds", "widths", "[I", true)
  | 1 => ("FeederOrders$Kinds", "nozzles", "[I", true)
  | 2 => ("FeederOrders$Kinds", "fixedAt", "[I", true)
  | 3 => ("FeederOrders$Kinds", "refillBy", "[I", true)
  | 4 => ("FeederOrders$Kinds", "rejectAbove", "[I", true)
  | 5 => ("FeederOrders$Kinds", "rejectBelow", "[I", true)
  | _ => ("FeederOrders$Kinds", "count", "I", false)
def tyX1 : Nat → FieldType := fun k => match k with
  | 0 => .array .int
  | 1 => .array .int
  | 2 => .array .int
  | 3 => .array .int
  | 4 => .array .int
  | 5 => .array .int
  | _ => .int
theorem nmX1 : ∀ a, a < 7 → ∀ b, b < 7 → a ≠ b → (TX1 a).2.1 ≠ (TX1 b).2.1 := by decide +kernel
theorem tyX1_ok : ∀ k, k < 7 → parseFieldDescriptor (TX1 k).2.2.1 = some (tyX1 k) := by decide +kernel
def TX2 : u_T := fun k => match k with
  | 0 => ("FeederOrders$Machine", "row", "[I", true)
  | 1 => ("FeederOrders$Machine", "feederAt", "[I", true)
  | 2 => ("FeederOrders$Machine", "amountOf", "[I", true)
  | 3 => ("FeederOrders$Machine", "nozzles", "I", false)
  | 4 => ("FeederOrders$Machine", "carried", "I", false)
  | 5 => ("FeederOrders$Machine", "size", "I", false)
  | _ => ("FeederOrders$Machine", "moveTime", "I", false)
def tyX2 : Nat → FieldType := fun k => match k with
  | 0 => .array .int
  | 1 => .array .int
  | 2 => .array .int
  | 3 => .int
  | 4 => .int
  | 5 => .int
  | _ => .int
theorem nmX2 : ∀ a, a < 7 → ∀ b, b < 7 → a ≠ b → (TX2 a).2.1 ≠ (TX2 b).2.1 := by decide +kernel
theorem tyX2_ok : ∀ k, k < 7 → parseFieldDescriptor (TX2 k).2.2.1 = some (tyX2 k) := by decide +kernel
def TX3 : u_T := fun k => match k with
  | 0 => ("FeederOrders$Parts", "kindOf", "[I", true)
  | 1 => ("FeederOrders$Parts", "xs", "[I", true)
  | 2 => ("FeederOrders$Parts", "ys", "[I", true)
  | 3 => ("FeederOrders$Parts", "heights", "[I", true)
  | _ => ("FeederOrders$Parts", "count", "I", false)
def tyX3 : Nat → FieldType := fun k => match k with
  | 0 => .array .int
  | 1 => .array .int
  | 2 => .array .int
  | 3 => .array .int
  | _ => .int
theorem nmX3 : ∀ a, a < 5 → ∀ b, b < 5 → a ≠ b → (TX3 a).2.1 ≠ (TX3 b).2.1 := by decide +kernel
theorem tyX3_ok : ∀ k, k < 5 → parseFieldDescriptor (TX3 k).2.2.1 = some (tyX3 k) := by decide +kernel
def TX4 : u_T := fun k => match k with
  | 0 => ("FeederOrders$Shares", "homeOf", "[I", true)
  | 1 => ("FeederOrders$Shares", "kindOf", "[I", true)
  | 2 => ("FeederOrders$Shares", "amountOf", "[I", true)
  | 3 => ("FeederOrders$Shares", "hostsOf", "[I", true)
  | 4 => ("FeederOrders$Shares", "endings", "[[J", true)
  | 5 => ("FeederOrders$Shares", "count", "I", false)
  | _ => ("FeederOrders$Shares", "total", "I", false)
def tyX4 : Nat → FieldType := fun k => match k with
  | 0 => .array .int
  | 1 => .array .int
  | 2 => .array .int
  | 3 => .array .int
  | 4 => .array (.array .long)
  | 5 => .int
  | _ => .int
theorem nmX4 : ∀ a, a < 7 → ∀ b, b < 7 → a ≠ b → (TX4 a).2.1 ≠ (TX4 b).2.1 := by decide +kernel
theorem tyX4_ok : ∀ k, k < 7 → parseFieldDescriptor (TX4 k).2.2.1 = some (tyX4 k) := by decide +kernel
def TX5 : u_T := fun k => match k with
  | 0 => ("FeederOrders$TripPlan", "pool", "[I", true)
  | 1 => ("FeederOrders$TripPlan", "lowerOnes", "[I", true)
  | 2 => ("FeederOrders$TripPlan", "ways", "[[I", true)
  | 3 => ("FeederOrders$TripPlan", "wayLeft", "[[I", true)
  | _ => ("FeederOrders$TripPlan", "size", "I", false)
def tyX5 : Nat → FieldType := fun k => match k with
  | 0 => .array .int
  | 1 => .array .int
  | 2 => .array (.array .int)
  | 3 => .array (.array .int)
  | _ => .int
theorem nmX5 : ∀ a, a < 5 → ∀ b, b < 5 → a ≠ b → (TX5 a).2.1 ≠ (TX5 b).2.1 := by decide +kernel
theorem tyX5_ok : ∀ k, k < 5 → parseFieldDescriptor (TX5 k).2.2.1 = some (tyX5 k) := by decide +kernel
def TX6 : u_T := fun k => match k with
  | 0 => ("FeederOrders", "slots", "I", true)
  | 1 => ("FeederOrders", "draws", "LFeederOrders$Draws;", true)
  | 2 => ("FeederOrders", "kinds", "LFeederOrders$Kinds;", true)
  | 3 => ("FeederOrders", "parts", "LFeederOrders$Parts;", true)
  | 4 => ("FeederOrders", "fleet", "[LFeederOrders$Machine;", true)
  | 5 => ("FeederOrders", "shares", "LFeederOrders$Shares;", true)
  | 6 => ("FeederOrders", "tripPlan", "LFeederOrders$TripPlan;", true)
  | 7 => ("FeederOrders", "spareRow", "[I", true)
  | 8 => ("FeederOrders", "machineCount", "I", false)
  | _ => ("FeederOrders", "usedCount", "I", false)
def tyX6 : Nat → FieldType := fun k => match k with
  | 0 => .int
  | 1 => .object "FeederOrders$Draws"
  | 2 => .object "FeederOrders$Kinds"
  | 3 => .object "FeederOrders$Parts"
  | 4 => .array (.object "FeederOrders$Machine")
  | 5 => .object "FeederOrders$Shares"
  | 6 => .object "FeederOrders$TripPlan"
  | 7 => .array .int
  | 8 => .int
  | _ => .int
theorem nmX6 : ∀ a, a < 10 → ∀ b, b < 10 → a ≠ b → (TX6 a).2.1 ≠ (TX6 b).2.1 := by decide +kernel
theorem tyX6_ok : ∀ k, k < 10 → parseFieldDescriptor (TX6 k).2.2.1 = some (tyX6 k) := by decide +kernel
def TX7 : u_T := fun k => match k with
  | 0 => ("FeederOrdersModel", "thrown", "I", false)
  | 1 => ("FeederOrdersModel", "s", "J", false)
  | 2 => ("FeederOrdersModel", "slots", "I", true)
  | 3 => ("FeederOrdersModel", "kinds", "I", false)
  | 4 => ("FeederOrdersModel", "widths", "[I", true)
  | 5 => ("FeederOrdersModel", "nozzles", "[I", true)
  | 6 => ("FeederOrdersModel", "fixedAt", "[I", true)
  | 7 => ("FeederOrdersModel", "refills", "[I", true)
  | 8 => ("FeederOrdersModel", "above", "[J", true)
  | 9 => ("FeederOrdersModel", "below", "[J", true)
  | 10 => ("FeederOrdersModel", "parts", "I", false)
  | 11 => ("FeederOrdersModel", "kindOf", "[I", true)
  | 12 => ("FeederOrdersModel", "x", "[J", true)
  | 13 => ("FeederOrdersModel", "y", "[J", true)
  | 14 => ("FeederOrdersModel", "height", "[J", true)
  | 15 => ("FeederOrdersModel", "machines", "I", false)
  | 16 => ("FeederOrdersModel", "hasNozzles", "[I", true)
  | 17 => ("FeederOrdersModel", "trips", "[I", true)
  | 18 => ("FeederOrdersModel", "used", "I", false)
  | 19 => ("FeederOrdersModel", "feeder", "[I", true)
  | 20 => ("FeederOrdersModel", "counts", "[I", true)
  | 21 => ("FeederOrdersModel", "row", "[I", true)
  | 22 => ("FeederOrdersModel", "share", "[I", true)
  | 23 => ("FeederOrdersModel", "bestShare", "[I", true)
  | 24 => ("FeederOrdersModel", "taken", "[Z", true)
  | 25 => ("FeederOrdersModel", "size", "I", false)
  | 26 => ("FeederOrdersModel", "trip", "[I", true)
  | 27 => ("FeederOrdersModel", "ways", "[J", true)
  | _ => ("FeederOrdersModel", "before", "[I", true)
def tyX7 : Nat → FieldType := fun k => match k with
  | 0 => .int
  | 1 => .long
  | 2 => .int
  | 3 => .int
  | 4 => .array .int
  | 5 => .array .int
  | 6 => .array .int
  | 7 => .array .int
  | 8 => .array .long
  | 9 => .array .long
  | 10 => .int
  | 11 => .array .int
  | 12 => .array .long
  | 13 => .array .long
  | 14 => .array .long
  | 15 => .int
  | 16 => .array .int
  | 17 => .array .int
  | 18 => .int
  | 19 => .array .int
  | 20 => .array .int
  | 21 => .array .int
  | 22 => .array .int
  | 23 => .array .int
  | 24 => .array .boolean
  | 25 => .int
  | 26 => .array .int
  | 27 => .array .long
  | _ => .array .int
theorem nmX7 : ∀ a, a < 29 → ∀ b, b < 29 → a ≠ b → (TX7 a).2.1 ≠ (TX7 b).2.1 := by decide +kernel
theorem tyX7_ok : ∀ k, k < 29 → parseFieldDescriptor (TX7 k).2.2.1 = some (tyX7 k) := by decide +kernel
abbrev vwCl : List vw_C := [(RX0, TX0, 1), (RX1, TX1, 7), (RX2, TX2, 7), (RX3, TX3, 5), (RX4, TX4, 7), (RX5, TX5, 5), (RX6, TX6, 10), (RX7, TX7, 29)]
/-- the words that hold wherever the machine has gone on from a start -/
def gw : List Cond := lw_tbl.filter goodWord
theorem gw_of {w : Cond} (h : w ∈ lw_tbl) (g : goodWord w = true) : w ∈ gw := List.mem_filter.mpr ⟨h, g⟩
theorem gw_in {w : Cond} (h : w ∈ gw) : w ∈ lw_tbl := (List.mem_filter.mp h).1
theorem tm_0 {w : Cond} (h : w ∈ k2_sels lw_privs) (g : goodWord w = true) : w ∈ gw := gw_of (List.mem_append_left _ h) g
theorem tm_1 {w : Cond} (h : w ∈ tables_1_1) (g : goodWord w = true) : w ∈ gw := gw_of (List.mem_append_right _ (List.mem_append_left _ h)) g
theorem tm_2 {w : Cond} (h : w ∈ tables_1_2) (g : goodWord w = true) : w ∈ gw := gw_of (List.mem_append_right _ (List.mem_append_right _ (List.mem_append_left _ h))) g
theorem tm_3 {w : Cond} (h : w ∈ tables_1_3) (g : goodWord w = true) : w ∈ gw := gw_of (List.mem_append_right _ (List.mem_append_right _ (List.mem_append_right _ (List.mem_append_left _ h)))) g
theorem tm_4 {w : Cond} (h : w ∈ tables_1_4) (g : goodWord w = true) : w ∈ gw := gw_of (List.mem_append_right _ (List.mem_append_right _ (List.mem_append_right _ (List.mem_append_right _ (List.mem_append_left _ h))))) g
theorem tm_5 {w : Cond} (h : w ∈ tables_1_5) (g : goodWord w = true) : w ∈ gw := gw_of (List.mem_append_right _ (List.mem_append_right _ (List.mem_append_right _ (List.mem_append_right _ (List.mem_append_right _ (h)))))) g
theorem inX0 : ∀ w ∈ u_ws RX0 TX0 1, w ∈ gw := by
  intro w hw
  obtain ⟨k, hk, rfl⟩ := List.mem_map.mp hw
  have hk := List.mem_range.mp hk
  match k, hk with
  | 0, _ => exact tm_1 (List.mem_of_getElem? (i := 199) rfl) rfl
  | k + 1, h => exact absurd h (by omega)
theorem inX1 : ∀ w ∈ u_ws RX1 TX1 7, w ∈ gw := by
  intro w hw
  obtain ⟨k, hk, rfl⟩ := List.mem_map.mp hw
  have hk := List.mem_range.mp hk
  match k, hk with
  | 0, _ => exact tm_1 (List.mem_of_getElem? (i := 46) rfl) rfl
  | 1, _ => exact tm_1 (List.mem_of_getElem? (i := 48) rfl) rfl
  | 2, _ => exact tm_1 (List.mem_of_getElem? (i := 50) rfl) rfl
  | 3, _ => exact tm_1 (List.mem_of_getElem? (i := 52) rfl) rfl
  | 4, _ => exact tm_1 (List.mem_of_getElem? (i := 54) rfl) rfl
  | 5, _ => exact tm_1 (List.mem_of_getElem? (i := 56) rfl) rfl
  | 6, _ => exact tm_1 (List.mem_of_getElem? (i := 58) rfl) rfl
  | k + 7, h => exact absurd h (by omega)
theorem inX2 : ∀ w ∈ u_ws RX2 TX2 7, w ∈ gw := by
  intro w hw
  obtain ⟨k, hk, rfl⟩ := List.mem_map.mp hw
  have hk := List.mem_range.mp hk
  match k, hk with
  | 0, _ => exact tm_1 (List.mem_of_getElem? (i := 115) rfl) rfl
  | 1, _ => exact tm_1 (List.mem_of_getElem? (i := 117) rfl) rfl
  | 2, _ => exact tm_1 (List.mem_of_getElem? (i := 119) rfl) rfl
  | 3, _ => exact tm_1 (List.mem_of_getElem? (i := 121) rfl) rfl
  | 4, _ => exact tm_1 (List.mem_of_getElem? (i := 123) rfl) rfl
  | 5, _ => exact tm_1 (List.mem_of_getElem? (i := 125) rfl) rfl
  | 6, _ => exact tm_1 (List.mem_of_getElem? (i := 127) rfl) rfl
  | k + 7, h => exact absurd h (by omega)
theorem inX3 : ∀ w ∈ u_ws RX3 TX3 5, w ∈ gw := by
  intro w hw
  obtain ⟨k, hk, rfl⟩ := List.mem_map.mp hw
  have hk := List.mem_range.mp hk
  match k, hk with
  | 0, _ => exact tm_1 (List.mem_of_getElem? (i := 77) rfl) rfl
  | 1, _ => exact tm_1 (List.mem_of_getElem? (i := 79) rfl) rfl
  | 2, _ => exact tm_1 (List.mem_of_getElem? (i := 81) rfl) rfl
  | 3, _ => exact tm_1 (List.mem_of_getElem? (i := 83) rfl) rfl
  | 4, _ => exact tm_1 (List.mem_of_getElem? (i := 85) rfl) rfl
  | k + 5, h => exact absurd h (by omega)
theorem inX4 : ∀ w ∈ u_ws RX4 TX4 7, w ∈ gw := by
  intro w hw
  obtain ⟨k, hk, rfl⟩ := List.mem_map.mp hw
  have hk := List.mem_range.mp hk
  match k, hk with
  | 0, _ => exact tm_1 (List.mem_of_getElem? (i := 146) rfl) rfl
  | 1, _ => exact tm_1 (List.mem_of_getElem? (i := 148) rfl) rfl
  | 2, _ => exact tm_1 (List.mem_of_getElem? (i := 150) rfl) rfl
  | 3, _ => exact tm_1 (List.mem_of_getElem? (i := 152) rfl) rfl
  | 4, _ => exact tm_1 (List.mem_of_getElem? (i := 154) rfl) rfl
  | 5, _ => exact tm_1 (List.mem_of_getElem? (i := 156) rfl) rfl
  | 6, _ => exact tm_1 (List.mem_of_getElem? (i := 158) rfl) rfl
  | k + 7, h => exact absurd h (by omega)
theorem inX5 : ∀ w ∈ u_ws RX5 TX5 5, w ∈ gw := by
  intro w hw
  obtain ⟨k, hk, rfl⟩ := List.mem_map.mp hw
  have hk := List.mem_range.mp hk
  match k, hk with
  | 0, _ => exact tm_1 (List.mem_of_getElem? (i := 175) rfl) rfl
  | 1, _ => exact tm_1 (List.mem_of_getElem? (i := 177) rfl) rfl
  | 2, _ => exact tm_1 (List.mem_of_getElem? (i := 179) rfl) rfl
  | 3, _ => exact tm_1 (List.mem_of_getElem? (i := 181) rfl) rfl
  | 4, _ => exact tm_1 (List.mem_of_getElem? (i := 183) rfl) rfl
  | k + 5, h => exact absurd h (by omega)
theorem inX6 : ∀ w ∈ u_ws RX6 TX6 10, w ∈ gw := by
  intro w hw
  obtain ⟨k, hk, rfl⟩ := List.mem_map.mp hw
  have hk := List.mem_range.mp hk
  match k, hk with
  | 0, _ => exact tm_1 (List.mem_of_getElem? (i := 212) rfl) rfl
  | 1, _ => exact tm_1 (List.mem_of_getElem? (i := 214) rfl) rfl
  | 2, _ => exact tm_1 (List.mem_of_getElem? (i := 216) rfl) rfl
  | 3, _ => exact tm_1 (List.mem_of_getElem? (i := 218) rfl) rfl
  | 4, _ => exact tm_1 (List.mem_of_getElem? (i := 220) rfl) rfl
  | 5, _ => exact tm_1 (List.mem_of_getElem? (i := 222) rfl) rfl
  | 6, _ => exact tm_1 (List.mem_of_getElem? (i := 224) rfl) rfl
  | 7, _ => exact tm_1 (List.mem_of_getElem? (i := 226) rfl) rfl
  | 8, _ => exact tm_1 (List.mem_of_getElem? (i := 228) rfl) rfl
  | 9, _ => exact tm_1 (List.mem_of_getElem? (i := 230) rfl) rfl
  | k + 10, h => exact absurd h (by omega)
theorem inX7 : ∀ w ∈ u_ws RX7 TX7 29, w ∈ gw := by
  intro w hw
  obtain ⟨k, hk, rfl⟩ := List.mem_map.mp hw
  have hk := List.mem_range.mp hk
  match k, hk with
  | 0, _ => exact tm_4 (List.mem_of_getElem? (i := 3) rfl) rfl
  | 1, _ => exact tm_4 (List.mem_of_getElem? (i := 5) rfl) rfl
  | 2, _ => exact tm_4 (List.mem_of_getElem? (i := 7) rfl) rfl
  | 3, _ => exact tm_4 (List.mem_of_getElem? (i := 9) rfl) rfl
  | 4, _ => exact tm_4 (List.mem_of_getElem? (i := 11) rfl) rfl
  | 5, _ => exact tm_4 (List.mem_of_getElem? (i := 13) rfl) rfl
  | 6, _ => exact tm_4 (List.mem_of_getElem? (i := 15) rfl) rfl
  | 7, _ => exact tm_4 (List.mem_of_getElem? (i := 17) rfl) rfl
  | 8, _ => exact tm_4 (List.mem_of_getElem? (i := 19) rfl) rfl
  | 9, _ => exact tm_4 (List.mem_of_getElem? (i := 21) rfl) rfl
  | 10, _ => exact tm_4 (List.mem_of_getElem? (i := 23) rfl) rfl
  | 11, _ => exact tm_4 (List.mem_of_getElem? (i := 25) rfl) rfl
  | 12, _ => exact tm_4 (List.mem_of_getElem? (i := 27) rfl) rfl
  | 13, _ => exact tm_4 (List.mem_of_getElem? (i := 29) rfl) rfl
  | 14, _ => exact tm_4 (List.mem_of_getElem? (i := 31) rfl) rfl
  | 15, _ => exact tm_4 (List.mem_of_getElem? (i := 33) rfl) rfl
  | 16, _ => exact tm_4 (List.mem_of_getElem? (i := 35) rfl) rfl
  | 17, _ => exact tm_4 (List.mem_of_getElem? (i := 37) rfl) rfl
  | 18, _ => exact tm_4 (List.mem_of_getElem? (i := 39) rfl) rfl
  | 19, _ => exact tm_4 (List.mem_of_getElem? (i := 41) rfl) rfl
  | 20, _ => exact tm_4 (List.mem_of_getElem? (i := 43) rfl) rfl
  | 21, _ => exact tm_4 (List.mem_of_getElem? (i := 45) rfl) rfl
  | 22, _ => exact tm_4 (List.mem_of_getElem? (i := 47) rfl) rfl
  | 23, _ => exact tm_4 (List.mem_of_getElem? (i := 49) rfl) rfl
  | 24, _ => exact tm_4 (List.mem_of_getElem? (i := 51) rfl) rfl
  | 25, _ => exact tm_4 (List.mem_of_getElem? (i := 53) rfl) rfl
  | 26, _ => exact tm_4 (List.mem_of_getElem? (i := 55) rfl) rfl
  | 27, _ => exact tm_4 (List.mem_of_getElem? (i := 57) rfl) rfl
  | 28, _ => exact tm_4 (List.mem_of_getElem? (i := 59) rfl) rfl
  | k + 29, h => exact absurd h (by omega)
