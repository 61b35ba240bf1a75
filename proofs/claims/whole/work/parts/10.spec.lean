/-! plain functions of the state -/
/-- how many places below n hold k -/
def cnt (f : Nat → Int) (k : Int) : Nat → Int
  | 0 => 0
  | n + 1 => cnt f k n + (if f n = k then 1 else 0)
