/-! plain functions of the state -/
/-- how many places below n hold k -/
def cnt (f : Nat → Int) (k : Int) : Nat → Int
  | 0 => 0
  | n + 1 => cnt f k n + (if f n = k then 1 else 0)
/-- a part's coordinate; 0 where there is no such part -/
def co (f : Nat → Int) (n p : Int) : Int := if 0 ≤ p ∧ p < n then f p.toNat else 0
/-- the way between two parts -/
def way (fx fy : Nat → Int) (n p q : Int) : Int := max (zabs (co fx n p - co fx n q)) (zabs (co fy n p - co fy n q))
/-- whether part p stands ahead of q -/
def ahead (h x y : Nat → Int) (p q : Nat) : Prop := h p < h q ∨ (h p = h q ∧ (x p < x q ∨ (x p = x q ∧ (y p < y q ∨ (y p = y q ∧ p < q)))))
