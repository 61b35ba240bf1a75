/-! plain functions of the state -/
/-- how many places below n hold k -/
def cnt (f : Nat → Int) (k : Int) : Nat → Int
  | 0 => 0
  | n + 1 => cnt f k n + (if f n = k then 1 else 0)
/-- a part's coordinate; 0 where there is no such part -/
def co (f : Nat → Int) (n p : Int) : Int := if 0 ≤ p ∧ p < n then f p.toNat else 0
/-- the way between two parts -/
def way (fx fy : Nat → Int) (n p q : Int) : Int := max (zabs (co fx n p - co fx n q)) (zabs (co fy n p - co fy n q))
/-- whether part p stands ahead of q -/
def ahead (h x y : Nat → Int) (p q : Nat) : Prop := h p < h q ∨ (h p = h q ∧ (x p < x q ∨ (x p = x q ∧ (y p < y q ∨ (y p = y q ∧ p < q)))))
/-- nothing that begins at f, as wide as w, meets d slots from s on -/
def free (f w : Nat → Int) (n : Nat) (s d : Int) : Prop := ∀ k, k < n → ¬ (f k ≠ -1 ∧ s < f k + w k ∧ f k < s + d)
theorem free_s {f w : Nat → Int} {n : Nat} {s d : Int} (h : free f w n s d) (hn : ¬ (f n ≠ -1 ∧ s < f n + w n ∧ f n < s + d)) : free f w (n + 1) s d := fun k hk => by
  by_cases e : k = n
  · rw [e]; exact hn
  · exact h k (by omega)
/-- parts taken until n are good, a of b rejected -/
def picked (n b a : Int) : Int := (n * b + (b - a) - 1) / (b - a)
def refilled (n m : Int) : Int := if 0 < m then (n - 1) / m else 0
/-- the first place below n that holds p; -1 without -/
def plc (f : Nat → Int) (p : Int) : Nat → Int
  | 0 => -1
  | n + 1 => if plc f p n = -1 then (if f n = p then (n : Int) else -1) else plc f p n
theorem plc_s {f : Nat → Int} {p : Int} {n : Nat} (h : plc f p n = -1) (hn : ¬ f n = p) : plc f p (n + 1) = -1 := by
  simp only [plc, h, if_true, if_neg hn]
theorem plc_at {f : Nat → Int} {p : Int} {n i : Nat} (h : plc f p i = -1) (hi : f i = p) (hn : i < n) : plc f p n = (i : Int) := by
  induction n with
  | zero => omega
  | succ n ih =>
    by_cases e : i = n
    · subst e
      simp only [plc, h, if_true, hi]
    · have := ih (by omega)
      simp only [plc, this]
      rw [if_neg (by omega)]
