theorem g_lve {l : Launch} {D : va_G} {tys : List (ClassId × FieldType)} {L : Lay} {a : Nat → Nat} {M : MInf} {x : Ctx} {pc : Nat} {lv lv' : List (Nat × Value)} {st : List Value} {V : Mem} (h : lv = lv') (k : G l D tys L a M x pc lv' st V) : G l D tys L a M x pc lv st V := h ▸ k
/-- part of a row one place up: what stood at t .. n - 1 stands at t + 1 .. n -/
def shiftM (V : Mem) (k t n : Nat) : Mem := fun c j => if c = k ∧ t < j ∧ j ≤ n then V k (j - 1) else V c j
theorem shiftM_n {V : Mem} {k n : Nat} : shiftM V k n n = V := funext fun c => funext fun j => if_neg (fun h => by omega)
theorem shiftM_ne {V : Mem} {k t n c : Nat} (h : c ≠ k) : shiftM V k t n c = V c := funext fun j => if_neg (fun q => h q.1)
theorem shiftM_lo {V : Mem} {k t n j : Nat} (h : j ≤ t) : shiftM V k t n k j = V k j := if_neg (fun q => by omega)
theorem shiftM_s {V : Mem} {k t n : Nat} (h : t + 1 ≤ n) : up (shiftM V k (t + 1) n) k (t + 1) (V k t) = shiftM V k t n := funext fun c => funext fun j => by
  unfold up shiftM
  by_cases h1 : c = k
  · subst h1
    by_cases h2 : j = t + 1
    · subst h2
      simp [show t < t + 1 by omega, h]
    · by_cases h3 : t < j ∧ j ≤ n
      · simp [h2, h3, show t + 1 < j by omega]
      · simp [h2, h3, show ¬ (t + 1 < j ∧ j ≤ n) by omega]
  · simp [h1]
/-- where part p comes to stand in a row of n -/
def insP (h x y f : Nat → Int) (p : Nat) : Nat → Nat
  | 0 => 0
  | n + 1 => if h p < h (f n).toNat ∨ (h p = h (f n).toNat ∧ (x p < x (f n).toNat ∨ (x p = x (f n).toNat ∧ (y p < y (f n).toNat ∨ (y p = y (f n).toNat ∧ p < (f n).toNat))))) then insP h x y f p n else n + 1
theorem insP_t {h x y f : Nat → Int} {p n : Nat} (q : ahead h x y p (f n).toNat) : insP h x y f p (n + 1) = insP h x y f p n := if_pos q
theorem insP_f {h x y f : Nat → Int} {p n : Nat} (q : ¬ ahead h x y p (f n).toNat) : insP h x y f p (n + 1) = n + 1 := if_neg q
/-! draws -/
/-- s shifted right by 33, without sign -/
def drw (u : Int) : Int := (((jN u).toUInt64 >>> ((iN 33).toInt64.toUInt64 &&& Int64.toUInt64 63)).toInt64).toInt
theorem drw_j (u : Int) : ((jN u).toUInt64 >>> ((iN 33).toInt64.toUInt64 &&& Int64.toUInt64 63)).toInt64 = jN (drw u) := (Int64.ofInt_toInt _).symm
theorem drw_in (u : Int) : 0 ≤ drw u ∧ drw u ≤ 2147483647 := by
  have e : ((iN 33).toInt64.toUInt64 &&& Int64.toUInt64 63) = 33 := by decide +kernel
  unfold drw
  rw [e]
  generalize (jN u).toUInt64 = y
  have h : (y >>> 33).toNat = y.toNat / 2 ^ 33 := by
    rw [UInt64.toNat_shiftRight, Nat.shiftRight_eq_div_pow]
    rfl
  have hy := y.toNat_lt
  have h2 : (y >>> 33).toNat < 2147483648 := by rw [h]; omega
  have h3 : ((y >>> 33).toInt64).toInt = ((y >>> 33).toNat : Int) := by
    show (y >>> 33).toBitVec.toInt = _
    rw [BitVec.toInt_eq_toNat_of_lt]
    · rfl
    · show 2 * (y >>> 33).toNat < 2 ^ 64
      omega
  rw [h3]
  omega
