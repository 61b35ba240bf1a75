/-! integers as ints and longs -/
def iN (z : Int) : Int32 := Int32.ofInt z
def jN (z : Int) : Int64 := Int64.ofInt z
theorem iN_add (x y : Int) : iN x + iN y = iN (x + y) := (Int32.ofInt_add x y).symm
theorem iN_sub (x y : Int) : iN x - iN y = iN (x - y) := (Int32.ofInt_sub x y).symm
theorem iN_mul (x y : Int) : iN x * iN y = iN (x * y) := (Int32.ofInt_mul x y).symm
theorem iN_neg (x : Int) : -iN x = iN (-x) := (Int32.ofInt_neg x).symm
theorem jN_add (x y : Int) : jN x + jN y = jN (x + y) := (Int64.ofInt_add x y).symm
theorem jN_sub (x y : Int) : jN x - jN y = jN (x - y) := (Int64.ofInt_sub x y).symm
theorem jN_mul (x y : Int) : jN x * jN y = jN (x * y) := (Int64.ofInt_mul x y).symm
theorem iN_toInt {z : Int} (h : -2147483648 ≤ z ∧ z ≤ 2147483647) : (iN z).toInt = z := Int32.toInt_ofInt_of_le (by omega) (by omega)
theorem jN_toInt {z : Int} (h : -9223372036854775808 ≤ z ∧ z ≤ 9223372036854775807) : (jN z).toInt = z := Int64.toInt_ofInt_of_le (by omega) (by omega)
theorem iN_lt {x y : Int} (hx : -2147483648 ≤ x ∧ x ≤ 2147483647) (hy : -2147483648 ≤ y ∧ y ≤ 2147483647) : iN x < iN y ↔ x < y := by
  rw [Int32.lt_iff_toInt_lt, iN_toInt hx, iN_toInt hy]
theorem iN_le {x y : Int} (hx : -2147483648 ≤ x ∧ x ≤ 2147483647) (hy : -2147483648 ≤ y ∧ y ≤ 2147483647) : iN x ≤ iN y ↔ x ≤ y := by
  rw [Int32.le_iff_toInt_le, iN_toInt hx, iN_toInt hy]
theorem iN_eq {x y : Int} (hx : -2147483648 ≤ x ∧ x ≤ 2147483647) (hy : -2147483648 ≤ y ∧ y ≤ 2147483647) : iN x = iN y ↔ x = y := by
  rw [← Int32.toInt_inj, iN_toInt hx, iN_toInt hy]
theorem jN_lt {x y : Int} (hx : -9223372036854775808 ≤ x ∧ x ≤ 9223372036854775807) (hy : -9223372036854775808 ≤ y ∧ y ≤ 9223372036854775807) : jN x < jN y ↔ x < y := by
  rw [Int64.lt_iff_toInt_lt, jN_toInt hx, jN_toInt hy]
theorem jN_eq {x y : Int} (hx : -9223372036854775808 ≤ x ∧ x ≤ 9223372036854775807) (hy : -9223372036854775808 ≤ y ∧ y ≤ 9223372036854775807) : jN x = jN y ↔ x = y := by
  rw [← Int64.toInt_inj, jN_toInt hx, jN_toInt hy]
theorem iN_of (x : Int32) : ∃ z : Int, (-2147483648 ≤ z ∧ z ≤ 2147483647) ∧ x = iN z := by
  refine ⟨x.toInt, ⟨?_, ?_⟩, (Int32.ofInt_toInt x).symm⟩
  · have := x.le_toInt
    omega
  · have := x.toInt_lt
    omega
theorem jN_of (x : Int64) : ∃ z : Int, (-9223372036854775808 ≤ z ∧ z ≤ 9223372036854775807) ∧ x = jN z := by
  refine ⟨x.toInt, ⟨?_, ?_⟩, (Int64.ofInt_toInt x).symm⟩
  · have := x.le_toInt
    omega
  · have := x.toInt_lt
    omega
theorem iN_nI (n : Nat) : iN (n : Int) = nI n := Int32.ofInt_eq_ofNat
theorem jN_lN (n : Nat) : jN (n : Int) = lN n := Int64.ofInt_eq_ofNat
theorem iN_clamp {n : Nat} (h : n ≤ 2147483647) : (iN (n : Int)).toNatClampNeg = n := by
  rw [iN_nI]; exact nI_clamp (by omega)
theorem iN_in {n N : Nat} (h : n < N) (hN : N ≤ 2147483647) : vp_in (iN (n : Int)) N := by
  rw [iN_nI]; exact vp_in_nI h (by omega)
theorem iN_j {z : Int} (h : -2147483648 ≤ z ∧ z ≤ 2147483647) : (iN z).toInt64 = jN z := by
  rw [← Int64.toInt_inj, Int32.toInt_toInt64, iN_toInt h, jN_toInt (by omega)]
theorem jN_i (z : Int) : (jN z).toInt32 = iN z := by
  rw [← Int32.toInt_inj]
  show ((jN z).toInt32).toInt = (Int32.ofInt z).toInt
  simp [jN]
theorem iN_div {x y : Int} (hx : 0 ≤ x ∧ x ≤ 2147483647) (hy : 0 < y ∧ y ≤ 2147483647) : iN x / iN y = iN (x / y) := by
  obtain ⟨a, rfl⟩ := Int.eq_ofNat_of_zero_le hx.1
  obtain ⟨b, rfl⟩ := Int.eq_ofNat_of_zero_le (Int.le_of_lt hy.1)
  rw [iN_nI, iN_nI, pk_div (by omega) (by omega) (by omega), ← iN_nI]
  rfl
theorem iN_rem {x y : Int} (hx : 0 ≤ x ∧ x ≤ 2147483647) (hy : 0 < y ∧ y ≤ 2147483647) : iN x - iN x / iN y * iN y = iN (x % y) := by
  rw [iN_div hx hy, iN_mul, iN_sub]
  congr 1
  rw [Int.emod_def, Int.mul_comm]
theorem iN_ne0 {y : Int} (hy : 0 < y ∧ y ≤ 2147483647) : ¬ iN y = 0 := by
  intro h
  have : iN y = iN 0 := h
  rw [iN_eq (by omega) (by omega)] at this
  omega
/-! memories and layouts -/
abbrev Mem : Type := Nat → Nat → Int
def up (V : Mem) (k i : Nat) (v : Int) : Mem := fun c j => if c = k ∧ j = i then v else V c j
theorem up_eq {V : Mem} {k i : Nat} {v : Int} : up V k i v k i = v := if_pos ⟨rfl, rfl⟩
theorem up_ne {V : Mem} {k i c j : Nat} {v : Int} (h : c ≠ k ∨ j ≠ i) : up V k i v c j = V c j := if_neg (fun q => h.elim (fun z => z q.1) (fun z => z q.2))
theorem up_ne1 {V : Mem} {k i c : Nat} {v : Int} (h : c ≠ k) : up V k i v c = V c := funext fun _ => up_ne (Or.inl h)
abbrev Lay : Type := Nat × ((Nat → Nat) → Nat → (Nat → Int) → va_E)
def wsOf (L : Lay) (a : Nat → Nat) (V : Mem) : va_W := (List.range L.1).map (fun k => (a k, L.2 a k (V k)))
theorem wsOf_at {L : Lay} {a : Nat → Nat} {V : Mem} {k : Nat} (h : k < L.1) : (wsOf L a V)[k]? = some (a k, L.2 a k (V k)) := by
  simp [wsOf, List.getElem?_map, List.getElem?_range h]
theorem wsOf_of {L : Lay} {a : Nat → Nat} {V : Mem} {k : Nat} {q : Nat × va_E} (h : (wsOf L a V)[k]? = some q) : k < L.1 ∧ q = (a k, L.2 a k (V k)) := by
  have hk : k < L.1 := by
    have := (List.getElem?_eq_some_iff.mp h).1
    simpa [wsOf] using this
  rw [wsOf_at hk] at h
  exact ⟨hk, (Option.some.inj h).symm⟩
theorem wsOf_set {L : Lay} {a : Nat → Nat} {V V' : Mem} {k : Nat} {e : va_E} (he : L.2 a k (V' k) = e) (ho : ∀ c, c ≠ k → V' c = V c) : (wsOf L a V).set k (a k, e) = wsOf L a V' := by
  apply List.ext_getElem?
  intro j
  rw [List.getElem?_set]
  by_cases hj : k = j
  · subst hj
    simp only [if_true]
    by_cases hk : k < L.1
    · rw [wsOf_at hk, he]
      simp [wsOf, hk]
    · simp [wsOf, hk]
  · rw [if_neg hj]
    by_cases hk : j < L.1
    · rw [wsOf_at hk, wsOf_at hk, ho j (Ne.symm hj)]
    · simp [wsOf, hk]
def Apart (L : Lay) (a : Nat → Nat) : Prop := ∀ i j, i < L.1 → j < L.1 → a i = a j → i = j
theorem wsOf_D {L : Lay} {a : Nat → Nat} {V : Mem} {A : Nat → Prop} (h : Apart L a) (hA : ∀ k, k < L.1 → A (a k)) : va_D A (wsOf L a V) := by
  refine ⟨fun i j p q hi hj e => ?_, fun k q hk => ?_⟩
  · obtain ⟨h1, rfl⟩ := wsOf_of hi
    obtain ⟨h2, rfl⟩ := wsOf_of hj
    exact h i j h1 h2 e
  · obtain ⟨h1, rfl⟩ := wsOf_of hk
    exact hA k h1
def rgA (L : Lay) (a : Nat → Nat) (sz : Nat) : Nat → Prop := fun q => (∃ k, k < L.1 ∧ q = a k) ∨ sz ≤ q
