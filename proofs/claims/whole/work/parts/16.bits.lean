/-! longs: bits and comparing -/
theorem jN_or (x y : Nat) : jN (x : Int) ||| jN (y : Int) = jN ((x ||| y : Nat) : Int) := by
  rw [jN_lN, jN_lN, jN_lN]
  apply Int64.toBitVec.inj
  show BitVec.ofNat 64 x ||| BitVec.ofNat 64 y = BitVec.ofNat 64 (x ||| y)
  simp
theorem jN_and (x y : Nat) : jN (x : Int) &&& jN (y : Int) = jN ((x &&& y : Nat) : Int) := by
  rw [jN_lN, jN_lN, jN_lN]
  apply Int64.toBitVec.inj
  show BitVec.ofNat 64 x &&& BitVec.ofNat 64 y = BitVec.ofNat 64 (x &&& y)
  simp
theorem jN_and1 (x : Nat) : jN (x : Int) &&& jN 1 = jN ((x % 2 : Nat) : Int) := by
  have h := jN_and x 1
  rw [Nat.and_one_is_mod] at h
  exact h
theorem jN_bit {k : Nat} (h : k < 63) : jN 1 <<< ((iN (k : Int)).toInt64 &&& 63) = jN ((2 ^ k : Nat) : Int) := by
  have : ∀ k : Fin 63, jN 1 <<< ((nI k.val).toInt64 &&& 63) = lN (2 ^ k.val) := by decide +kernel
  rw [iN_nI, jN_lN]
  exact this ⟨k, h⟩
theorem jN_shr {n k : Nat} (hn : n < 9223372036854775808) (hk : k < 64) : ((jN (n : Int)).toUInt64 >>> ((iN (k : Int)).toInt64.toUInt64 &&& Int64.toUInt64 63)).toInt64 = jN ((n / 2 ^ k : Nat) : Int) := by
  have e : ∀ k : Fin 64, ((nI k.val).toInt64.toUInt64 &&& Int64.toUInt64 63) = UInt64.ofNat k.val := by decide +kernel
  rw [iN_nI, jN_lN, jN_lN, e ⟨k, hk⟩]
  apply Int64.toBitVec.inj
  apply BitVec.eq_of_toNat_eq
  show (((lN n).toUInt64 >>> UInt64.ofNat k).toBitVec).toNat = (BitVec.ofNat 64 (n / 2 ^ k)).toNat
  have h1 : ((lN n).toUInt64 >>> UInt64.ofNat k).toNat = (lN n).toUInt64.toNat / 2 ^ k := by
    rw [UInt64.toNat_shiftRight, Nat.shiftRight_eq_div_pow, UInt64.toNat_ofNat_of_lt' (by show k < 2 ^ 64; omega), Nat.mod_eq_of_lt hk]
  have h2 : (lN n).toUInt64.toNat = n := by
    show (BitVec.ofNat 64 n).toNat = n
    rw [BitVec.toNat_ofNat]
    exact Nat.mod_eq_of_lt (by omega)
  rw [show (((lN n).toUInt64 >>> UInt64.ofNat k).toBitVec).toNat = ((lN n).toUInt64 >>> UInt64.ofNat k).toNat from rfl, h1, h2, BitVec.toNat_ofNat]
  exact (Nat.mod_eq_of_lt (Nat.lt_of_le_of_lt (Nat.div_le_self _ _) (by omega))).symm
/-- how two longs compare -/
def cmpz (u v : Int) : Int := if v < u then 1 else if u = v then 0 else -1
theorem cmpz_c (u v : Int) : (u < v ∧ cmpz u v = -1) ∨ (u = v ∧ cmpz u v = 0) ∨ (v < u ∧ cmpz u v = 1) := by
  unfold cmpz
  rcases Int.lt_trichotomy u v with h | h | h
  · exact Or.inl ⟨h, by rw [if_neg (by omega), if_neg (by omega)]⟩
  · exact Or.inr (Or.inl ⟨h, by rw [if_neg (by omega), if_pos h]⟩)
  · exact Or.inr (Or.inr ⟨h, by rw [if_pos h]⟩)
theorem cmpz_j {u v : Int} (hu : -9223372036854775808 ≤ u ∧ u ≤ 9223372036854775807) (hv : -9223372036854775808 ≤ v ∧ v ≤ 9223372036854775807) : lg_cmp (jN u) (jN v) = iN (cmpz u v) := by
  unfold lg_cmp cmpz
  rcases Int.lt_trichotomy u v with h | h | h
  · have h1 : ¬ jN v < jN u := fun q => absurd ((jN_lt hv hu).mp q) (by omega)
    have h2 : ¬ jN u = jN v := fun q => absurd ((jN_eq hu hv).mp q) (by omega)
    simp only [h1, h2, if_false, show ¬ v < u by omega, show ¬ u = v by omega]
    rfl
  · subst h
    have h1 : ¬ jN u < jN u := fun q => absurd ((jN_lt hv hu).mp q) (by omega)
    simp only [h1, if_false, if_true, show ¬ u < u by omega]
    rfl
  · have h1 : jN v < jN u := (jN_lt hv hu).mpr h
    simp only [h1, if_true, h]
    rfl
theorem bitOr {lo b c : Nat} (h : lo ≤ b) : (decide (lo ≤ c ∧ c < b) || decide (b = c)) = decide (lo ≤ c ∧ c < b + 1) := by
  by_cases e : b = c
  · subst e; simp [h]
  · simp only [e, decide_false, Bool.or_false]
    exact decide_eq_decide.mpr (by omega)
