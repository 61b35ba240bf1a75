/-! the reference's times -/
theorem div_ne {i cr : Nat} (hc : 1 ≤ cr) (hi : 0 < i) : i / cr ≠ (i - 1) / cr ↔ i % cr = 0 := by
  have h1 := Nat.div_add_mod i cr
  have h2 := Nat.div_add_mod (i - 1) cr
  have h3 := Nat.mod_lt i (show 0 < cr by omega)
  have h4 := Nat.mod_lt (i - 1) (show 0 < cr by omega)
  have h5 : (i - 1) / cr ≤ i / cr := Nat.div_le_div_right (by omega)
  constructor
  · intro h
    have h6 : (i - 1) / cr + 1 ≤ i / cr := by omega
    have h7 : cr * ((i - 1) / cr + 1) ≤ cr * (i / cr) := Nat.mul_le_mul_left _ h6
    rw [Nat.mul_add, Nat.mul_one] at h7
    omega
  · intro h e
    rw [← e] at h2
    omega
/-- the ways up to place i, the way home counted as a trip ends -/
def trM (wy : Int → Int → Int) (cr : Nat) (f : Nat → Int) (n i : Nat) : Int := mv wy cr f i + (if 0 < i ∧ (i % cr = 0 ∨ i = n) then wy (f (i - 1)) (-1) else 0)
theorem trM_s {wy : Int → Int → Int} {cr : Nat} {f : Nat → Int} {n i : Nat} (hc : 1 ≤ cr) (hi : i < n) (hw : ∀ p, wy (-1) p = wy p (-1)) : trM wy cr f n (i + 1) = trM wy cr f n i + (if i % cr = 0 then wy (f i) (-1) else wy (f (i - 1)) (f i)) + (if i = n - 1 ∨ (i + 1) % cr = 0 then wy (f i) (-1) else 0) := by
  unfold trM
  simp only [mv, Nat.add_sub_cancel]
  have e1 : (0 < i + 1 ∧ ((i + 1) % cr = 0 ∨ i + 1 = n)) ↔ (i = n - 1 ∨ (i + 1) % cr = 0) := by omega
  simp only [e1]
  generalize (if i = n - 1 ∨ (i + 1) % cr = 0 then wy (f i) (-1) else 0) = en
  by_cases h0 : i = 0
  · subst h0
    rw [if_neg (c := 0 < 0 ∧ 0 / cr ≠ (0 - 1) / cr) (fun q => absurd q.1 (Nat.lt_irrefl _)), if_pos rfl, if_neg (c := 0 < 0 ∧ (0 % cr = 0 ∨ 0 = n)) (fun q => absurd q.1 (Nat.lt_irrefl _)), if_pos (Nat.zero_mod _), hw]
    omega
  · by_cases hm : i % cr = 0
    · rw [if_pos (c := 0 < i ∧ i / cr ≠ (i - 1) / cr) ⟨by omega, (div_ne hc (by omega)).mpr hm⟩, if_pos (c := 0 < i ∧ (i % cr = 0 ∨ i = n)) ⟨by omega, Or.inl hm⟩, if_pos hm, hw]
      omega
    · rw [if_neg (c := 0 < i ∧ i / cr ≠ (i - 1) / cr) (fun q => hm ((div_ne hc (by omega)).mp q.2)), if_neg (c := i = 0) h0, if_neg (c := 0 < i ∧ (i % cr = 0 ∨ i = n)) (fun q => q.2.elim hm (by omega)), if_neg hm]
      omega
theorem trM_end {wy : Int → Int → Int} {cr : Nat} {f g : Nat → Int} {n : Nat} (h0 : wy (-1) (-1) = 0) : trM wy cr f n n + 20 * chg g n = moveT wy cr f g n := by
  unfold trM moveT
  by_cases h : n = 0
  · subst h
    rw [if_neg (fun q => by omega), if_pos rfl, h0]
  · rw [if_pos ⟨by omega, Or.inr rfl⟩, if_neg h]
theorem trM_in {wy : Int → Int → Int} {cr : Nat} {f : Nat → Int} {n i : Nat} (h : ∀ p q, 0 ≤ wy p q ∧ wy p q ≤ 100000) (hi : i ≤ 40) : 0 ≤ trM wy cr f n i ∧ trM wy cr f n i ≤ 8100000 := by
  have h1 := mv_in (cr := cr) (f := f) h i
  have h2 := h (f (i - 1)) (-1)
  unfold trM
  split <;> omega
theorem way_00 (x y : Nat → Int) (np : Int) : way x y np (-1) (-1) = 0 := by
  unfold way co
  rw [if_neg (by omega), if_neg (by omega)]
  rfl
theorem picked_r (n b a : Int) : (n * b + b - a - 1) / (b - a) = picked n b a := by
  unfold picked
  congr 1
  omega
