theorem poolF_all {f : Nat → Int} {P : Int → Prop} : ∀ {k : Nat}, (∀ i, i < k → P (f i)) → ∀ j, j < k → P (poolF f k j) := by
  intro k
  induction k with
  | zero => intro _ j h; omega
  | succ k ih =>
    intro h j hj
    have hk := ih (fun i hi => h i (by omega))
    have hle : insN (poolF f k) (f k) k ≤ k := insN_le
    show P (insF (poolF f k) k (f k) j)
    unfold insF
    by_cases h1 : j < insN (poolF f k) (f k) k
    · rw [if_pos h1]; exact hk j (by omega)
    · rw [if_neg h1]
      by_cases h2 : j = insN (poolF f k) (f k) k
      · rw [if_pos h2]; exact h k (by omega)
      · rw [if_neg h2, if_pos (by omega)]; exact hk (j - 1) (by omega)
/-- U is V but for TripPlan's pool -/
def poolInv (U V : Mem) (f : Nat → Int) (k : Nat) : Prop := U 44 4 = (k : Int) ∧ (∀ j, j < k → U 45 j = poolF f k j) ∧ ∀ c, c ≠ 44 → c ≠ 45 → U c = V c
theorem poolInv_s {U V : Mem} {f : Nat → Int} {k : Nat} (h : poolInv U V f k) : poolInv (up (up (shiftM U 45 (insN (U 45) (f k) k) k) 45 (insN (U 45) (f k) k) (f k)) 44 4 ((k : Int) + 1)) V f (k + 1) := by
  obtain ⟨h1, h2, h3⟩ := h
  refine ⟨by rw [up_eq]; omega, fun j hj => ?_, fun c h4 h5 => ?_⟩
  · rw [up_ne (by omega), shift_ins]
    exact insF_congr h2 j hj
  · rw [up_ne1 h4, up_ne1 h5, shiftM_ne h5]
    exact h3 c h4 h5
theorem way_in {x y : Nat → Int} {np p q : Int} (hx : ∀ p, p < 40 → 0 ≤ x p ∧ x p ≤ 100000) (hy : ∀ p, p < 40 → 0 ≤ y p ∧ y p ≤ 100000) (hn : np ≤ 40) : 0 ≤ way x y np p q ∧ way x y np p q ≤ 100000 := by
  have cx : ∀ p, 0 ≤ co x np p ∧ co x np p ≤ 100000 := fun p => by
    unfold co
    split
    · exact hx _ (by omega)
    · omega
  have cy : ∀ p, 0 ≤ co y np p ∧ co y np p ≤ 100000 := fun p => by
    unfold co
    split
    · exact hy _ (by omega)
    · omega
  have za : ∀ u v : Int, 0 ≤ u → u ≤ 100000 → 0 ≤ v → v ≤ 100000 → 0 ≤ zabs (u - v) ∧ zabs (u - v) ≤ 100000 := fun u v _ _ _ _ => by
    unfold zabs
    split <;> omega
  have h1 := za (co x np p) (co x np q) (cx p).1 (cx p).2 (cx q).1 (cx q).2
  have h2 := za (co y np p) (co y np q) (cy p).1 (cy p).2 (cy q).1 (cy q).2
  unfold way
  omega
