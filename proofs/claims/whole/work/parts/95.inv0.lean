/-! the relation at the start -/
theorem V6_row {sd sl : Int} {k : Nat} (h0 : k ≠ 0) (h1 : k ≠ 1) (h2 : ¬ (k = 15 ∨ k = 19 ∨ k = 23)) (h3 : ¬ (k = 17 ∨ k = 21 ∨ k = 25)) : V6x sd sl k = fun _ => 0 := by
  unfold V6x
  rw [if_neg h0, if_neg h1, if_neg h2, if_neg h3]
theorem V6_m {sd sl : Int} {m : Nat} (h : m < 3) : V6x sd sl (15 + 4 * m) = rw4 := by
  unfold V6x
  rw [if_neg (by omega), if_neg (by omega), if_pos (by omega)]
theorem V6_f {sd sl : Int} {m : Nat} (h : m < 3) : V6x sd sl (15 + 4 * m + 2) = rwN := by
  unfold V6x
  rw [if_neg (by omega), if_neg (by omega), if_neg (by omega), if_pos (by omega)]
theorem V6_0 {sd sl : Int} : V6x sd sl 0 = rw0 (max 1 (min 120 sl)) := if_pos rfl
theorem V6_1 {sd sl : Int} : V6x sd sl 1 = rw0 sd := rfl
theorem V7_row {sd sl : Int} {k : Nat} (h0 : k ≠ 0) (h : k ≠ 13) : fillM (V7a sd sl) 13 30 (-1) k = fun _ => 0 := funext fun j => by
  rw [fillM_ne (Or.inl h)]
  unfold V7a
  rw [if_neg h0]
theorem V7_0 {sd sl : Int} {j : Nat} : fillM (V7a sd sl) 13 30 (-1) 0 j = if j = 1 then sd else if j = 2 then max 1 (min 120 sl) else 0 := by
  rw [fillM_ne (Or.inl (by omega))]
  rfl
set_option maxHeartbeats 4000000 in
theorem inv_0 (sd sl : Int) : inv (V6x sd sl) (fillM (V7a sd sl) 13 30 (-1)) := by
  have r : ∀ k, 2 ≤ k → k < 15 → V6x sd sl k = fun _ => 0 := fun k h1 h2 => V6_row (by omega) (by omega) (by omega) (by omega)
  have z9 : rw0 (max 1 (min 120 sl)) 9 = 0 := rfl
  have z8 : rw0 (max 1 (min 120 sl)) 8 = 0 := rfl
  have z0 : rw0 (max 1 (min 120 sl)) 0 = max 1 (min 120 sl) := rfl
  have n5 : rw4 5 = 0 := rfl
  have n3 : rw4 3 = 0 := rfl
  have n4 : rw4 4 = 1 := rfl
  have n6 : rw4 6 = 0 := rfl
  refine ⟨⟨?_, fun m hm => ?_, fun m hm _ => ?_, fun k hk => ?_, fun k hk _ => ?_⟩, ?_, ?_, ?_, ?_, ?_, ?_, ⟨?_, ?_, ?_, ?_, ?_, ?_⟩, ⟨?_, ?_, ?_, ?_⟩, fun m hm => ?_, fun m hm => ?_, fun m hm => ?_, fun m hm k hk => ?_, fun m hm i hi => ?_⟩
  · unfold okC
    rw [V6_0, r 2 (by omega) (by omega), r 3 (by omega) (by omega), r 4 (by omega) (by omega), r 5 (by omega) (by omega), r 6 (by omega) (by omega), r 7 (by omega) (by omega), r 8 (by omega) (by omega), r 9 (by omega) (by omega), r 10 (by omega) (by omega), r 11 (by omega) (by omega), r 12 (by omega) (by omega), r 13 (by omega) (by omega), z0, z8, z9]
    dsimp only
    refine ⟨by omega, by omega, by omega, by omega, by omega, fun k hk => by omega, fun k hk => by omega, fun k hk => by omega, fun k hk => by omega, fun k hk => by omega, fun k hk => by omega, fun k hk => by omega, fun k hk => by omega, fun k hk => by omega, fun k hk => by omega, fun k hk => by omega, fun k hk => by omega, fun m hm => ?_, fun m hm => ?_, fun m hm => ?_, fun m hm => ?_, fun m hm i hi => ?_, fun m hm k hk => ?_, fun m hm k hk => ?_⟩
    · rw [V6_m hm, n3]; omega
    · rw [V6_m hm, n4]; omega
    · rw [V6_m hm, n5]; omega
    · rw [V6_m hm, n6]; omega
    · rw [V6_m hm, n5] at hi; omega
    · rw [V6_f hm]; unfold rwN; rw [if_pos hk]; omega
    · rw [V6_row (k := 15 + 4 * m + 3) (by omega) (by omega) (by omega) (by omega)]; dsimp only; omega
  · unfold xtra
    rw [V6_m hm, n5, n6, r 4 (by omega) (by omega), r 9 (by omega) (by omega), r 10 (by omega) (by omega), r 11 (by omega) (by omega), r 12 (by omega) (by omega), r 13 (by omega) (by omega), V6_row (k := 15 + 4 * m + 3) (by omega) (by omega) (by omega) (by omega)]
    refine ⟨fun t ht => ?_, ?_, fun k hk => rfl⟩
    · exact absurd ht (Nat.not_lt_zero _)
    · show 0 = moveT _ _ _ _ 0
      simp only [moveT, mv, chg, if_true, way_00]
      rfl
  · rw [V6_m hm]; rfl
  · rw [r 2 (by omega) (by omega)] at hk; have : (k : Int) < 0 := hk; omega
  · rw [r 7 (by omega) (by omega)]
  · rw [V7_0]; rfl
  · rw [V7_0, V6_0]; rfl
  · rw [V7_0, r 2 (by omega) (by omega)]; rfl
  · rw [V7_0, r 9 (by omega) (by omega)]; rfl
  · rw [V7_0, V6_0]; rfl
  · rw [V7_0, V6_0]; rfl
  · rw [V7_row (by omega) (by omega), r 3 (by omega) (by omega)]
  · rw [V7_row (by omega) (by omega), r 4 (by omega) (by omega)]
  · rw [V7_row (by omega) (by omega), r 5 (by omega) (by omega)]
  · rw [V7_row (by omega) (by omega), r 6 (by omega) (by omega)]
  · rw [V7_row (by omega) (by omega), r 7 (by omega) (by omega)]
  · rw [V7_row (by omega) (by omega), r 8 (by omega) (by omega)]
  · rw [V7_row (by omega) (by omega), r 10 (by omega) (by omega)]
  · rw [V7_row (by omega) (by omega), r 11 (by omega) (by omega)]
  · rw [V7_row (by omega) (by omega), r 12 (by omega) (by omega)]
  · rw [V7_row (by omega) (by omega), r 13 (by omega) (by omega)]
  · rw [V7_row (by omega) (by omega), V6_m hm]; rfl
  · rw [V7_row (by omega) (by omega), V6_m hm]; rfl
  · rw [V6_0] at hm; have : (m : Int) < 0 := hm; omega
  · rw [V6_f hm, fillM_in (by omega)]; unfold rwN; rw [if_pos hk]
  · rw [V6_m hm] at hi; have : (i : Int) < 0 := hi; omega
