/-! the reference's lines -/
theorem shift_insR2 {V : Mem} {b n p : Nat} {h x y : Nat → Int} : ∀ j, up (shiftM V 15 (b + insP h x y (fun i => V 15 (b + i)) p n) (b + n)) 15 (b + insP h x y (fun i => V 15 (b + i)) p n) (p : Int) 15 (b + j) = insR h x y (fun i => V 15 (b + i)) n p j := by
  intro j
  have hle : insP h x y (fun i => V 15 (b + i)) p n ≤ n := insP_le
  unfold insR
  by_cases h2 : j = insP h x y (fun i => V 15 (b + i)) p n
  · rw [h2, up_eq, if_neg (by omega), if_pos rfl]
  · rw [up_ne (by omega)]
    by_cases h1 : j < insP h x y (fun i => V 15 (b + i)) p n
    · rw [if_pos h1, shiftM_lo (by omega)]
    · rw [if_neg h1, if_neg h2]
      unfold shiftM
      by_cases h3 : j ≤ n
      · rw [if_pos ⟨rfl, by omega, by omega⟩, if_pos h3]
        show V 15 (b + j - 1) = V 15 (b + (j - 1))
        rw [show b + j - 1 = b + (j - 1) by omega]
      · rw [if_neg (fun q => h3 (by omega)), if_neg h3]
def lnJ (V U : Mem) (m : Nat) (sel : Nat → Bool) (p : Nat) : Prop := U 14 m = (nAct sel p : Int) ∧ (∀ j, j < nAct sel p → U 15 (40 * m + j) = lnF (V 10) (V 8) (V 9) sel p j) ∧ (∀ j, ¬ (40 * m ≤ j ∧ j < 40 * m + 40) → U 15 j = V 15 j) ∧ (∀ j, j ≠ m → U 14 j = V 14 j) ∧ ∀ c, c ≠ 14 → c ≠ 15 → U c = V c
theorem lnJ_0 {V : Mem} {m : Nat} {sel : Nat → Bool} : lnJ V (up V 14 m 0) m sel 0 := ⟨by rw [up_eq]; rfl, fun j h => absurd h (Nat.not_lt_zero _), fun j _ => up_ne (by omega), fun j h => up_ne (by omega), fun c a b => up_ne1 a⟩
theorem lnJ_skip {V U : Mem} {m : Nat} {sel : Nat → Bool} {p : Nat} (h : lnJ V U m sel p) (hs : ¬ sel p = true) : lnJ V U m sel (p + 1) := by
  obtain ⟨h1, h2, h3, h4, h5⟩ := h
  refine ⟨by rw [h1]; simp [nAct, hs], fun j hj => ?_, h3, h4, h5⟩
  simp only [nAct, hs] at hj
  simp only [lnF, if_neg hs]
  exact h2 j (by simpa using hj)
theorem lnJ_add {V U : Mem} {m : Nat} {sel : Nat → Bool} {p n : Nat} (h : lnJ V U m sel p) (hs : sel p = true) (hn : nAct sel p = n) (hn40 : n < 40) : lnJ V (up (up (shiftM U 15 (40 * m + insP (V 10) (V 8) (V 9) (fun i => U 15 (40 * m + i)) p n) (40 * m + n)) 15 (40 * m + insP (V 10) (V 8) (V 9) (fun i => U 15 (40 * m + i)) p n) (p : Int)) 14 m ((n : Int) + 1)) m sel (p + 1) := by
  obtain ⟨h1, h2, h3, h4, h5⟩ := h
  subst hn
  have hle : insP (V 10) (V 8) (V 9) (fun i => U 15 (40 * m + i)) p (nAct sel p) ≤ nAct sel p := insP_le
  refine ⟨?_, fun j hj => ?_, fun j hj => ?_, fun j hj => ?_, fun c a b => ?_⟩
  · rw [up_eq]; simp only [nAct, hs, if_true]; omega
  · rw [up_ne (by omega), shift_insR2]
    simp only [lnF, if_pos hs]
    simp only [nAct, hs, if_true] at hj
    exact insR_congr h2 j hj
  · rw [up_ne (by omega), up_ne (by omega)]
    unfold shiftM
    rw [if_neg (by omega)]
    exact h3 j hj
  · rw [up_ne (by omega), up_ne (by omega), shiftM_ne (by omega)]
    exact h4 j hj
  · rw [up_ne1 a, up_ne1 b, shiftM_ne b]
    exact h5 c a b
