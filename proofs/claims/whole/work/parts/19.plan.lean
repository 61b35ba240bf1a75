/-! TripPlan: words -/
theorem tb_iff (f k : Nat) : f.testBit k = true ↔ f / 2 ^ k % 2 = 1 := by
  rw [Nat.testBit_eq_decide_div_mod_eq, decide_eq_true_eq]
theorem tb_not (f k : Nat) : f.testBit k = false ↔ ¬ f / 2 ^ k % 2 = 1 := by
  rw [Nat.testBit_eq_decide_div_mod_eq, decide_eq_false_iff_not]
theorem xor_m1 {p : Nat} (h : p < 64) : iN (p : Int) ^^^ iN (-1) = iN (-(p : Int) - 1) := by
  have : ∀ p : Fin 64, iN ((p.val : Nat) : Int) ^^^ iN (-1) = iN (-((p.val : Nat) : Int) - 1) := by decide +kernel
  exact this ⟨p, h⟩
theorem and_not {l p : Nat} (hl : l < 64) (hp : p < 64) : iN (l : Int) &&& iN (-(p : Int) - 1) = iN ((l &&& (63 - p) : Nat) : Int) := by
  have : ∀ l p : Fin 64, iN ((l.val : Nat) : Int) &&& iN (-((p.val : Nat) : Int) - 1) = iN ((l.val &&& (63 - p.val) : Nat) : Int) := by decide +kernel
  exact this ⟨l, hl⟩ ⟨p, hp⟩
theorem and_not0 {l p : Nat} (hl : l < 64) (hp : p < 64) : l &&& (63 - p) = 0 ↔ ∀ j, j < 6 → l.testBit j = true → p.testBit j = true := by
  have : ∀ l p : Fin 64, (l.val &&& (63 - p.val) = 0) ↔ ∀ j : Fin 6, l.val.testBit j.val = true → p.val.testBit j.val = true := by decide +kernel
  rw [this ⟨l, hl⟩ ⟨p, hp⟩]
  exact ⟨fun h j hj => h ⟨j, hj⟩, fun h j => h j.val j.isLt⟩
/-- the best of those below n whose bit is set, of several the first -/
def bInv (f : Nat) (w : Nat → Int) (n : Nat) (best least : Int) : Prop := (best = -1 ∧ ∀ k, k < n → f.testBit k = false) ∨ ∃ b : Nat, b < n ∧ best = (b : Int) ∧ f.testBit b = true ∧ least = w b ∧ ∀ k, k < n → f.testBit k = true → w b ≤ w k ∧ (w k ≤ w b → b ≤ k)
theorem bInv_0 {f : Nat} {w : Nat → Int} {least : Int} : bInv f w 0 (-1) least := Or.inl ⟨rfl, fun k h => absurd h (Nat.not_lt_zero _)⟩
theorem bInv_skip {f : Nat} {w : Nat → Int} {n : Nat} {best least : Int} (h : bInv f w n best least) (hb : f.testBit n = false) : bInv f w (n + 1) best least := by
  rcases h with ⟨h1, h2⟩ | ⟨b, h1, h2, h3, h4, h5⟩
  · refine Or.inl ⟨h1, fun k hk => ?_⟩
    by_cases e : k = n
    · rw [e]; exact hb
    · exact h2 k (by omega)
  · refine Or.inr ⟨b, by omega, h2, h3, h4, fun k hk hf => ?_⟩
    by_cases e : k = n
    · subst e; rw [hb] at hf; cases hf
    · exact h5 k (by omega) hf
theorem bInv_take {f : Nat} {w : Nat → Int} {n : Nat} {best least : Int} (h : bInv f w n best least) (hb : f.testBit n = true) (hl : best = -1 ∨ w n < least) : bInv f w (n + 1) (n : Int) (w n) := by
  refine Or.inr ⟨n, by omega, rfl, hb, rfl, fun k hk hf => ?_⟩
  by_cases e : k = n
  · subst e; exact ⟨Int.le_refl _, fun _ => Nat.le_refl _⟩
  · rcases h with ⟨h1, h2⟩ | ⟨b, h1, h2, h3, h4, h5⟩
    · rw [h2 k (by omega)] at hf; cases hf
    · have := h5 k (by omega) hf
      have hlt : w n < w b := by
        rcases hl with q | q
        · omega
        · omega
      exact ⟨by omega, fun q => absurd q (by omega)⟩
theorem bInv_keep {f : Nat} {w : Nat → Int} {n : Nat} {best least : Int} (h : bInv f w n best least) (hn : ¬ best = -1) (hl : least ≤ w n) : bInv f w (n + 1) best least := by
  rcases h with ⟨h1, h2⟩ | ⟨b, h1, h2, h3, h4, h5⟩
  · exact absurd h1 hn
  · refine Or.inr ⟨b, by omega, h2, h3, h4, fun k hk hf => ?_⟩
    by_cases e : k = n
    · subst e; exact ⟨by omega, fun _ => by omega⟩
    · exact h5 k (by omega) hf
theorem bInv_b {f : Nat} {w : Nat → Int} {n : Nat} {best least : Int} (h : bInv f w n best least) (hn : n ≤ 6) : -1 ≤ best ∧ best ≤ 6 := by
  rcases h with ⟨h1, h2⟩ | ⟨b, h1, h2, h3, h4, h5⟩
  · omega
  · omega
theorem bInv_l {f : Nat} {w : Nat → Int} {n : Nat} {best least : Int} (h : bInv f w n best least) (hw : ∀ k, k < n → f.testBit k = true → 0 ≤ w k ∧ w k ≤ 10000000) (hn : ¬ best = -1) : 0 ≤ least ∧ least ≤ 10000000 := by
  rcases h with ⟨h1, h2⟩ | ⟨b, h1, h2, h3, h4, h5⟩
  · exact absurd h1 hn
  · rw [h4]; exact hw b h1 h3
/-- the bits of those that may come next -/
theorem fBit {f n c : Nat} {P : Nat → Prop} [DecidablePred P] (h : ∀ k, f.testBit k = decide (k < n ∧ P k)) (hc : c = n) (hp : P n) : ∀ k, (f ||| 2 ^ c).testBit k = decide (k < n + 1 ∧ P k) := fun k => by
  subst hc
  rw [tBit, h]
  by_cases e : c = k
  · subst e; simp [hp]
  · simp only [e, decide_false, Bool.or_false]
    exact decide_eq_decide.mpr ⟨fun q => ⟨by omega, q.2⟩, fun q => ⟨by omega, q.2⟩⟩
theorem fBitN {f n : Nat} {P : Nat → Prop} [DecidablePred P] (h : ∀ k, f.testBit k = decide (k < n ∧ P k)) (hp : ¬ P n) : ∀ k, f.testBit k = decide (k < n + 1 ∧ P k) := fun k => by
  rw [h]
  refine decide_eq_decide.mpr ⟨fun q => ⟨by omega, q.2⟩, fun q => ⟨?_, q.2⟩⟩
  by_cases e : k = n
  · subst e; exact absurd q.2 hp
  · omega
