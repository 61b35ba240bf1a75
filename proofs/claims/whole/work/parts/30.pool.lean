/-! a pool by number -/
def insN (g : Nat → Int) (p : Int) : Nat → Nat
  | 0 => 0
  | n + 1 => if p < g n then insN g p n else n + 1
theorem insN_t {g : Nat → Int} {p : Int} {n : Nat} (h : p < g n) : insN g p (n + 1) = insN g p n := if_pos h
theorem insN_f {g : Nat → Int} {p : Int} {n : Nat} (h : ¬ p < g n) : insN g p (n + 1) = n + 1 := if_neg h
theorem insN_le {g : Nat → Int} {p : Int} {n : Nat} : insN g p n ≤ n := by
  induction n with
  | zero => exact Nat.le_refl _
  | succ n ih =>
    simp only [insN]
    split
    · omega
    · omega
theorem insN_congr {g g' : Nat → Int} {p : Int} {n : Nat} (h : ∀ j, j < n → g j = g' j) : insN g p n = insN g' p n := by
  induction n with
  | zero => rfl
  | succ n ih =>
    simp only [insN, h n (by omega), ih (fun j hj => h j (by omega))]
def insF (g : Nat → Int) (n : Nat) (p : Int) : Nat → Int := fun j => if j < insN g p n then g j else if j = insN g p n then p else if j ≤ n then g (j - 1) else g j
theorem insF_congr {g g' : Nat → Int} {p : Int} {n : Nat} (h : ∀ j, j < n → g j = g' j) : ∀ j, j < n + 1 → insF g n p j = insF g' n p j := by
  intro j hj
  have hle : insN g p n ≤ n := insN_le
  unfold insF
  rw [← insN_congr h]
  by_cases h1 : j < insN g p n
  · rw [if_pos h1, if_pos h1, h j (by omega)]
  · rw [if_neg h1, if_neg h1]
    by_cases h2 : j = insN g p n
    · rw [if_pos h2, if_pos h2]
    · rw [if_neg h2, if_neg h2, if_pos (by omega), if_pos (by omega), h (j - 1) (by omega)]
/-- the first k of f, by number -/
def poolF (f : Nat → Int) : Nat → Nat → Int
  | 0 => fun _ => 0
  | k + 1 => insF (poolF f k) k (f k)
theorem shift_ins {V : Mem} {k n : Nat} {p : Int} : ∀ j, up (shiftM V k (insN (V k) p n) n) k (insN (V k) p n) p k j = insF (V k) n p j := by
  intro j
  have hle : insN (V k) p n ≤ n := insN_le
  unfold insF
  by_cases h2 : j = insN (V k) p n
  · rw [h2, up_eq, if_neg (by omega), if_pos rfl]
  · rw [up_ne (Or.inr h2)]
    by_cases h1 : j < insN (V k) p n
    · rw [if_pos h1, shiftM_lo (by omega)]
    · rw [if_neg h1, if_neg h2]
      unfold shiftM
      by_cases h3 : j ≤ n
      · rw [if_pos ⟨rfl, by omega, h3⟩, if_pos h3]
      · rw [if_neg (fun q => h3 q.2.2), if_neg h3]
/-- what measure lays: ways and which are lower -/
def mRow (U : Mem) (sz : Nat) (hg : Nat → Int) (ds : Nat → Nat → Int) (hm : Nat → Int) (i : Nat) : Prop := U (48 + i) 6 = hm i ∧ U 54 i = hm i ∧ (∀ j, j < sz → U (48 + i) j = ds i j) ∧ ∃ lo : Nat, U 46 i = (lo : Int) ∧ lo < 64 ∧ ∀ j, lo.testBit j = decide (j < sz ∧ hg j < hg i)
def offP (U V : Mem) : Prop := ∀ c, c ≠ 46 → ¬ (48 ≤ c ∧ c < 55) → U c = V c
theorem offP_up {U V : Mem} {c i : Nat} {v : Int} (h : offP U V) (hc : c = 46 ∨ (48 ≤ c ∧ c < 55)) : offP (up U c i v) V := fun k h1 h2 => by
  rw [up_ne1 (fun e => by omega)]
  exact h k h1 h2
theorem mRow_keep {U U' : Mem} {sz : Nat} {hg : Nat → Int} {ds : Nat → Nat → Int} {hm : Nat → Int} {k : Nat} (h : mRow U sz hg ds hm k) (h1 : ∀ j, U' (48 + k) j = U (48 + k) j) (h2 : U' 54 k = U 54 k) (h3 : U' 46 k = U 46 k) : mRow U' sz hg ds hm k := by
  obtain ⟨a1, a2, a3, lo, a4, a5⟩ := h
  exact ⟨by rw [h1]; exact a1, by rw [h2]; exact a2, fun j hj => by rw [h1]; exact a3 j hj, lo, by rw [h3]; exact a4, a5⟩
theorem mRow_up {U : Mem} {sz : Nat} {hg : Nat → Int} {ds : Nat → Nat → Int} {hm : Nat → Int} {i c j : Nat} {v : Int} (hi : i < 6) (hc : (c = 48 + i) ∨ (c = 46 ∧ j = i) ∨ (c = 54 ∧ j = i)) (h : ∀ k, k < i → mRow U sz hg ds hm k) : ∀ k, k < i → mRow (up U c j v) sz hg ds hm k := fun k hk => mRow_keep (h k hk) (fun j' => up_ne (by omega)) (up_ne (by omega)) (up_ne (by omega))
