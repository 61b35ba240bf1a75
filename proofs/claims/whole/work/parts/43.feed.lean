/-! feeders -/
/-- the lowest slot with room; -1 without -/
def isLow (f w : Nat → Int) (kc sl : Nat) (d z : Int) : Prop := (z = -1 ∧ ∀ s : Nat, (s : Int) + d ≤ sl → ¬ free f w kc s d) ∨ ∃ s : Nat, z = (s : Int) ∧ (s : Int) + d ≤ sl ∧ free f w kc s d ∧ ∀ r : Nat, r < s → ¬ free f w kc r d
theorem isLow_unique {f w : Nat → Int} {kc sl : Nat} {d z z' : Int} (h : isLow f w kc sl d z) (h' : isLow f w kc sl d z') : z = z' := by
  rcases h with ⟨e, h⟩ | ⟨s, e, h1, h2, h3⟩
  · rcases h' with ⟨e', h'⟩ | ⟨s', e', h1', h2', h3'⟩
    · omega
    · exact absurd h2' (h s' h1')
  · rcases h' with ⟨e', h'⟩ | ⟨s', e', h1', h2', h3'⟩
    · exact absurd h2 (h' s h1)
    · rcases Nat.lt_trichotomy s s' with q | q | q
      · exact absurd h2 (h3' s q)
      · subst q; omega
      · exact absurd h2' (h3 s' q)
theorem isLow_in {f w : Nat → Int} {kc sl : Nat} {d z : Int} (h : isLow f w kc sl d z) (hd : 0 ≤ d) : -1 ≤ z ∧ z ≤ sl := by
  rcases h with ⟨e, h⟩ | ⟨s, e, h1, h2, h3⟩ <;> omega
/-- the fixed ones of a machine -/
def fixF (fx hm : Nat → Int) (num : Int) (f : Nat → Int) (k : Nat) : Nat → Int := fun j => if j < k ∧ hm j = num then fx j else f j
theorem fixF_0 {fx hm f : Nat → Int} {num : Int} : fixF fx hm num f 0 = f := funext fun j => if_neg (fun h => Nat.not_lt_zero _ h.1)
theorem fixF_t {fx hm f : Nat → Int} {num : Int} {k : Nat} (h : hm k = num) : up1 (fixF fx hm num f k) k (fx k) = fixF fx hm num f (k + 1) := funext fun j => by
  unfold up1 fixF
  by_cases e : j = k
  · subst e; simp [h]
  · by_cases q : j < k
    · simp [e, q, show j < k + 1 by omega]
    · simp [e, q, show ¬ j < k + 1 by omega]
theorem fixF_f {fx hm f : Nat → Int} {num : Int} {k : Nat} (h : ¬ hm k = num) : fixF fx hm num f k = fixF fx hm num f (k + 1) := funext fun j => by
  unfold fixF
  by_cases e : j = k
  · subst e; simp [h]
  · by_cases q : j < k
    · simp [q, show j < k + 1 by omega]
    · simp [q, show ¬ j < k + 1 by omega]
/-- the other ones, one after the other -/
def othR (w fx hm : Nat → Int) (kc sl : Nat) (num : Int) (f : Nat → Int) : Nat → (Nat → Int) → Prop
  | 0, g => g = f
  | k + 1, g' => ∃ g, othR w fx hm kc sl num f k g ∧ ((hm k = num ∧ fx k = -1 ∧ ∃ z, isLow g w kc sl (w k) z ∧ g' = up1 g k z) ∨ (¬ (hm k = num ∧ fx k = -1) ∧ g' = g))
theorem othR_unique {w fx hm f : Nat → Int} {kc sl : Nat} {num : Int} : ∀ {k : Nat} {g g' : Nat → Int}, othR w fx hm kc sl num f k g → othR w fx hm kc sl num f k g' → g = g'
  | 0, g, g', h, h' => h.trans h'.symm
  | k + 1, g, g', ⟨a, ha, h⟩, ⟨b, hb, h'⟩ => by
    have e := othR_unique ha hb
    subst e
    rcases h with ⟨h1, h2, z, hz, rfl⟩ | ⟨h1, rfl⟩
    · rcases h' with ⟨h1', h2', z', hz', rfl⟩ | ⟨h1', rfl⟩
      · rw [isLow_unique hz hz']
      · exact absurd ⟨h1, h2⟩ h1'
    · rcases h' with ⟨h1', h2', z', hz', rfl⟩ | ⟨h1', rfl⟩
      · exact absurd ⟨h1', h2'⟩ h1
      · rfl
/-- a memory with one cell's row replaced -/
def setR (V : Mem) (k : Nat) (f : Nat → Int) : Mem := fun c => if c = k then f else V c
theorem setR_eq {V : Mem} {k : Nat} {f : Nat → Int} : setR V k f k = f := if_pos rfl
theorem setR_ne {V : Mem} {k c : Nat} {f : Nat → Int} (h : c ≠ k) : setR V k f c = V c := if_neg h
theorem setR_up {V : Mem} {k i : Nat} {f : Nat → Int} {v : Int} : up (setR V k f) k i v = setR V k (up1 f i v) := funext fun c => funext fun j => by
  unfold up setR up1
  by_cases h : c = k
  · subst h; simp
  · simp [h]
theorem setR_self {V : Mem} {k : Nat} : setR V k (V k) = V := funext fun c => by
  unfold setR
  by_cases h : c = k
  · subst h; simp
  · simp [h]
