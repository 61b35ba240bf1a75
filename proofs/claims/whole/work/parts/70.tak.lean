/-! the reference's slots -/
def cov (g w : Nat → Int) (kc i : Nat) : Prop := ∃ j, j < kc ∧ g j ≠ -1 ∧ g j ≤ (i : Int) ∧ (i : Int) < g j + w j
/-- the slots that are taken -/
def tkI (t g w : Nat → Int) (kc : Nat) : Prop := ∀ i, i < 120 → (t i = 1 ∧ cov g w kc i) ∨ (t i = 0 ∧ ¬ cov g w kc i)
theorem tkI_in {t g w : Nat → Int} {kc : Nat} (h : tkI t g w kc) : ∀ i, i < 120 → 0 ≤ t i ∧ t i ≤ 1 := fun i hi => by
  rcases h i hi with q | q <;> omega
theorem free_tk {t g w : Nat → Int} {kc s sl : Nat} {d : Int} (h : tkI t g w kc) (hd : 1 ≤ d) (hs : (s : Int) + d ≤ sl) (hsl : sl ≤ 120) (hg : ∀ j, j < kc → -1 ≤ g j) (hw : ∀ j, j < kc → 1 ≤ w j) : free g w kc s d ↔ ∀ i : Nat, s ≤ i → (i : Int) < s + d → t i = 0 := by
  constructor
  · intro hf i h1 h2
    rcases h i (by omega) with ⟨-, j, a1, a2, a3, a4⟩ | q
    · exact absurd ⟨a2, by omega, by omega⟩ (hf j a1)
    · exact q.1
  · intro ht j hj ⟨a1, a2, a3⟩
    have h1 := hg j hj
    have h2 := hw j hj
    obtain ⟨i, hi⟩ : ∃ i : Nat, (i : Int) = max (s : Int) (g j) := ⟨(max (s : Int) (g j)).toNat, by omega⟩
    have h3 := ht i (by omega) (by omega)
    rcases h i (by omega) with q | q
    · omega
    · exact q.2 ⟨j, hj, a1, by omega, by omega⟩
theorem tkI_0 {w : Nat → Int} {t g : Nat → Int} {kc : Nat} (h : ∀ i, i < 120 → t i = 0) (hg : ∀ j, j < kc → g j = -1) : tkI t g w kc := fun i hi => Or.inr ⟨h i hi, fun ⟨j, a1, a2, _⟩ => a2 (hg j a1)⟩
theorem tkI_stand {t t' g w : Nat → Int} {kc k : Nat} {s : Int} (h : tkI t g w kc) (hk : k < kc) (hg : g k = -1) (hs : s ≠ -1) (ht : ∀ i : Nat, t' i = if s ≤ (i : Int) ∧ (i : Int) < s + w k then 1 else t i) : tkI t' (up1 g k s) w kc := fun i hi => by
  rw [ht]
  by_cases q : s ≤ (i : Int) ∧ (i : Int) < s + w k
  · rw [if_pos q]
    exact Or.inl ⟨rfl, k, hk, by unfold up1; simp [hs], by unfold up1; simp [q.1], by unfold up1; simp [q.2]⟩
  · rw [if_neg q]
    rcases h i hi with ⟨e, j, a1, a2, a3, a4⟩ | ⟨e, hn⟩
    · have : j ≠ k := fun z => a2 (by rw [z]; exact hg)
      exact Or.inl ⟨e, j, a1, by unfold up1; rw [if_neg this]; exact a2, by unfold up1; rw [if_neg this]; exact a3, by unfold up1; rw [if_neg this]; exact a4⟩
    · refine Or.inr ⟨e, fun ⟨j, a1, a2, a3, a4⟩ => ?_⟩
      unfold up1 at a2 a3 a4
      by_cases z : j = k
      · subst z
        simp only [if_true] at a2 a3 a4
        exact q ⟨a3, a4⟩
      · rw [if_neg z] at a2 a3 a4
        exact hn ⟨j, a1, a2, a3, a4⟩
theorem up1_same {g : Nat → Int} {k : Nat} {v : Int} (h : g k = v) : up1 g k v = g := funext fun j => by
  unfold up1
  split
  · rename_i e; rw [e, h]
  · rfl
theorem othR_left {w fx hm f : Nat → Int} {kc sl : Nat} {num : Int} (hf : ∀ j, fx j = -1 → f j = -1) : ∀ {k : Nat} {g : Nat → Int}, othR w fx hm kc sl num f k g → ∀ j, k ≤ j → fx j = -1 → g j = -1
  | 0, g, h, j, _, hj => by rw [show g = f from h]; exact hf j hj
  | k + 1, g, ⟨a, ha, h⟩, j, hk, hj => by
    have ih := othR_left hf ha j (by omega) hj
    rcases h with ⟨-, -, z, hz, rfl⟩ | ⟨-, rfl⟩
    · unfold up1
      rw [if_neg (by omega)]
      exact ih
    · exact ih
theorem othR_lo {w fx hm f : Nat → Int} {kc sl : Nat} {num : Int} (hw : ∀ j, j < kc → 0 ≤ w j) (hf : ∀ j, -1 ≤ f j) : ∀ {k : Nat} {g : Nat → Int}, k ≤ kc → othR w fx hm kc sl num f k g → ∀ j, -1 ≤ g j
  | 0, g, _, h, j => by rw [show g = f from h]; exact hf j
  | k + 1, g, hk, ⟨a, ha, h⟩, j => by
    have ih := othR_lo hw hf (by omega) ha j
    rcases h with ⟨-, -, z, hz, rfl⟩ | ⟨-, rfl⟩
    · unfold up1
      split
      · have := isLow_in hz (hw k (by omega))
        omega
      · exact ih
    · exact ih
/-- a feeder is set: its slots are taken -/
def stM (V : Mem) (p s : Nat) (d : Int) : Mem := fun c j => if c = 18 ∧ s ≤ j ∧ (j : Int) < s + d then 1 else up V 13 p (s : Int) c j
theorem stM_18 {V : Mem} {p s : Nat} {d : Int} (i : Nat) : stM V p s d 18 i = if (s : Int) ≤ (i : Int) ∧ (i : Int) < s + d then 1 else V 18 i := by
  unfold stM
  by_cases q : (s : Int) ≤ (i : Int) ∧ (i : Int) < s + d
  · rw [if_pos ⟨rfl, by omega, q.2⟩, if_pos q]
  · rw [if_neg (fun z => q ⟨by omega, z.2.2⟩), if_neg q, up_ne (by omega)]
theorem stM_13 {V : Mem} {p s : Nat} {d : Int} (i : Nat) : stM V p s d 13 i = if i = p then (s : Int) else V 13 i := by
  unfold stM
  rw [if_neg (fun z => by omega)]
  by_cases q : i = p
  · subst q; rw [if_pos rfl, up_eq]
  · rw [if_neg q, up_ne (by omega)]
theorem stM_ne {V : Mem} {p s c : Nat} {d : Int} (h1 : c ≠ 13) (h2 : c ≠ 18) : stM V p s d c = V c := funext fun j => by
  unfold stM
  rw [if_neg (fun z => h2 z.1), up_ne (Or.inl h1)]
/-- the feeders of machine m stand as g -/
def fdI (V U : Mem) (m kc : Nat) (g : Nat → Int) : Prop := (∀ j, j < 10 → U 13 (10 * m + j) = g j) ∧ (∀ j, ¬ (10 * m ≤ j ∧ j < 10 * m + 10) → U 13 j = V 13 j) ∧ tkI (U 18) g (V 1) kc ∧ ∀ c, c ≠ 13 → c ≠ 18 → U c = V c
theorem fdI_stand {V U : Mem} {m kc k s : Nat} {g : Nat → Int} (h : fdI V U m kc g) (hk : k < kc) (hk10 : k < 10) (hg : g k = -1) : fdI V (stM U (10 * m + k) s (V 1 k)) m kc (up1 g k (s : Int)) := by
  obtain ⟨h1, h2, h3, h4⟩ := h
  refine ⟨fun j hj => ?_, fun j hj => ?_, tkI_stand h3 hk hg (by omega) (fun i => stM_18 i), fun c a b => by rw [stM_ne a b]; exact h4 c a b⟩
  · rw [stM_13]
    unfold up1
    by_cases e : j = k
    · subst e; rw [if_pos rfl, if_pos rfl]
    · rw [if_neg (by omega), if_neg e]; exact h1 j hj
  · rw [stM_13, if_neg (by omega)]
    exact h2 j hj
/-- taken slots so far -/
def stI (V : Mem) (p s : Nat) (i : Nat) : Mem := fun c j => if c = 18 ∧ s ≤ j ∧ j < i then 1 else up V 13 p (s : Int) c j
theorem stI_0 {V : Mem} {p s : Nat} : up V 13 p (s : Int) = stI V p s s := funext fun c => funext fun j => by
  unfold stI
  rw [if_neg (by omega)]
theorem stI_s {V : Mem} {p s i : Nat} (h : s ≤ i) : up (stI V p s i) 18 i 1 = stI V p s (i + 1) := funext fun c => funext fun j => by
  unfold stI
  by_cases e : c = 18 ∧ j = i
  · obtain ⟨rfl, rfl⟩ := e
    rw [up_eq, if_pos (by omega)]
  · rw [up_ne (by omega)]
    by_cases q : c = 18 ∧ s ≤ j ∧ j < i
    · rw [if_pos q, if_pos (by omega)]
    · rw [if_neg q, if_neg (by omega)]
theorem stI_end {V : Mem} {p s : Nat} {d : Int} {i : Nat} (h : (i : Int) = s + d) : stI V p s i = stM V p s d := funext fun c => funext fun j => by
  unfold stI stM
  by_cases q : c = 18 ∧ s ≤ j ∧ j < i
  · rw [if_pos q, if_pos (by omega)]
  · rw [if_neg q, if_neg (by omega)]
