theorem mRow_congr {U : Mem} {sz : Nat} {hg hg' : Nat → Int} {ds ds' : Nat → Nat → Int} {hm hm' : Nat → Int} {k : Nat} (hk : k < sz) (h : mRow U sz hg ds hm k) (h1 : ∀ i, i < sz → hg i = hg' i) (h2 : ∀ i j, i < sz → j < sz → ds i j = ds' i j) (h3 : ∀ i, i < sz → hm i = hm' i) : mRow U sz hg' ds' hm' k := by
  obtain ⟨a1, a2, a3, lo, a4, a5, a6⟩ := h
  refine ⟨by rw [← h3 k hk]; exact a1, by rw [← h3 k hk]; exact a2, fun j hj => by rw [← h2 k j hk hj]; exact a3 j hj, lo, a4, a5, fun j => ?_⟩
  rw [a6]
  refine decide_eq_decide.mpr ⟨fun q => ⟨q.1, ?_⟩, fun q => ⟨q.1, ?_⟩⟩
  · rw [← h1 j q.1, ← h1 k hk]; exact q.2
  · rw [h1 j q.1, h1 k hk]; exact q.2
/-- how many of six bits are set -/
def pc6 (s : Nat) : Nat := (if s.testBit 0 = true then 1 else 0) + (if s.testBit 1 = true then 1 else 0) + (if s.testBit 2 = true then 1 else 0) + (if s.testBit 3 = true then 1 else 0) + (if s.testBit 4 = true then 1 else 0) + (if s.testBit 5 = true then 1 else 0)
theorem pc6_or {s b : Nat} (hs : s < 64) (hb : b < 6) : pc6 (s ||| 2 ^ b) ≤ pc6 s + 1 := by
  have : ∀ s : Fin 64, ∀ b : Fin 6, pc6 (s.val ||| 2 ^ b.val) ≤ pc6 s.val + 1 := by decide +kernel
  exact this ⟨s, hs⟩ ⟨b, hb⟩
theorem pc6_all {s sz : Nat} (hs : s < 64) (hsz : sz ≤ 6) (h : ∀ j, j < sz → s.testBit j = true) : sz ≤ pc6 s := by
  have : ∀ s : Fin 64, ∀ z : Fin 7, (∀ j : Fin 6, j.val < z.val → s.val.testBit j.val = true) → z.val ≤ pc6 s.val := by decide +kernel
  exact this ⟨s, hs⟩ ⟨sz, by omega⟩ (fun j hj => h j.val hj)
theorem left_some {s sz i : Nat} (hs : s < 64) (hsz : sz ≤ 6) (hp : pc6 s ≤ i) (hi : i < sz) : ∃ j, j < sz ∧ s.testBit j = false := by
  refine Classical.byContradiction fun hne => ?_
  have : sz ≤ pc6 s := pc6_all hs hsz fun j hj => by
    cases hb : s.testBit j
    · exact absurd ⟨j, hj, hb⟩ hne
    · rfl
  omega
/-- i places from 'from' on hold the pool in the order q -/
def layM (V : Mem) (B fr : Nat) (q : Nat → Nat) (i : Nat) : Mem := fun c j => if c = B ∧ fr ≤ j ∧ j < fr + i then V 45 (q (j - fr)) else V c j
theorem layM_0 {V : Mem} {B fr : Nat} {q : Nat → Nat} : layM V B fr q 0 = V := funext fun c => funext fun j => if_neg (fun h => by omega)
theorem layM_ne {V : Mem} {B fr : Nat} {q : Nat → Nat} {i c : Nat} (h : c ≠ B) : layM V B fr q i c = V c := funext fun j => if_neg (fun z => h z.1)
theorem layM_s {V : Mem} {B fr b i : Nat} {q : Nat → Nat} : up (layM V B fr q i) B (fr + i) (V 45 b) = layM V B fr (fun t => if t = i then b else q t) (i + 1) := funext fun c => funext fun j => by
  unfold up layM
  by_cases h1 : c = B
  · subst h1
    by_cases h2 : j = fr + i
    · subst h2
      simp [show fr ≤ fr + i by omega, show fr + i < fr + (i + 1) by omega, show fr + i - fr = i by omega]
    · by_cases h3 : fr ≤ j ∧ j < fr + i
      · simp [h2, h3, show j < fr + (i + 1) by omega, show ¬ (j - fr = i) by omega]
      · simp [h2, h3, show ¬ (fr ≤ j ∧ j < fr + (i + 1)) by omega]
  · simp [h1]
theorem tPick_congr {sz : Nat} {hg : Nat → Int} {A : Nat → Nat → Int} {ds : Nat → Nat → Int} {hm : Nat → Int} {q : Nat → Nat} {i b t : Nat} (ht : t < i) (h : tPick sz hg A (tFrom ds hm q t) (tSet q t) (q t)) : tPick sz hg A (tFrom ds hm (fun t => if t = i then b else q t) t) (tSet (fun t => if t = i then b else q t) t) ((fun t => if t = i then b else q t) t) := by
  rw [tFrom_congr (q := fun t => if t = i then b else q t) (r := q) (fun j hj => by simp [show j ≠ i by omega]), tSet_congr (q := fun t => if t = i then b else q t) (r := q) (fun j hj => by simp [show j ≠ i by omega])]
  simp only [show t ≠ i by omega, if_false]
  exact h
/-- parts f 0 .. f (sz - 1) in the order g of least way -/
def isArr (ht x y : Nat → Int) (np : Int) (f g : Nat → Int) (sz : Nat) : Prop := ∃ q, tOrd sz (fun i => ht (poolF f sz i).toNat) (fun i j => way x y np (poolF f sz i) (poolF f sz j)) (fun i => way x y np (poolF f sz i) (-1)) q ∧ ∀ t, t < sz → g t = poolF f sz (q t)
