/-! TRIPS, the mathematics: a pool of sz parts; hg heights, ds ways between, hm ways home; sets of placed ones as bits -/
def tFol (sz : Nat) (hg : Nat → Int) (set i : Nat) : Prop := i < sz ∧ set.testBit i = false ∧ ∀ j, j < sz → hg j < hg i → set.testBit j = true
/-- A set last: the least way still to go -/
def tWL (sz : Nat) (hg : Nat → Int) (ds : Nat → Nat → Int) (hm : Nat → Int) (A : Nat → Nat → Int) : Prop := ∀ set last, set < 2 ^ sz → last < sz → set.testBit last = true →
  ((∀ i, ¬ tFol sz hg set i) → A set last = hm last) ∧ (∀ i, tFol sz hg set i → A set last ≤ ds last i + A (set ||| 2 ^ i) i) ∧ ((∃ i, tFol sz hg set i) → ∃ i, tFol sz hg set i ∧ A set last = ds last i + A (set ||| 2 ^ i) i)
theorem tBit (set i j : Nat) : (set ||| 2 ^ i).testBit j = (set.testBit j || decide (i = j)) := by
  rw [Nat.testBit_or, Nat.testBit_two_pow]
theorem tBit_self (set i : Nat) : (set ||| 2 ^ i).testBit i = true := by
  rw [tBit]; simp
theorem tOr_lt {set sz i : Nat} (h : set < 2 ^ sz) (hi : i < sz) : set ||| 2 ^ i < 2 ^ sz := Nat.or_lt_two_pow h (Nat.pow_lt_pow_right (by omega) hi)
theorem tOr_gt {set i : Nat} (h : set.testBit i = false) : set < set ||| 2 ^ i := by
  have h1 : set ≤ set ||| 2 ^ i := Nat.left_le_or
  rcases Nat.lt_or_ge set (set ||| 2 ^ i) with q | q
  · exact q
  · have e : set = set ||| 2 ^ i := by omega
    rw [e, tBit_self] at h
    cases h
theorem tWL_unique {sz : Nat} {hg : Nat → Int} {ds : Nat → Nat → Int} {hm : Nat → Int} {A B : Nat → Nat → Int} (hA : tWL sz hg ds hm A) (hB : tWL sz hg ds hm B) : ∀ (d set last : Nat), 2 ^ sz - set ≤ d → set < 2 ^ sz → last < sz → set.testBit last = true → A set last = B set last := by
  intro d
  induction d with
  | zero => intro set last h1 h2; omega
  | succ d ih =>
    intro set last h1 h2 h3 h4
    obtain ⟨a1, a2, a3⟩ := hA set last h2 h3 h4
    obtain ⟨b1, b2, b3⟩ := hB set last h2 h3 h4
    have same : ∀ i, tFol sz hg set i → A (set ||| 2 ^ i) i = B (set ||| 2 ^ i) i := fun i hi => by
      have g1 := tOr_gt hi.2.1
      exact ih _ i (by omega) (tOr_lt h2 hi.1) hi.1 (tBit_self _ _)
    by_cases he : ∃ i, tFol sz hg set i
    · obtain ⟨i, p1, p2⟩ := a3 he
      obtain ⟨j, q1, q2⟩ := b3 he
      have r1 := a2 j q1
      have r2 := b2 i p1
      rw [same j q1] at r1
      rw [← same i p1] at r2
      omega
    · rw [a1 (fun i hi => he ⟨i, hi⟩), b1 (fun i hi => he ⟨i, hi⟩)]
/-- the next part: of least way, of several the first -/
def tPick (sz : Nat) (hg : Nat → Int) (A : Nat → Nat → Int) (d : Nat → Int) (set i : Nat) : Prop := tFol sz hg set i ∧ ∀ j, tFol sz hg set j → d i + A (set ||| 2 ^ i) i ≤ d j + A (set ||| 2 ^ j) j ∧ (d j + A (set ||| 2 ^ j) j ≤ d i + A (set ||| 2 ^ i) i → i ≤ j)
def tSet (q : Nat → Nat) : Nat → Nat
  | 0 => 0
  | t + 1 => tSet q t ||| 2 ^ (q t)
def tFrom (ds : Nat → Nat → Int) (hm : Nat → Int) (q : Nat → Nat) : Nat → Nat → Int
  | 0 => hm
  | t + 1 => ds (q t)
/-- q: the order of the places of the pool -/
def tOrd (sz : Nat) (hg : Nat → Int) (ds : Nat → Nat → Int) (hm : Nat → Int) (q : Nat → Nat) : Prop := ∃ A, tWL sz hg ds hm A ∧ ∀ t, t < sz → tPick sz hg A (tFrom ds hm q t) (tSet q t) (q t)
theorem tSet_lt {sz : Nat} {q : Nat → Nat} {t : Nat} (h : ∀ j, j < t → q j < sz) : tSet q t < 2 ^ sz := by
  induction t with
  | zero => exact Nat.two_pow_pos sz
  | succ t ih => exact tOr_lt (ih fun j hj => h j (by omega)) (h t (by omega))
theorem tSet_congr {q r : Nat → Nat} {t : Nat} (h : ∀ j, j < t → q j = r j) : tSet q t = tSet r t := by
  induction t with
  | zero => rfl
  | succ t ih =>
    simp only [tSet]
    rw [ih fun j hj => h j (by omega), h t (by omega)]
theorem tFrom_congr {ds : Nat → Nat → Int} {hm : Nat → Int} {q r : Nat → Nat} {t : Nat} (h : ∀ j, j < t → q j = r j) : tFrom ds hm q t = tFrom ds hm r t := by
  cases t with
  | zero => rfl
  | succ t => simp only [tFrom, h t (by omega)]
theorem tOrd_unique {sz : Nat} {hg : Nat → Int} {ds : Nat → Nat → Int} {hm : Nat → Int} {q r : Nat → Nat} (hq : tOrd sz hg ds hm q) (hr : tOrd sz hg ds hm r) : ∀ t, t < sz → q t = r t := by
  obtain ⟨A, hA, hq⟩ := hq
  obtain ⟨B, hB, hr⟩ := hr
  intro t
  induction t using Nat.strongRecOn with
  | ind t ih =>
    intro ht
    have e : ∀ j, j < t → q j = r j := fun j hj => ih j hj (by omega)
    have h1 := hq t ht
    have h2 := hr t ht
    rw [← tSet_congr e, ← tFrom_congr e] at h2
    have hs : tSet q t < 2 ^ sz := tSet_lt fun j hj => (hq j (by omega)).1.1
    have same : ∀ i, tFol sz hg (tSet q t) i → A (tSet q t ||| 2 ^ i) i = B (tSet q t ||| 2 ^ i) i := fun i hi => tWL_unique hA hB _ _ _ (Nat.le_refl _) (tOr_lt hs hi.1) hi.1 (tBit_self _ _)
    have p1 := h1.2 (r t) h2.1
    have p2 := h2.2 (q t) h1.1
    rw [← same _ h1.1, ← same _ h2.1] at p2
    have := p1.2 (by omega)
    have := p2.2 (by omega)
    omega
/-- where a part is left, one may come -/
theorem tFol_some {sz : Nat} (hg : Nat → Int) {set : Nat} (h : ∃ i, i < sz ∧ set.testBit i = false) : ∃ i, tFol sz hg set i := by
  have least : ∀ n : Nat, (∃ i, i < n ∧ set.testBit i = false) → ∃ i, i < n ∧ set.testBit i = false ∧ ∀ j, j < n → set.testBit j = false → hg i ≤ hg j := by
    intro n
    induction n with
    | zero => rintro ⟨i, h, -⟩; omega
    | succ n ih =>
      rintro ⟨i, h1, h2⟩
      by_cases he : ∃ i, i < n ∧ set.testBit i = false
      · obtain ⟨k, k1, k2, k3⟩ := ih he
        by_cases hn : set.testBit n = false ∧ hg n < hg k
        · refine ⟨n, by omega, hn.1, fun j hj hb => ?_⟩
          by_cases e : j = n
          · rw [e]; omega
          · have := k3 j (by omega) hb
            omega
        · refine ⟨k, by omega, k2, fun j hj hb => ?_⟩
          by_cases e : j = n
          · subst e
            by_cases q : hg j < hg k
            · exact absurd ⟨hb, q⟩ hn
            · omega
          · exact k3 j (by omega) hb
      · have e : i = n := by
          by_cases q : i < n
          · exact absurd ⟨i, q, h2⟩ he
          · omega
        subst e
        refine ⟨i, by omega, h2, fun j hj hb => ?_⟩
        by_cases q : j < i
        · exact absurd ⟨j, q, hb⟩ he
        · rw [show j = i by omega]; omega
  obtain ⟨i, h1, h2, h3⟩ := least sz h
  refine ⟨i, h1, h2, fun j hj hlt => ?_⟩
  cases hb : set.testBit j
  · have := h3 j hj hb
    omega
  · rfl
/-- the places of an order are apart -/
theorem tOrd_apart {sz : Nat} {hg : Nat → Int} {ds : Nat → Nat → Int} {hm : Nat → Int} {q : Nat → Nat} (hq : tOrd sz hg ds hm q) : ∀ t u, t < u → u < sz → q t ≠ q u := by
  obtain ⟨A, -, hq⟩ := hq
  have held : ∀ u t, t < u → (tSet q u).testBit (q t) = true := by
    intro u
    induction u with
    | zero => intro t h; omega
    | succ u ih =>
      intro t h
      simp only [tSet]
      rw [tBit]
      by_cases e : t = u
      · subst e; simp
      · rw [ih t (by omega)]; rfl
  intro t u h1 h2 e
  have h3 := (hq u h2).1.2.1
  rw [← e, held u t h1] at h3
  cases h3
