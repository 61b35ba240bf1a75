/-! the reference's trips -/
theorem tAt_eq {sz : Nat} {hg : Nat → Int} {ds : Nat → Nat → Int} {hm : Nat → Int} {A B : Nat → Nat → Int} {set last : Nat} (h0 : B set last = A set last) (h1 : ∀ i, tFol sz hg set i → B (set ||| 2 ^ i) i = A (set ||| 2 ^ i) i) (h : tAt sz hg ds hm A set last) : tAt sz hg ds hm B set last := by
  obtain ⟨a1, a2, a3, a4, a5⟩ := h
  refine ⟨fun q => by rw [h0]; exact a1 q, fun i hi => by rw [h0, h1 i hi]; exact a2 i hi, fun he => ?_, by rw [h0]; exact a4, by rw [h0]; exact a5⟩
  obtain ⟨i, hi, e⟩ := a3 he
  exact ⟨i, hi, by rw [h0, h1 i hi]; exact e⟩
/-- the reference's table -/
def wA (U : Mem) : Nat → Nat → Int := fun q r => U 20 (6 * q + r)
theorem wA_ne {U : Mem} {s l q r : Nat} {v : Int} (hl : l < 6) (hr : r < 6) (h : q ≠ s ∨ r ≠ l) : wA (up U 20 (6 * s + l) v) q r = wA U q r := up_ne (by omega)
theorem wA_eq {U : Mem} {s l : Nat} {v : Int} : wA (up U 20 (6 * s + l) v) s l = v := up_eq
theorem tAt_up6 {sz : Nat} {hg : Nat → Int} {ds : Nat → Nat → Int} {hm : Nat → Int} {U : Mem} {s l set last : Nat} {v : Int} (hsz : sz ≤ 6) (hl : l < 6) (hlast : last < 6) (hs : s < set ∨ (set = s ∧ last ≠ l)) (h : tAt sz hg ds hm (wA U) set last) : tAt sz hg ds hm (wA (up U 20 (6 * s + l) v)) set last :=
  tAt_eq (wA_ne hl hlast (by omega)) (fun i hi => wA_ne hl (by have := hi.1; omega) (by have := tOr_gt hi.2.1; omega)) h
/-- the least of those with P, the first of several -/
def mnI (P : Nat → Prop) (c : Nat → Int) (base : Int) (k : Nat) (best pick : Int) : Prop := (best = base ∧ pick = -1 ∧ ∀ j, j < k → ¬ P j) ∨ ∃ b : Nat, b < k ∧ P b ∧ pick = (b : Int) ∧ best = c b ∧ ∀ j, j < k → P j → c b ≤ c j ∧ (c j ≤ c b → b ≤ j)
theorem mnI_0 {P : Nat → Prop} {c : Nat → Int} {base : Int} : mnI P c base 0 base (-1) := Or.inl ⟨rfl, rfl, fun j h => absurd h (Nat.not_lt_zero _)⟩
theorem mnI_skip {P : Nat → Prop} {c : Nat → Int} {base best pick : Int} {k : Nat} (h : mnI P c base k best pick) (hp : ¬ P k) : mnI P c base (k + 1) best pick := by
  rcases h with ⟨a1, a2, a3⟩ | ⟨b, a1, a2, a3, a4, a5⟩
  · refine Or.inl ⟨a1, a2, fun j hj => ?_⟩
    by_cases e : j = k
    · subst e; exact hp
    · exact a3 j (by omega)
  · refine Or.inr ⟨b, by omega, a2, a3, a4, fun j hj hpj => ?_⟩
    by_cases e : j = k
    · subst e; exact absurd hpj hp
    · exact a5 j (by omega) hpj
theorem mnI_take {P : Nat → Prop} {c : Nat → Int} {base best pick : Int} {k : Nat} (h : mnI P c base k best pick) (hp : P k) (hc : c k < best) : mnI P c base (k + 1) (c k) (k : Int) := by
  refine Or.inr ⟨k, by omega, hp, rfl, rfl, fun j hj hpj => ?_⟩
  by_cases e : j = k
  · subst e; omega
  · rcases h with ⟨a1, a2, a3⟩ | ⟨b, a1, a2, a3, a4, a5⟩
    · exact absurd hpj (a3 j (by omega))
    · have := a5 j (by omega) hpj
      omega
theorem mnI_keep {P : Nat → Prop} {c : Nat → Int} {base best pick : Int} {k : Nat} (h : mnI P c base k best pick) (hp : P k) (hc : ¬ c k < best) (hb : c k < base) : mnI P c base (k + 1) best pick := by
  rcases h with ⟨a1, a2, a3⟩ | ⟨b, a1, a2, a3, a4, a5⟩
  · omega
  · refine Or.inr ⟨b, by omega, a2, a3, a4, fun j hj hpj => ?_⟩
    by_cases e : j = k
    · subst e; omega
    · exact a5 j (by omega) hpj
/-- the entry that is written -/
theorem tAt_write {sz : Nat} {hg : Nat → Int} {ds : Nat → Nat → Int} {hm : Nat → Int} {U : Mem} {s l : Nat} {base best pick : Int} (hsz : sz ≤ 6) (hl : l < 6) (hs : s < 64) (h : mnI (fun j => tFol sz hg s j) (fun j => ds l j + wA U (s ||| 2 ^ j) j) base sz best pick) (hb : (∃ i, tFol sz hg s i) ∨ base = hm l) (hh : 0 ≤ hm l ∧ hm l ≤ 100000) (hc : ∀ j, tFol sz hg s j → 0 ≤ ds l j + wA U (s ||| 2 ^ j) j ∧ ds l j + wA U (s ||| 2 ^ j) j ≤ 100000 * (64 - (s : Int))) : tAt sz hg ds hm (wA (up U 20 (6 * s + l) best)) s l := by
  have e1 : ∀ i, tFol sz hg s i → wA (up U 20 (6 * s + l) best) (s ||| 2 ^ i) i = wA U (s ||| 2 ^ i) i := fun i hi => wA_ne hl (by have := hi.1; omega) (Or.inl (by have := tOr_gt hi.2.1; omega))
  rcases h with ⟨a1, a2, a3⟩ | ⟨b, a1, a2, a3, a4, a5⟩
  · have hno : ∀ i, ¬ tFol sz hg s i := fun i hi => a3 i hi.1 hi
    have hbase : base = hm l := hb.resolve_left (fun ⟨i, hi⟩ => hno i hi)
    refine ⟨fun _ => by rw [wA_eq, a1, hbase], fun i hi => absurd hi (hno i), fun ⟨i, hi⟩ => absurd hi (hno i), by rw [wA_eq]; omega, by rw [wA_eq]; omega⟩
  · have := hc b a2
    refine ⟨fun q => absurd a2 (q b), fun i hi => by rw [wA_eq, e1 i hi, a4]; exact (a5 i hi.1 hi).1, fun _ => ⟨b, a2, by rw [wA_eq, e1 b a2, a4]⟩, by rw [wA_eq, a4]; exact this.1, by rw [wA_eq, a4]; exact this.2⟩
theorem zabs_neg (u v : Int) : zabs (u - v) = zabs (v - u) := by unfold zabs; split <;> split <;> omega
theorem way_sym (x y : Nat → Int) (np p q : Int) : way x y np p q = way x y np q p := by
  unfold way
  rw [zabs_neg, zabs_neg (co y np p)]
theorem way_bt {x y : Nat → Int} {np : Int} {p q : Nat} (hp : (p : Int) < np) (hq : (q : Int) < np) : way x y np p q = max (zabs (x p - x q)) (zabs (y p - y q)) := by
  unfold way co
  rw [if_pos ⟨by omega, hp⟩, if_pos ⟨by omega, hq⟩, if_pos ⟨by omega, hp⟩, if_pos ⟨by omega, hq⟩]
  rfl
theorem way_hm {x y : Nat → Int} {np : Int} {p : Nat} (hp : (p : Int) < np) (hx : 0 ≤ x p) (hy : 0 ≤ y p) : way x y np p (-1) = max (x p) (y p) := by
  unfold way co
  rw [if_pos ⟨by omega, hp⟩, if_neg (by omega), if_pos ⟨by omega, hp⟩, if_neg (by omega)]
  show max (zabs (x ((p : Int).toNat) - 0)) (zabs (y ((p : Int).toNat) - 0)) = _
  simp only [Int.toNat_natCast, zabs]
  rw [if_pos (by omega), if_pos (by omega)]
  omega
