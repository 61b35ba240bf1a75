/-! the reference's way through all shares -/
def sVal (act : Nat → Bool) (f : Nat → Nat) : Nat → Nat
  | 0 => 0
  | n + 1 => 3 * sVal act f n + (if act n = true then f n else 0)
theorem sVal_lt3 {act : Nat → Bool} {f : Nat → Nat} : ∀ {n : Nat}, (∀ k, k < n → act k = true → f k < 3) → sVal act f n < 3 ^ n
  | 0, _ => by simp [sVal]
  | n + 1, h => by
    have := sVal_lt3 (n := n) (fun k hk => h k (by omega))
    have h2 := h n (by omega)
    simp only [sVal, Nat.pow_succ]
    split
    · rename_i q; have := h2 q; omega
    · omega
theorem sVal_congr {act : Nat → Bool} {f g : Nat → Nat} : ∀ {n : Nat}, (∀ k, k < n → act k = true → f k = g k) → sVal act f n = sVal act g n
  | 0, _ => rfl
  | n + 1, h => by
    simp only [sVal]
    rw [sVal_congr (fun k hk => h k (by omega))]
    split
    · rename_i q; rw [h n (by omega) q]
    · rfl
theorem sVal_lt {act : Nat → Bool} {f g : Nat → Nat} : ∀ {n : Nat}, (∀ k, k < n → act k = true → f k < 3) → sLt n act f g → sVal act f n < sVal act g n
  | 0, _, ⟨k, h, _⟩ => absurd h (Nat.not_lt_zero _)
  | n + 1, hf, ⟨k, h1, h2, h3, h4⟩ => by
    simp only [sVal]
    by_cases e : k = n
    · subst e
      rw [sVal_congr h4, if_pos h2, if_pos h2]
      omega
    · have := sVal_lt (n := n) (fun k hk => hf k (by omega)) ⟨k, by omega, h2, h3, h4⟩
      have h5 := hf n (by omega)
      by_cases q : act n = true
      · have := h5 q
        rw [if_pos q]
        omega
      · rw [if_neg q]
        omega
theorem sUpTo_first {n : Nat} {act : Nat → Bool} {ct : Nat → Nat} {may : Nat → Nat → Bool} {f : Nat → Nat} (hok : sOk n act may f) (hmin : ∀ k, k < n → act k = true → ∀ x, x < f k → may k x = false) : sUpTo n act ct may f f := by
  refine ⟨hok, hok, sLt_irr, fun g hg hng => ?_⟩
  have h1 : ¬ sLt n act g f := fun ⟨k, a1, a2, a3, a4⟩ => by
    have := hmin k a1 a2 _ a3
    rw [(hg k a1 a2).2] at this
    cases this
  rcases sLt_tri (n := n) (act := act) f g with q | q | q
  · exact absurd q hng
  · exact absurd q h1
  · exact ⟨Nat.le_of_eq (sMost_congr q), fun _ => h1⟩
theorem sLast {n : Nat} {act : Nat → Bool} {may : Nat → Nat → Bool} {f : Nat → Nat} (hmax : ∀ k, k < n → act k = true → ∀ x, x < 3 → may k x = true → x ≤ f k) : ∀ g, sOk n act may g → ¬ sLt n act f g := fun g hg ⟨k, a1, a2, a3, _⟩ => by
  have := hmax k a1 a2 _ (hg k a1 a2).1 (hg k a1 a2).2
  omega
theorem sNext {n : Nat} {act : Nat → Bool} {may : Nat → Nat → Bool} {f f' : Nat → Nat} {i m : Nat} (hi : i < n) (ha : act i = true) (hm3 : m < 3) (hm : may i m = true) (hlt : f i < m) (hmin : ∀ x, f i < x → x < m → may i x = false)
    (hlo : ∀ q, q < i → act q = true → f' q = f q) (hfi : f' i = m) (hhi : ∀ q, i < q → q < n → act q = true → (∀ x, x < 3 → may q x = true → x ≤ f q) ∧ (f' q < 3 ∧ may q (f' q) = true) ∧ ∀ x, x < f' q → may q x = false) (hok : sOk n act may f) :
    sOk n act may f' ∧ sLt n act f f' ∧ ∀ g, sOk n act may g → sLt n act g f' → ¬ sLt n act f g := by
  refine ⟨fun k hk hak => ?_, ⟨i, hi, ha, by omega, fun j hj haj => (hlo j hj haj).symm⟩, ?_⟩
  · rcases Nat.lt_trichotomy k i with q | q | q
    · rw [hlo k q hak]; exact hok k hk hak
    · subst q; rw [hfi]; exact ⟨hm3, hm⟩
    · exact (hhi k q hk hak).2.1
  · rintro g hg ⟨k, a1, a2, a3, a4⟩ ⟨j, b1, b2, b3, b4⟩
    rcases Nat.lt_trichotomy j i with q | q | q
    · -- the first difference of f and g lies ahead of i
      rcases Nat.lt_trichotomy k j with z | z | z
      · have := b4 k z a2
        rw [hlo k (by omega) a2] at a3
        omega
      · subst z
        rw [hlo k q a2] at a3
        omega
      · have := a4 j z b2
        rw [hlo j q b2] at this
        omega
    · subst q
      rcases Nat.lt_trichotomy k j with z | z | z
      · have := b4 k z a2
        rw [hlo k z a2] at a3
        omega
      · subst z
        rw [hfi] at a3
        have := hmin (g k) b3 a3
        rw [(hg k a1 a2).2] at this
        cases this
      · have := (hhi k z a1 a2).2.2 _ a3
        rw [(hg k a1 a2).2] at this
        cases this
    · have := (hhi j q b1 b2).1 (g j) (hg j b1 b2).1 (hg j b1 b2).2
      omega
/-- the lowest machine from one on -/
def isNx (has : Nat → Bool) (us fr : Nat) (z : Int) : Prop := (z = -1 ∧ ∀ m, fr ≤ m → m < us → has m = false) ∨ ∃ m : Nat, z = (m : Int) ∧ fr ≤ m ∧ m < us ∧ has m = true ∧ ∀ j, fr ≤ j → j < m → has j = false
def rCt (W : Mem) (np : Nat) (k : Nat) : Nat := (cnt (W 7) (k : Int) np).toNat
def rHas (W : Mem) (k m : Nat) : Bool := decide ((W 11 m).toNat / 2 ^ (W 2 k).toNat % 2 = 1)
def rHo (W : Mem) (us : Nat) (k : Nat) : Nat := hosts (rHas W k) us
def rAct (W : Mem) (np us k : Nat) : Bool := decide (0 < rCt W np k ∧ rHo W us k ≠ 0)
def rMay (W : Mem) (us k m : Nat) : Bool := (rHo W us k).testBit m
theorem rMay_iff {W : Mem} {us k m : Nat} : rMay W us k m = true ↔ m < us ∧ rHas W k m = true := by
  unfold rMay rHo
  rw [hosts_bit]
  exact decide_eq_true_iff
theorem rHo_0 {W : Mem} {us k : Nat} (h : ∀ m, m < us → rHas W k m = false) : rHo W us k = 0 := by
  apply Nat.eq_of_testBit_eq
  intro j
  unfold rHo
  rw [hosts_bit, Nat.zero_testBit]
  refine decide_eq_false (fun q => ?_)
  rw [h j q.1] at q
  cases q.2
theorem rHo_ne {W : Mem} {us k m : Nat} (hm : m < us) (h : rHas W k m = true) : rHo W us k ≠ 0 := by
  intro e
  have : (rHo W us k).testBit m = true := rMay_iff.mpr ⟨hm, h⟩
  rw [e, Nat.zero_testBit] at this
  cases this
/-- the shares that stand in memory -/
def shS (s : Nat → Int) (act : Nat → Bool) (f : Nat → Nat) (n : Nat) : Prop := ∀ k, k < n → s k = if act k = true then (f k : Int) else -1
/-- a machine's parts so far -/
def ldS (s : Nat → Int) (ct : Nat → Nat) (m : Nat) : Nat → Int
  | 0 => 0
  | k + 1 => ldS s ct m k + (if s k = (m : Int) then (ct k : Int) else 0)
theorem ldS_load {s : Nat → Int} {act : Nat → Bool} {ct f : Nat → Nat} {m : Nat} : ∀ {n : Nat}, shS s act f n → ldS s ct m n = (sLoad act ct f m n : Int)
  | 0, _ => rfl
  | n + 1, h => by
    simp only [ldS, sLoad]
    rw [ldS_load (n := n) (fun k hk => h k (by omega)), h n (by omega)]
    by_cases q : act n = true
    · simp only [q, if_true, true_and]
      by_cases e : f n = m
      · rw [if_pos (by omega), if_pos e]; omega
      · rw [if_neg (by omega), if_neg e]; omega
    · rw [if_neg q, if_neg (c := (-1 : Int) = (m : Int)) (by omega), if_neg (fun z => q z.1)]
      omega
theorem sLoad_0 {act : Nat → Bool} {ct f : Nat → Nat} {m us : Nat} (hm : us ≤ m) : ∀ {n : Nat}, (∀ k, k < n → act k = true → f k < us) → sLoad act ct f m n = 0
  | 0, _ => rfl
  | n + 1, h => by
    simp only [sLoad]
    rw [sLoad_0 hm (fun k hk => h k (by omega)), if_neg (fun q => by have := h n (by omega) q.1; omega)]
theorem sMost_mx {act : Nat → Bool} {ct f : Nat → Nat} {us n : Nat} (hus : us ≤ 3) (h : ∀ k, k < n → act k = true → f k < us) : mxF (fun m => (sLoad act ct f m n : Int)) us = (sMost act ct f n : Int) := by
  rcases (show us = 0 ∨ us = 1 ∨ us = 2 ∨ us = 3 by omega) with rfl | rfl | rfl | rfl
  · simp only [mxF, sMost]
    rw [sLoad_0 (us := 0) (by omega) h, sLoad_0 (us := 0) (by omega) h, sLoad_0 (us := 0) (by omega) h]
    rfl
  · simp only [mxF, sMost]
    rw [sLoad_0 (us := 1) (m := 1) (by omega) h, sLoad_0 (us := 1) (m := 2) (by omega) h]
    omega
  · simp only [mxF, sMost]
    rw [sLoad_0 (us := 2) (m := 2) (by omega) h]
    omega
  · simp only [mxF, sMost]
    omega
