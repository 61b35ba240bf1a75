/-! the items of Shares: amounts in cell 30, hosts (bits) in cell 31 -/
def iCt (V : Mem) : Nat → Nat := fun i => (V 30 i).toNat
def iMay (V : Mem) : Nat → Nat → Bool := fun i m => decide ((V 31 i).toNat / 2 ^ m % 2 = 1)
def iFin (V : Mem) (lim t n j q b : Nat) : Bool := sFin lim t (fun _ => true) (iCt V) (iMay V) n j q b
theorem sFin_le {lim tot : Nat} {act : Nat → Bool} {ct : Nat → Nat} {may : Nat → Nat → Bool} {n : Nat} : ∀ {j a b : Nat}, sFin lim tot act ct may n j a b = true → a + b ≤ tot := by
  intro j
  induction j with
  | zero =>
    intro a b h
    simp only [sFin, decide_eq_true_eq] at h
    omega
  | succ j ih =>
    intro a b h
    simp only [sFin] at h
    split at h
    · simp only [Bool.or_eq_true, Bool.and_eq_true] at h
      rcases h with ⟨-, h⟩ | ⟨-, h⟩ | ⟨-, h⟩
      · have := ih h; omega
      · have := ih h; omega
      · exact ih h
    · exact ih h
theorem iFin_0 (V : Mem) (lim t n q b : Nat) : iFin V lim t n 0 q b = decide (q ≤ lim ∧ b ≤ lim ∧ q + b ≤ t ∧ t ≤ q + b + lim) := rfl
theorem iFin_s (V : Mem) (lim t n i q b : Nat) (hi : i < n) : iFin V lim t n (n - i) q b = ((iMay V i 0 && iFin V lim t n (n - (i + 1)) (q + iCt V i) b) || ((iMay V i 1 && iFin V lim t n (n - (i + 1)) q (b + iCt V i)) || (iMay V i 2 && iFin V lim t n (n - (i + 1)) q b))) := by
  have e1 : n - i = (n - (i + 1)) + 1 := by omega
  have e2 : n - ((n - (i + 1)) + 1) = i := by omega
  rw [e1]
  show sFin _ _ _ _ _ _ _ _ _ = _
  simp only [sFin, e2, if_true]
  rfl
/-- row i of the endings tells, bit by bit, whether the rest can still be shared -/
def rowOk (U V : Mem) (lim t n i : Nat) : Prop := ∀ c, c ≤ t → ∃ e : Nat, U (33 + i) c = (e : Int) ∧ e < 2199023255552 ∧ ∀ b, e.testBit b = iFin V lim t n (n - i) c b
/-- U is V but for the endings -/
def offE (U V : Mem) : Prop := ∀ c, ¬ (33 ≤ c ∧ c < 44) → U c = V c
/-- what loadsBefore puts together -/
theorem iFin_or {V : Mem} {lim t n i q A : Nat} {E : Nat → Nat} (hi : i < n) (hA : iCt V i = A) (hE : ∀ c, c ≤ t → ∀ b, (E c).testBit b = iFin V lim t n (n - (i + 1)) c b) (hq : q ≤ t) (b : Nat) :
    (((if (V 31 i).toNat / 2 ^ 0 % 2 = 1 ∧ q + A ≤ t then E (q + A) else 0) ||| (if (V 31 i).toNat / 2 ^ 1 % 2 = 1 then E q / 2 ^ A else 0)) ||| (if (V 31 i).toNat / 2 ^ 2 % 2 = 1 then E q else 0)).testBit b = iFin V lim t n (n - i) q b := by
  rw [iFin_s V lim t n i q b hi, hA, Nat.testBit_or, Nat.testBit_or, Bool.or_assoc]
  congr 1
  · by_cases h : (V 31 i).toNat / 2 ^ 0 % 2 = 1
    · by_cases h2 : q + A ≤ t
      · rw [if_pos ⟨h, h2⟩, hE _ h2]
        simp only [iMay, h, decide_true, Bool.true_and]
      · rw [if_neg (fun z => h2 z.2), Nat.zero_testBit]
        cases hf : iFin V lim t n (n - (i + 1)) (q + A) b
        · simp
        · have := sFin_le hf
          omega
    · rw [if_neg (fun z => h z.1), Nat.zero_testBit]
      simp only [iMay, h, decide_false, Bool.false_and]
  · congr 1
    · by_cases h : (V 31 i).toNat / 2 ^ 1 % 2 = 1
      · rw [if_pos h, Nat.testBit_div_two_pow, hE _ hq]
        simp only [iMay, h, decide_true, Bool.true_and]
      · rw [if_neg h, Nat.zero_testBit]
        simp only [iMay, h, decide_false, Bool.false_and]
    · by_cases h : (V 31 i).toNat / 2 ^ 2 % 2 = 1
      · rw [if_pos h, hE _ hq]
        simp only [iMay, h, decide_true, Bool.true_and]
      · rw [if_neg h, Nat.zero_testBit]
        simp only [iMay, h, decide_false, Bool.false_and]
theorem offE_up {U V : Mem} {c i : Nat} {v : Int} (h : offE U V) (hc : 33 ≤ c ∧ c < 44) : offE (up U c i v) V := fun k hk => by
  rw [up_ne1 (fun e => hk (by omega))]
  exact h k hk
theorem row_up {U : Mem} {k q e9 : Nat} {F : Nat → Nat → Bool} (h : ∀ c, c < q → ∃ e : Nat, U k c = (e : Int) ∧ e < 2199023255552 ∧ ∀ b, e.testBit b = F c b) (he : e9 < 2199023255552) (hb : ∀ b, e9.testBit b = F q b) : ∀ c, c < q + 1 → ∃ e : Nat, up U k q (e9 : Int) k c = (e : Int) ∧ e < 2199023255552 ∧ ∀ b, e.testBit b = F c b := fun c hc => by
  by_cases e : c = q
  · subst e
    exact ⟨e9, up_eq, he, hb⟩
  · rw [up_ne (Or.inr e)]
    exact h c (by omega)
theorem or3_lt {a b c : Nat} (ha : a < 2199023255552) (hb : b < 2199023255552) (hc : c < 2199023255552) : (a ||| b) ||| c < 2199023255552 := Nat.or_lt_two_pow (n := 41) (Nat.or_lt_two_pow (n := 41) ha hb) hc
