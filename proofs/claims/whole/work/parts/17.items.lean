/-! the items of Shares: amounts in cell 30, hosts (bits) in cell 31 -/
def iCt (V : Mem) : Nat → Nat := fun i => (V 30 i).toNat
def iMay (V : Mem) : Nat → Nat → Bool := fun i m => decide ((V 31 i).toNat / 2 ^ m % 2 = 1)
def iFin (V : Mem) (lim t n j q b : Nat) : Bool := sFin lim t (fun _ => true) (iCt V) (iMay V) n j q b
theorem sFin_le {lim tot : Nat} {act : Nat → Bool} {ct : Nat → Nat} {may : Nat → Nat → Bool} {n : Nat} : ∀ {j a b : Nat}, sFin lim tot act ct may n j a b = true → a + b ≤ tot := by
  intro j
  induction j with
  | zero =>
    intro a b h
    simp only [sFin, decide_eq_true_eq] at h
    omega
  | succ j ih =>
    intro a b h
    simp only [sFin] at h
    split at h
    · simp only [Bool.or_eq_true, Bool.and_eq_true] at h
      rcases h with ⟨-, h⟩ | ⟨-, h⟩ | ⟨-, h⟩
      · have := ih h; omega
      · have := ih h; omega
      · exact ih h
    · exact ih h
theorem iFin_0 (V : Mem) (lim t n q b : Nat) : iFin V lim t n 0 q b = decide (q ≤ lim ∧ b ≤ lim ∧ q + b ≤ t ∧ t ≤ q + b + lim) := rfl
theorem iFin_s (V : Mem) (lim t n i q b : Nat) (hi : i < n) : iFin V lim t n (n - i) q b = ((iMay V i 0 && iFin V lim t n (n - (i + 1)) (q + iCt V i) b) || ((iMay V i 1 && iFin V lim t n (n - (i + 1)) q (b + iCt V i)) || (iMay V i 2 && iFin V lim t n (n - (i + 1)) q b))) := by
  have e1 : n - i = (n - (i + 1)) + 1 := by omega
  have e2 : n - ((n - (i + 1)) + 1) = i := by omega
  rw [e1]
  show sFin _ _ _ _ _ _ _ _ _ = _
  simp only [sFin, e2, if_true]
  rfl
/-- row i of the endings tells, bit by bit, whether the rest can still be shared -/
def rowOk (U V : Mem) (lim t n i : Nat) : Prop := ∀ c, c ≤ t → ∃ e : Nat, U (33 + i) c = (e : Int) ∧ e < 2199023255552 ∧ ∀ b, e.testBit b = iFin V lim t n (n - i) c b
/-- U is V but for the endings -/
def offE (U V : Mem) : Prop := ∀ c, ¬ (33 ≤ c ∧ c < 44) → U c = V c
/-- what loadsBefore puts together -/
theorem iFin_or {V : Mem} {lim t n i q A : Nat} {E : Nat → Nat} (hi : i < n) (hA : iCt V i = A) (hE : ∀ c, c ≤ t → ∀ b, (E c).testBit b = iFin V lim t n (n - (i + 1)) c b) (hq : q ≤ t) (b : Nat) :
    (((if (V 31 i).toNat / 2 ^ 0 % 2 = 1 ∧ q + A ≤ t then E (q + A) else 0) ||| (if (V 31 i).toNat / 2 ^ 1 % 2 = 1 then E q / 2 ^ A else 0)) ||| (if (V 31 i).toNat / 2 ^ 2 % 2 = 1 then E q else 0)).testBit b = iFin V lim t n (n - i) q b := by
  rw [iFin_s V lim t n i q b hi, hA, Nat.testBit_or, Nat.testBit_or, Bool.or_assoc]
  congr 1
  · by_cases h : (V 31 i).toNat / 2 ^ 0 % 2 = 1
    · by_cases h2 : q + A ≤ t
      · rw [if_pos ⟨h, h2⟩, hE _ h2]
        simp only [iMay, h, decide_true, Bool.true_and]
      · rw [if_neg (fun z => h2 z.2), Nat.zero_testBit]
        cases hf : iFin V lim t n (n - (i + 1)) (q + A) b
        · simp
        · have := sFin_le hf
          omega
    · rw [if_neg (fun z => h z.1), Nat.zero_testBit]
      simp only [iMay, h, decide_false, Bool.false_and]
  · congr 1
    · by_cases h : (V 31 i).toNat / 2 ^ 1 % 2 = 1
      · rw [if_pos h, Nat.testBit_div_two_pow, hE _ hq]
        simp only [iMay, h, decide_true, Bool.true_and]
      · rw [if_neg h, Nat.zero_testBit]
        simp only [iMay, h, decide_false, Bool.false_and]
    · by_cases h : (V 31 i).toNat / 2 ^ 2 % 2 = 1
      · rw [if_pos h, hE _ hq]
        simp only [iMay, h, decide_true, Bool.true_and]
      · rw [if_neg h, Nat.zero_testBit]
        simp only [iMay, h, decide_false, Bool.false_and]
theorem offE_up {U V : Mem} {c i : Nat} {v : Int} (h : offE U V) (hc : 33 ≤ c ∧ c < 44) : offE (up U c i v) V := fun k hk => by
  rw [up_ne1 (fun e => hk (by omega))]
  exact h k hk
theorem row_up {U : Mem} {k q e9 : Nat} {F : Nat → Nat → Bool} (h : ∀ c, c < q → ∃ e : Nat, U k c = (e : Int) ∧ e < 2199023255552 ∧ ∀ b, e.testBit b = F c b) (he : e9 < 2199023255552) (hb : ∀ b, e9.testBit b = F q b) : ∀ c, c < q + 1 → ∃ e : Nat, up U k q (e9 : Int) k c = (e : Int) ∧ e < 2199023255552 ∧ ∀ b, e.testBit b = F c b := fun c hc => by
  by_cases e : c = q
  · subst e
    exact ⟨e9, up_eq, he, hb⟩
  · rw [up_ne (Or.inr e)]
    exact h c (by omega)
theorem or3_lt {a b c : Nat} (ha : a < 2199023255552) (hb : b < 2199023255552) (hc : c < 2199023255552) : (a ||| b) ||| c < 2199023255552 := Nat.or_lt_two_pow (n := 41) (Nat.or_lt_two_pow (n := 41) ha hb) hc
/-- the home of item k where machine 0 has p and machine 1 has q parts of those before -/
def grA (V : Mem) (lim t n k p q c : Nat) : Prop :=
  (iMay V k 0 = true ∧ iFin V lim t n (n - (k + 1)) (p + iCt V k) q = true ∧ c = 0) ∨ (¬ (iMay V k 0 = true ∧ iFin V lim t n (n - (k + 1)) (p + iCt V k) q = true) ∧ iMay V k 1 = true ∧ iFin V lim t n (n - (k + 1)) p (q + iCt V k) = true ∧ c = 1) ∨ (¬ (iMay V k 0 = true ∧ iFin V lim t n (n - (k + 1)) (p + iCt V k) q = true) ∧ ¬ (iMay V k 1 = true ∧ iFin V lim t n (n - (k + 1)) p (q + iCt V k) = true) ∧ c = 2)
def iLd (V : Mem) (h : Nat → Nat) (m k : Nat) : Nat := sLoad (fun _ => true) (iCt V) h m k
theorem iLd_set {V : Mem} {h : Nat → Nat} {i c m : Nat} : iLd V (fun j => if j = i then c else h j) m (i + 1) = iLd V h m i + (if c = m then iCt V i else 0) := by
  unfold iLd
  have e : sLoad (fun _ => true) (iCt V) (fun j => if j = i then c else h j) m i = sLoad (fun _ => true) (iCt V) h m i := sLoad_congr (fun k hk _ => by simp [show k ≠ i by omega])
  simp only [sLoad, e, if_true, true_and]
theorem iLd_old {V : Mem} {h : Nat → Nat} {i c m k : Nat} (hk : k ≤ i) : iLd V (fun j => if j = i then c else h j) m k = iLd V h m k := sLoad_congr (fun j hj _ => by simp [show j ≠ i by omega])
def chInv (V : Mem) (lim t n i p q : Nat) (h : Nat → Nat) (U : Mem) : Prop := i ≤ n ∧ p = iLd V h 0 i ∧ q = iLd V h 1 i ∧ (∀ k, k < i → grA V lim t n k (iLd V h 0 k) (iLd V h 1 k) (h k)) ∧ (∀ k, k < i → U 28 (V 29 k).toNat = (h k : Int)) ∧ (∀ j, (∀ k, k < i → (V 29 k).toNat ≠ j) → U 28 j = V 28 j) ∧ (∀ c, c ≠ 28 → U c = V c) ∧ iFin V lim t n (n - i) p q = true
theorem chInv_0 {V : Mem} {lim t n : Nat} (hf : iFin V lim t n n 0 0 = true) : chInv V lim t n 0 0 0 (fun _ => 0) V := ⟨Nat.zero_le _, rfl, rfl, fun k h => absurd h (Nat.not_lt_zero _), fun k h => absurd h (Nat.not_lt_zero _), fun _ _ => rfl, fun _ _ => rfl, hf⟩
theorem chInv_s {V : Mem} {lim t n i p q c : Nat} {h : Nat → Nat} {U : Mem} (I : chInv V lim t n i p q h U) (hi : i < n) (hd : ∀ k, k < i → (V 29 k).toNat ≠ (V 29 i).toNat) (hg : grA V lim t n i p q c) : chInv V lim t n (i + 1) (p + if c = 0 then iCt V i else 0) (q + if c = 1 then iCt V i else 0) (fun j => if j = i then c else h j) (up U 28 (V 29 i).toNat (c : Int)) := by
  obtain ⟨h1, h2, h3, h4, h5, h6, h7, h8⟩ := I
  refine ⟨hi, by rw [iLd_set, ← h2], by rw [iLd_set, ← h3], fun k hk => ?_, fun k hk => ?_, fun j hj => ?_, fun c' hc' => ?_, ?_⟩
  · rw [iLd_old (by omega), iLd_old (by omega)]
    by_cases e : k = i
    · subst e
      simp only [if_true]
      rw [← h2, ← h3]
      exact hg
    · simp only [e, if_false]
      exact h4 k (by omega)
  · by_cases e : k = i
    · subst e
      simp only [if_true]
      exact up_eq
    · rw [up_ne (Or.inr (hd k (by omega)))]
      simp only [e, if_false]
      exact h5 k (by omega)
  · rw [up_ne (Or.inr (fun z => hj i (by omega) z.symm))]
    exact h6 j (fun k hk => hj k (by omega))
  · rw [up_ne1 hc']
    exact h7 c' hc'
  · rw [iFin_s V lim t n i p q hi] at h8
    simp only [Bool.or_eq_true, Bool.and_eq_true] at h8
    rcases hg with ⟨g1, g2, g3⟩ | ⟨g1, g2, g3, g4⟩ | ⟨g1, g2, g3⟩
    · subst g3; simpa using g2
    · subst g4; simpa using g3
    · subst g3
      rcases h8 with h8 | h8 | h8
      · exact absurd h8 g1
      · exact absurd h8 g2
      · simpa using h8.2
theorem endIff {V : Mem} {lim t n i : Nat} {E : Nat → Nat} (hE : ∀ c, c ≤ t → ∀ b, (E c).testBit b = iFin V lim t n (n - i) c b) (c b : Nat) : (c ≤ t ∧ b ≤ t ∧ (E c).testBit b = true) ↔ iFin V lim t n (n - i) c b = true := by
  constructor
  · rintro ⟨h1, -, h3⟩
    rw [← hE c h1]; exact h3
  · intro h
    have := sFin_le h
    exact ⟨by omega, by omega, by rw [hE c (by omega)]; exact h⟩
theorem iRow {U V : Mem} {lim t n i : Nat} (h : rowOk U V lim t n i) : ∃ E : Nat → Nat, (∀ c, c ≤ t → U (33 + i) c = (E c : Int)) ∧ (∀ c, E c < 2199023255552) ∧ ∀ c, c ≤ t → ∀ b, (E c).testBit b = iFin V lim t n (n - i) c b := by
  refine ⟨fun c => if hc : c ≤ t then Classical.choose (h c hc) else 0, fun c hc => ?_, fun c => ?_, fun c hc => ?_⟩
  · simp only [dif_pos hc]; exact (Classical.choose_spec (h c hc)).1
  · by_cases hc : c ≤ t
    · simp only [dif_pos hc]; exact (Classical.choose_spec (h c hc)).2.1
    · simp only [dif_neg hc]; omega
  · simp only [dif_pos hc]; exact (Classical.choose_spec (h c hc)).2.2
theorem g_ste {l : Launch} {D : va_G} {tys : List (ClassId × FieldType)} {L : Lay} {a : Nat → Nat} {M : MInf} {x : Ctx} {pc : Nat} {lv : List (Nat × Value)} {st st' : List Value} {V : Mem} (h : st = st') (k : G l D tys L a M x pc lv st' V) : G l D tys L a M x pc lv st V := h ▸ k
