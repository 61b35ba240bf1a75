/-! SHARES, the mathematics: kinds 0 .. n - 1, those with act are shared over machines 0 .. 2 where may allows; ct: how many parts -/
def sOk (n : Nat) (act : Nat → Bool) (may : Nat → Nat → Bool) (f : Nat → Nat) : Prop := ∀ k, k < n → act k = true → f k < 3 ∧ may k (f k) = true
def sLoad (act : Nat → Bool) (ct : Nat → Nat) (f : Nat → Nat) (m : Nat) : Nat → Nat
  | 0 => 0
  | k + 1 => sLoad act ct f m k + (if act k = true ∧ f k = m then ct k else 0)
def sMost (act : Nat → Bool) (ct : Nat → Nat) (f : Nat → Nat) (n : Nat) : Nat := max (sLoad act ct f 0 n) (max (sLoad act ct f 1 n) (sLoad act ct f 2 n))
/-- the greatest number is least; of several ways the first kind on the lowest machine, and so on -/
def sBest (n : Nat) (act : Nat → Bool) (ct : Nat → Nat) (may : Nat → Nat → Bool) (f : Nat → Nat) : Prop := sOk n act may f ∧ ∀ g, sOk n act may g → sMost act ct f n ≤ sMost act ct g n ∧ (sMost act ct g n ≤ sMost act ct f n → ∀ k, k < n → act k = true → (∀ j, j < k → act j = true → g j = f j) → f k ≤ g k)
theorem sBest_unique {n : Nat} {act : Nat → Bool} {ct : Nat → Nat} {may : Nat → Nat → Bool} {f g : Nat → Nat} (hf : sBest n act ct may f) (hg : sBest n act ct may g) : ∀ k, k < n → act k = true → f k = g k := by
  have h12 := (hf.2 g hg.1).1
  have h21 := (hg.2 f hf.1).1
  intro k
  induction k using Nat.strongRecOn with
  | ind k ih =>
    intro hk ha
    have h1 := (hf.2 g hg.1).2 h21 k hk ha (fun j hj ha' => (ih j hj (by omega) ha').symm)
    have h2 := (hg.2 f hf.1).2 h12 k hk ha (fun j hj ha' => ih j hj (by omega) ha')
    omega
theorem sLoad_congr {act : Nat → Bool} {ct : Nat → Nat} {f g : Nat → Nat} {m n : Nat} (h : ∀ k, k < n → act k = true → f k = g k) : sLoad act ct f m n = sLoad act ct g m n := by
  induction n with
  | zero => rfl
  | succ n ih =>
    simp only [sLoad]
    rw [ih (fun k hk ha => h k (by omega) ha)]
    by_cases ha : act n = true
    · rw [h n (by omega) ha]
    · simp [ha]
theorem sMost_congr {act : Nat → Bool} {ct : Nat → Nat} {f g : Nat → Nat} {n : Nat} (h : ∀ k, k < n → act k = true → f k = g k) : sMost act ct f n = sMost act ct g n := by
  simp only [sMost, sLoad_congr (m := 0) h, sLoad_congr (m := 1) h, sLoad_congr (m := 2) h]
def sTot (act : Nat → Bool) (ct : Nat → Nat) : Nat → Nat
  | 0 => 0
  | k + 1 => sTot act ct k + (if act k = true then ct k else 0)
theorem sLoad_sum {act : Nat → Bool} {ct : Nat → Nat} {f : Nat → Nat} {n : Nat} (h : ∀ k, k < n → act k = true → f k < 3) : sLoad act ct f 0 n + sLoad act ct f 1 n + sLoad act ct f 2 n = sTot act ct n := by
  induction n with
  | zero => rfl
  | succ n ih =>
    have h1 := ih (fun k hk ha => h k (by omega) ha)
    simp only [sLoad, sTot]
    by_cases ha : act n = true
    · have h3 := h n (by omega) ha
      rcases (show f n = 0 ∨ f n = 1 ∨ f n = 2 by omega) with e | e | e <;> simp [ha, e] <;> omega
    · simp [ha]
      omega
/-- the kinds from k on (j of them are left) can still be shared within lim when machine 0 has a and machine 1 has b of those before, of tot in all -/
def sFin (lim tot : Nat) (act : Nat → Bool) (ct : Nat → Nat) (may : Nat → Nat → Bool) (n : Nat) : Nat → Nat → Nat → Bool
  | 0, a, b => decide (a ≤ lim ∧ b ≤ lim ∧ a + b ≤ tot ∧ tot ≤ a + b + lim)
  | j + 1, a, b => if act (n - (j + 1)) = true then (may (n - (j + 1)) 0 && sFin lim tot act ct may n j (a + ct (n - (j + 1))) b) || ((may (n - (j + 1)) 1 && sFin lim tot act ct may n j a (b + ct (n - (j + 1)))) || (may (n - (j + 1)) 2 && sFin lim tot act ct may n j a b)) else sFin lim tot act ct may n j a b
/-- that a way of the rest keeps within lim -/
def sKeeps (lim tot : Nat) (act : Nat → Bool) (ct : Nat → Nat) (n k a b : Nat) (f : Nat → Nat) : Prop :=
  a + (sLoad act ct f 0 n - sLoad act ct f 0 k) ≤ lim ∧ b + (sLoad act ct f 1 n - sLoad act ct f 1 k) ≤ lim ∧ a + (sLoad act ct f 0 n - sLoad act ct f 0 k) + (b + (sLoad act ct f 1 n - sLoad act ct f 1 k)) ≤ tot ∧ tot ≤ a + (sLoad act ct f 0 n - sLoad act ct f 0 k) + (b + (sLoad act ct f 1 n - sLoad act ct f 1 k)) + lim
theorem sLoad_mono {act : Nat → Bool} {ct : Nat → Nat} {f : Nat → Nat} {m k n : Nat} (h : k ≤ n) : sLoad act ct f m k ≤ sLoad act ct f m n := by
  induction n with
  | zero => rw [Nat.le_zero.mp h]; exact Nat.le_refl _
  | succ n ih =>
    rcases Nat.lt_or_ge n k with q | q
    · rw [show k = n + 1 by omega]; exact Nat.le_refl _
    · simp only [sLoad]
      have := ih q
      omega
/-- what is changed ahead of k does not alter what comes behind -/
theorem sLoad_tail {act : Nat → Bool} {ct : Nat → Nat} {f g : Nat → Nat} {m k n : Nat} (hk : k ≤ n) (h : ∀ i, k ≤ i → i < n → f i = g i) : sLoad act ct f m n - sLoad act ct f m k = sLoad act ct g m n - sLoad act ct g m k := by
  induction n with
  | zero => rw [Nat.le_zero.mp hk]; simp
  | succ n ih =>
    rcases Nat.lt_or_ge n k with q | q
    · rw [show k = n + 1 by omega]; simp
    · have h1 := ih q (fun i h1 h2 => h i h1 (by omega))
      have h2 : sLoad act ct f m k ≤ sLoad act ct f m n := sLoad_mono q
      have h3 : sLoad act ct g m k ≤ sLoad act ct g m n := sLoad_mono q
      simp only [sLoad, h n q (by omega)]
      omega
theorem sFin_iff {lim tot : Nat} {act : Nat → Bool} {ct : Nat → Nat} {may : Nat → Nat → Bool} {n : Nat} : ∀ (j a b : Nat), j ≤ n → (sFin lim tot act ct may n j a b = true ↔ ∃ f : Nat → Nat, (∀ i, n - j ≤ i → i < n → act i = true → f i < 3 ∧ may i (f i) = true) ∧ sKeeps lim tot act ct n (n - j) a b f) := by
  intro j
  induction j with
  | zero =>
    intro a b _
    simp only [sFin, sKeeps, Nat.sub_zero, Nat.sub_self, Nat.add_zero, decide_eq_true_eq]
    constructor
    · intro h
      exact ⟨fun _ => 0, fun i h1 h2 => absurd h2 (by omega), h⟩
    · rintro ⟨f, -, h⟩
      exact h
  | succ j ih =>
    intro a b hj
    have e : n - j = n - (j + 1) + 1 := by omega
    have hlt : n - (j + 1) < n := by omega
    generalize hk : n - (j + 1) = k at e hlt ⊢
    simp only [sFin, hk]
    have hmono : ∀ (f : Nat → Nat) (m : Nat), sLoad act ct f m k + (if act k = true ∧ f k = m then ct k else 0) ≤ sLoad act ct f m n := fun f m => by
      have := sLoad_mono (act := act) (ct := ct) (f := f) (m := m) (show k + 1 ≤ n by omega)
      simpa [sLoad] using this
    by_cases ha : act k = true
    · simp only [ha, if_true, Bool.or_eq_true, Bool.and_eq_true]
      constructor
      · intro h
        have done : ∀ (m : Nat) (f : Nat → Nat), m < 3 → may k m = true → (∀ i, k + 1 ≤ i → i < n → act i = true → f i < 3 ∧ may i (f i) = true) → sKeeps lim tot act ct n (k + 1) (a + if m = 0 then ct k else 0) (b + if m = 1 then ct k else 0) f → ∃ f : Nat → Nat, (∀ i, k ≤ i → i < n → act i = true → f i < 3 ∧ may i (f i) = true) ∧ sKeeps lim tot act ct n k a b f := by
          intro m f hm hmay hf hkp
          refine ⟨fun i => if i = k then m else f i, fun i h1 h2 h3 => ?_, ?_⟩
          · by_cases hi : i = k
            · subst hi
              simp [hm, hmay]
            · simp only [hi, if_false]
              exact hf i (by omega) h2 h3
          · have t0 := sLoad_tail (act := act) (ct := ct) (f := fun i => if i = k then m else f i) (g := f) (m := 0) (k := k + 1) (n := n) (by omega) (fun i h1 h2 => by simp [show i ≠ k by omega])
            have t1 := sLoad_tail (act := act) (ct := ct) (f := fun i => if i = k then m else f i) (g := f) (m := 1) (k := k + 1) (n := n) (by omega) (fun i h1 h2 => by simp [show i ≠ k by omega])
            have m0 := hmono (fun i => if i = k then m else f i) 0
            have m1 := hmono (fun i => if i = k then m else f i) 1
            simp only [sKeeps] at hkp ⊢
            rw [← t0, ← t1] at hkp
            simp only [sLoad, ha, if_true, true_and] at hkp m0 m1 ⊢
            rcases (show m = 0 ∨ m = 1 ∨ m = 2 by omega) with q | q | q <;> subst q <;> simp at hkp m0 m1 ⊢ <;> omega
        rcases h with ⟨hm, h⟩ | ⟨hm, h⟩ | ⟨hm, h⟩
        · obtain ⟨f, h1, h2⟩ := (ih _ _ (by omega)).mp h
          rw [e] at h1 h2
          exact done 0 f (by omega) hm h1 (by simpa using h2)
        · obtain ⟨f, h1, h2⟩ := (ih _ _ (by omega)).mp h
          rw [e] at h1 h2
          exact done 1 f (by omega) hm h1 (by simpa using h2)
        · obtain ⟨f, h1, h2⟩ := (ih _ _ (by omega)).mp h
          rw [e] at h1 h2
          exact done 2 f (by omega) hm h1 (by simpa using h2)
      · rintro ⟨f, h1, h2⟩
        obtain ⟨h3, h4⟩ := h1 k (Nat.le_refl _) hlt ha
        have m0 := hmono f 0
        have m1 := hmono f 1
        have back : ∀ (a' b' : Nat), a' = a + (if f k = 0 then ct k else 0) → b' = b + (if f k = 1 then ct k else 0) → sFin lim tot act ct may n j a' b' = true := by
          intro a' b' ea eb
          refine (ih _ _ (by omega)).mpr ⟨f, fun i hi => h1 i (by omega), ?_⟩
          rw [e]
          simp only [sKeeps, sLoad, ha, true_and] at h2 m0 m1 ⊢
          rcases (show f k = 0 ∨ f k = 1 ∨ f k = 2 by omega) with q | q | q <;> simp [q] at h2 m0 m1 ea eb ⊢ <;> omega
        rcases (show f k = 0 ∨ f k = 1 ∨ f k = 2 by omega) with q | q | q
        · exact Or.inl ⟨q ▸ h4, back _ _ (by simp [q]) (by simp [q])⟩
        · exact Or.inr (Or.inl ⟨q ▸ h4, back _ _ (by simp [q]) (by simp [q])⟩)
        · exact Or.inr (Or.inr ⟨q ▸ h4, back _ _ (by simp [q]) (by simp [q])⟩)
    · simp only [ha]
      rw [if_neg (by simp), ih a b (by omega), e]
      constructor
      · rintro ⟨f, h1, h2⟩
        refine ⟨f, fun i hi1 hi2 hi3 => ?_, ?_⟩
        · by_cases hi : i = k
          · exact absurd (hi ▸ hi3) ha
          · exact h1 i (by omega) hi2 hi3
        · simpa [sKeeps, sLoad, ha] using h2
      · rintro ⟨f, h1, h2⟩
        exact ⟨f, fun i hi => h1 i (by omega), by simpa [sKeeps, sLoad, ha] using h2⟩
theorem sFin_of {lim tot : Nat} {act : Nat → Bool} {ct : Nat → Nat} {may : Nat → Nat → Bool} {n : Nat} {g : Nat → Nat} (hg : sOk n act may g) (ht : tot = sTot act ct n) (hm : sMost act ct g n ≤ lim) {k : Nat} (hk : k ≤ n) : sFin lim tot act ct may n (n - k) (sLoad act ct g 0 k) (sLoad act ct g 1 k) = true := by
  refine (sFin_iff _ _ _ (by omega)).mpr ⟨g, fun i _ h2 h3 => hg i h2 h3, ?_⟩
  rw [show n - (n - k) = k by omega]
  have h0 := sLoad_mono (act := act) (ct := ct) (f := g) (m := 0) hk
  have h1 := sLoad_mono (act := act) (ct := ct) (f := g) (m := 1) hk
  have h2 := sLoad_sum (act := act) (ct := ct) (f := g) (n := n) (fun k hk ha => (hg k hk ha).1)
  simp only [sMost] at hm
  simp only [sKeeps]
  omega
theorem sGreedy {lim tot : Nat} {act : Nat → Bool} {ct : Nat → Nat} {may : Nat → Nat → Bool} {n : Nat} {f : Nat → Nat} (ht : tot = sTot act ct n) (hlim : sFin lim tot act ct may n n 0 0 = true) (hleast : ∀ L, L < lim → sFin L tot act ct may n n 0 0 = false)
    (hf : ∀ k, k < n → act k = true → (may k 0 = true ∧ sFin lim tot act ct may n (n - k - 1) (sLoad act ct f 0 k + ct k) (sLoad act ct f 1 k) = true ∧ f k = 0) ∨ (¬ (may k 0 = true ∧ sFin lim tot act ct may n (n - k - 1) (sLoad act ct f 0 k + ct k) (sLoad act ct f 1 k) = true) ∧ may k 1 = true ∧ sFin lim tot act ct may n (n - k - 1) (sLoad act ct f 0 k) (sLoad act ct f 1 k + ct k) = true ∧ f k = 1) ∨ (¬ (may k 0 = true ∧ sFin lim tot act ct may n (n - k - 1) (sLoad act ct f 0 k + ct k) (sLoad act ct f 1 k) = true) ∧ ¬ (may k 1 = true ∧ sFin lim tot act ct may n (n - k - 1) (sLoad act ct f 0 k) (sLoad act ct f 1 k + ct k) = true) ∧ f k = 2)) : sBest n act ct may f := by
  have inv : ∀ k, k ≤ n → sFin lim tot act ct may n (n - k) (sLoad act ct f 0 k) (sLoad act ct f 1 k) = true ∧ ∀ i, i < k → act i = true → f i < 3 ∧ may i (f i) = true := by
    intro k
    induction k with
    | zero => exact fun _ => ⟨by simpa [sLoad] using hlim, fun i h => absurd h (Nat.not_lt_zero _)⟩
    | succ k ih =>
      intro hk
      obtain ⟨h1, h2⟩ := ih (by omega)
      have e1 : n - k = (n - (k + 1)) + 1 := by omega
      have e2 : n - ((n - (k + 1)) + 1) = k := by omega
      have e3 : n - k - 1 = n - (k + 1) := by omega
      rw [e1] at h1
      simp only [sFin, e2] at h1
      by_cases ha : act k = true
      · have h3 := hf k (by omega) ha
        rw [e3] at h3
        simp only [ha, if_true, Bool.or_eq_true, Bool.and_eq_true] at h1
        rcases h3 with ⟨q1, q2, q3⟩ | ⟨q1, q2, q3, q4⟩ | ⟨q1, q2, q3⟩
        · refine ⟨by simpa [sLoad, ha, q3] using q2, fun i hi hai => ?_⟩
          by_cases hik : i = k
          · subst hik; rw [q3]; exact ⟨by omega, q1⟩
          · exact h2 i (by omega) hai
        · refine ⟨by simpa [sLoad, ha, q4] using q3, fun i hi hai => ?_⟩
          by_cases hik : i = k
          · subst hik; rw [q4]; exact ⟨by omega, q2⟩
          · exact h2 i (by omega) hai
        · rcases h1 with h1 | h1 | h1
          · exact absurd h1 q1
          · exact absurd h1 q2
          · refine ⟨by simpa [sLoad, ha, q3] using h1.2, fun i hi hai => ?_⟩
            by_cases hik : i = k
            · subst hik; rw [q3]; exact ⟨by omega, h1.1⟩
            · exact h2 i (by omega) hai
      · rw [if_neg ha] at h1
        refine ⟨by simpa [sLoad, ha] using h1, fun i hi hai => ?_⟩
        by_cases hik : i = k
        · exact absurd (hik ▸ hai) ha
        · exact h2 i (by omega) hai
  obtain ⟨hend, hok⟩ := inv n (Nat.le_refl _)
  have hok : sOk n act may f := hok
  have hsum := sLoad_sum (act := act) (ct := ct) (f := f) (n := n) (fun k hk ha => (hok k hk ha).1)
  have hmost : sMost act ct f n ≤ lim := by
    rw [Nat.sub_self] at hend
    simp only [sFin, decide_eq_true_eq] at hend
    simp only [sMost]
    omega
  refine ⟨hok, fun g hg => ?_⟩
  have hge : lim ≤ sMost act ct g n := by
    rcases Nat.lt_or_ge (sMost act ct g n) lim with q | q
    · have h1 := hleast _ q
      have h2 := sFin_of (lim := sMost act ct g n) hg ht (Nat.le_refl _) (Nat.zero_le n)
      rw [Nat.sub_zero] at h2
      simp only [sLoad] at h2
      rw [h1] at h2
      cases h2
    · exact q
  refine ⟨by omega, fun hle k hk ha heq => ?_⟩
  have l0 : sLoad act ct g 0 k = sLoad act ct f 0 k := sLoad_congr (fun j hj haj => heq j hj haj)
  have l1 : sLoad act ct g 1 k = sLoad act ct f 1 k := sLoad_congr (fun j hj haj => heq j hj haj)
  have h1 := sFin_of (lim := lim) hg ht (by omega) (show k + 1 ≤ n by omega)
  rw [show n - (k + 1) = n - k - 1 by omega] at h1
  simp only [sLoad, ha, true_and, l0, l1] at h1
  obtain ⟨h2, h3⟩ := hg k hk ha
  rcases hf k hk ha with ⟨q1, q2, q3⟩ | ⟨q1, q2, q3, q4⟩ | ⟨q1, q2, q3⟩
  · omega
  · rw [q4]
    rcases (show g k = 0 ∨ 1 ≤ g k by omega) with e | e
    · rw [e] at h3 h1
      exact absurd ⟨h3, by simpa using h1⟩ q1
    · exact e
  · rw [q3]
    rcases (show g k = 0 ∨ g k = 1 ∨ 2 ≤ g k by omega) with e | e | e
    · rw [e] at h3 h1
      exact absurd ⟨h3, by simpa using h1⟩ q1
    · rw [e] at h3 h1
      exact absurd ⟨h3, by simpa using h1⟩ q2
    · exact e
/-! the enumeration: ways in the order of their first kinds -/
def sLt (n : Nat) (act : Nat → Bool) (f g : Nat → Nat) : Prop := ∃ k, k < n ∧ act k = true ∧ f k < g k ∧ ∀ j, j < k → act j = true → f j = g j
theorem sLt_tri {n : Nat} {act : Nat → Bool} (f g : Nat → Nat) : sLt n act f g ∨ sLt n act g f ∨ ∀ k, k < n → act k = true → f k = g k := by
  induction n with
  | zero => exact Or.inr (Or.inr fun k h => absurd h (Nat.not_lt_zero _))
  | succ n ih =>
    rcases ih with ⟨k, h1, h2⟩ | ⟨k, h1, h2⟩ | h
    · exact Or.inl ⟨k, by omega, h2⟩
    · exact Or.inr (Or.inl ⟨k, by omega, h2⟩)
    · by_cases ha : act n = true
      · rcases Nat.lt_trichotomy (f n) (g n) with q | q | q
        · exact Or.inl ⟨n, by omega, ha, q, h⟩
        · refine Or.inr (Or.inr fun k hk hak => ?_)
          by_cases e : k = n
          · rw [e]; exact q
          · exact h k (by omega) hak
        · exact Or.inr (Or.inl ⟨n, by omega, ha, q, fun j hj haj => (h j hj haj).symm⟩)
      · refine Or.inr (Or.inr fun k hk hak => ?_)
        by_cases e : k = n
        · exact absurd (e ▸ hak) ha
        · exact h k (by omega) hak
theorem sLt_trans {n : Nat} {act : Nat → Bool} {f g h : Nat → Nat} (h1 : sLt n act f g) (h2 : sLt n act g h) : sLt n act f h := by
  obtain ⟨k, a1, a2, a3, a4⟩ := h1
  obtain ⟨i, b1, b2, b3, b4⟩ := h2
  rcases Nat.lt_trichotomy k i with q | q | q
  · exact ⟨k, a1, a2, by rw [← b4 k q a2]; exact a3, fun j hj ha => (a4 j hj ha).trans (b4 j (by omega) ha)⟩
  · subst q
    exact ⟨k, a1, a2, by omega, fun j hj ha => (a4 j hj ha).trans (b4 j hj ha)⟩
  · exact ⟨i, b1, b2, by rw [a4 i q b2]; exact b3, fun j hj ha => (a4 j (by omega) ha).trans (b4 j hj ha)⟩
/-- best is the best of all ways up to f -/
def sUpTo (n : Nat) (act : Nat → Bool) (ct : Nat → Nat) (may : Nat → Nat → Bool) (f best : Nat → Nat) : Prop :=
  sOk n act may f ∧ sOk n act may best ∧ ¬ sLt n act f best ∧ ∀ g, sOk n act may g → ¬ sLt n act f g → sMost act ct best n ≤ sMost act ct g n ∧ (sMost act ct g n ≤ sMost act ct best n → ¬ sLt n act g best)
theorem sUpTo_all {n : Nat} {act : Nat → Bool} {ct : Nat → Nat} {may : Nat → Nat → Bool} {f best : Nat → Nat} (h : sUpTo n act ct may f best) (hlast : ∀ g, sOk n act may g → ¬ sLt n act f g) : sBest n act ct may best := by
  refine ⟨h.2.1, fun g hg => ?_⟩
  obtain ⟨h1, h2⟩ := h.2.2.2 g hg (hlast g hg)
  refine ⟨h1, fun hle k hk ha heq => ?_⟩
  rcases Nat.lt_or_ge (g k) (best k) with q | q
  · exact absurd ⟨k, hk, ha, q, heq⟩ (h2 hle)
  · exact q
theorem sLt_congr {n : Nat} {act : Nat → Bool} {f f' g g' : Nat → Nat} (hf : ∀ k, k < n → act k = true → f k = f' k) (hg : ∀ k, k < n → act k = true → g k = g' k) (h : sLt n act f g) : sLt n act f' g' := by
  obtain ⟨k, a1, a2, a3, a4⟩ := h
  exact ⟨k, a1, a2, by rw [← hf k a1 a2, ← hg k a1 a2]; exact a3, fun j hj ha => by rw [← hf j (by omega) ha, ← hg j (by omega) ha]; exact a4 j hj ha⟩
theorem sLt_irr {n : Nat} {act : Nat → Bool} {f : Nat → Nat} : ¬ sLt n act f f := fun ⟨_, _, _, h, _⟩ => Nat.lt_irrefl _ h
/-- one way on -/
theorem sUpTo_step {n : Nat} {act : Nat → Bool} {ct : Nat → Nat} {may : Nat → Nat → Bool} {f f' best best' : Nat → Nat} (h : sUpTo n act ct may f best) (hok : sOk n act may f') (hlt : sLt n act f f') (hnext : ∀ g, sOk n act may g → sLt n act g f' → ¬ sLt n act f g)
    (hb : (sMost act ct best n ≤ sMost act ct f' n ∧ ∀ k, k < n → act k = true → best' k = best k) ∨ (sMost act ct f' n < sMost act ct best n ∧ ∀ k, k < n → act k = true → best' k = f' k)) : sUpTo n act ct may f' best' := by
  obtain ⟨h1, h2, h3, h4⟩ := h
  rcases hb with ⟨hm, hb⟩ | ⟨hm, hb⟩
  · have em : sMost act ct best' n = sMost act ct best n := sMost_congr hb
    have hbf : sLt n act best f' := by
      rcases sLt_tri (n := n) (act := act) best f with q | q | q
      · exact sLt_trans q hlt
      · exact absurd q h3
      · exact sLt_congr (fun k hk ha => (q k hk ha).symm) (fun _ _ _ => rfl) hlt
    refine ⟨hok, fun k hk ha => by rw [hb k hk ha]; exact h2 k hk ha, fun q => ?_, fun g hg hng => ?_⟩
    · exact sLt_irr (sLt_trans hbf (sLt_congr (fun _ _ _ => rfl) hb q))
    · rw [em]
      rcases sLt_tri (n := n) (act := act) g f' with q | q | q
      · obtain ⟨r1, r2⟩ := h4 g hg (hnext g hg q)
        exact ⟨r1, fun hle z => r2 hle (sLt_congr (fun _ _ _ => rfl) hb z)⟩
      · exact absurd q hng
      · rw [sMost_congr q]
        exact ⟨hm, fun _ z => sLt_irr (sLt_trans hbf (sLt_congr q hb z))⟩
  · have em : sMost act ct best' n = sMost act ct f' n := sMost_congr hb
    refine ⟨hok, fun k hk ha => by rw [hb k hk ha]; exact hok k hk ha, fun q => sLt_irr (sLt_congr (fun _ _ _ => rfl) hb q), fun g hg hng => ?_⟩
    rw [em]
    rcases sLt_tri (n := n) (act := act) g f' with q | q | q
    · obtain ⟨r1, r2⟩ := h4 g hg (hnext g hg q)
      exact ⟨by omega, fun hle => absurd hle (by omega)⟩
    · exact absurd q hng
    · rw [sMost_congr q]
      exact ⟨Nat.le_refl _, fun _ z => sLt_irr (sLt_congr q hb z)⟩
