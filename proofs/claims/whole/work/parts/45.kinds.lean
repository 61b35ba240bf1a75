/-! from the items of Shares to the kinds -/
def nAct (act : Nat → Bool) : Nat → Nat
  | 0 => 0
  | k + 1 => nAct act k + (if act k = true then 1 else 0)
theorem nAct_mono {act : Nat → Bool} {j k : Nat} (h : j ≤ k) : nAct act j ≤ nAct act k := by
  induction k with
  | zero => rw [Nat.le_zero.mp h]; exact Nat.le_refl _
  | succ k ih =>
    rcases Nat.lt_or_ge k j with q | q
    · rw [show j = k + 1 by omega]; exact Nat.le_refl _
    · simp only [nAct]
      have := ih q
      omega
theorem nAct_lt {act : Nat → Bool} {j k : Nat} (hj : act j = true) (h : j < k) : nAct act j < nAct act k := by
  have := nAct_mono (act := act) (show j + 1 ≤ k by omega)
  simp only [nAct, hj, if_true] at this
  omega
theorem nAct_le {act : Nat → Bool} {k : Nat} : nAct act k ≤ k := by
  induction k with
  | zero => exact Nat.le_refl _
  | succ k ih =>
    simp only [nAct]
    split <;> omega
theorem nAct_sur {act : Nat → Bool} {k i : Nat} (h : i < nAct act k) : ∃ j, j < k ∧ act j = true ∧ nAct act j = i := by
  induction k with
  | zero => simp [nAct] at h
  | succ k ih =>
    simp only [nAct] at h
    by_cases ha : act k = true
    · simp only [ha, if_true] at h
      by_cases e : i = nAct act k
      · exact ⟨k, by omega, ha, e.symm⟩
      · obtain ⟨j, h1, h2, h3⟩ := ih (by omega)
        exact ⟨j, by omega, h2, h3⟩
    · simp only [ha] at h
      obtain ⟨j, h1, h2, h3⟩ := ih (by simpa using h)
      exact ⟨j, by omega, h2, h3⟩
theorem nAct_inj {act : Nat → Bool} {j k : Nat} (hj : act j = true) (hk : act k = true) (h : nAct act j = nAct act k) : j = k := by
  rcases Nat.lt_trichotomy j k with q | q | q
  · have := nAct_lt hj q; omega
  · exact q
  · have := nAct_lt hk q; omega
theorem sLoad_items {K : Nat} {act : Nat → Bool} {ct iC : Nat → Nat} {g gI : Nat → Nat} {m : Nat} (h1 : ∀ k, k < K → act k = true → iC (nAct act k) = ct k) (h2 : ∀ k, k < K → act k = true → gI (nAct act k) = g k) : sLoad (fun _ => true) iC gI m (nAct act K) = sLoad act ct g m K := by
  induction K with
  | zero => rfl
  | succ K ih =>
    have e := ih (fun k hk => h1 k (by omega)) (fun k hk => h2 k (by omega))
    simp only [nAct, sLoad]
    by_cases ha : act K = true
    · simp only [ha, if_true, sLoad, true_and]
      rw [e, h1 K (by omega) ha, h2 K (by omega) ha]
    · simp [ha, e]
theorem sTot_items {K : Nat} {act : Nat → Bool} {ct iC : Nat → Nat} (h1 : ∀ k, k < K → act k = true → iC (nAct act k) = ct k) : sTot (fun _ => true) iC (nAct act K) = sTot act ct K := by
  induction K with
  | zero => rfl
  | succ K ih =>
    have e := ih (fun k hk => h1 k (by omega))
    simp only [nAct, sTot]
    by_cases ha : act K = true
    · simp only [ha, if_true, sTot]
      rw [e, h1 K (by omega) ha]
    · simp [ha, e]
theorem sBest_items {K : Nat} {act : Nat → Bool} {ct iC : Nat → Nat} {may iM : Nat → Nat → Bool} {hI : Nat → Nat} (h1 : ∀ k, k < K → act k = true → iC (nAct act k) = ct k) (h2 : ∀ k, k < K → act k = true → ∀ m, iM (nAct act k) m = may k m) (hb : sBest (nAct act K) (fun _ => true) iC iM hI) : sBest K act ct may (fun k => hI (nAct act k)) := by
  have em : sMost (fun _ => true) iC hI (nAct act K) = sMost act ct (fun k => hI (nAct act k)) K := by
    simp only [sMost, sLoad_items (m := 0) h1 (fun _ _ _ => rfl), sLoad_items (m := 1) h1 (fun _ _ _ => rfl), sLoad_items (m := 2) h1 (fun _ _ _ => rfl)]
  refine ⟨fun k hk ha => ?_, fun g hg => ?_⟩
  · have := hb.1 (nAct act k) (nAct_lt ha hk) rfl
    rw [h2 k hk ha] at this
    exact this
  · obtain ⟨gI, hgI⟩ : ∃ gI : Nat → Nat, ∀ k, k < K → act k = true → gI (nAct act k) = g k := by
      refine ⟨fun i => if h : i < nAct act K then g (Classical.choose (nAct_sur h)) else 0, fun k hk ha => ?_⟩
      have hlt := nAct_lt ha hk
      simp only [dif_pos hlt]
      have hs := Classical.choose_spec (nAct_sur hlt)
      rw [nAct_inj hs.2.1 ha hs.2.2]
    have hok : sOk (nAct act K) (fun _ => true) iM gI := fun i hi _ => by
      obtain ⟨k, hk, ha, rfl⟩ := nAct_sur hi
      rw [hgI k hk ha, h2 k hk ha]
      exact hg k hk ha
    have eg : sMost (fun _ => true) iC gI (nAct act K) = sMost act ct g K := by
      simp only [sMost, sLoad_items (m := 0) h1 hgI, sLoad_items (m := 1) h1 hgI, sLoad_items (m := 2) h1 hgI]
    obtain ⟨b1, b2⟩ := hb.2 gI hok
    rw [em, eg] at b1 b2
    refine ⟨b1, fun hle k hk ha heq => ?_⟩
    have := b2 hle (nAct act k) (nAct_lt ha hk) rfl (fun i hi _ => by
      obtain ⟨j, hj, haj, rfl⟩ := nAct_sur (show i < nAct act K from Nat.lt_trans hi (nAct_lt ha hk))
      have hjk : j < k := by
        rcases Nat.lt_or_ge j k with q | q
        · exact q
        · have := nAct_mono (act := act) q; omega
      rw [hgI j hj haj]
      exact heq j hjk haj)
    rw [hgI k hk ha] at this
    exact this
theorem cnt_in (f : Nat → Int) (k : Int) : ∀ n : Nat, 0 ≤ cnt f k n ∧ cnt f k n ≤ n
  | 0 => by simp [cnt]
  | n + 1 => by
    have h := cnt_in f k n
    simp only [cnt]
    split <;> omega
def sumC (f : Nat → Int) (n : Nat) : Nat → Int
  | 0 => 0
  | k + 1 => sumC f n k + cnt f (k : Int) n
theorem sumC_s (f : Nat → Int) (n : Nat) : ∀ K : Nat, sumC f (n + 1) K = sumC f n K + (if 0 ≤ f n ∧ f n < K then 1 else 0)
  | 0 => by
    simp only [sumC]
    rw [if_neg (by omega)]
    rfl
  | K + 1 => by
    simp only [sumC, cnt]
    rw [sumC_s f n K]
    by_cases h : f n = (K : Int)
    · rw [if_neg (by omega), if_pos h, if_pos (by omega)]; omega
    · rw [if_neg h]
      by_cases h2 : 0 ≤ f n ∧ f n < K
      · rw [if_pos h2, if_pos (by omega)]; omega
      · rw [if_neg h2, if_neg (by omega)]; omega
theorem sumC_le (f : Nat → Int) (K : Nat) : ∀ n : Nat, sumC f n K ≤ n
  | 0 => by
    have : ∀ K, sumC f 0 K = 0 := fun K => by
      induction K with
      | zero => rfl
      | succ K ih => simp only [sumC, ih, cnt]; rfl
    rw [this]; exact Int.le_refl _
  | n + 1 => by
    have h := sumC_le f K n
    rw [sumC_s]
    split <;> omega
def kCt (V : Mem) (np : Nat) (k : Nat) : Nat := (cnt (V 10) (k : Int) np).toNat
def kHo (V : Mem) (us : Nat) (k : Nat) : Nat := hosts (fun m => decide ((V (15 + 4 * m) 3).toNat / 2 ^ (V 4 k).toNat % 2 = 1)) us
def kAct (V : Mem) (np us k : Nat) : Bool := decide (0 < kCt V np k ∧ kHo V us k ≠ 0)
def kMay (V : Mem) (us k m : Nat) : Bool := (kHo V us k).testBit m
theorem kTot_le (V : Mem) (np us : Nat) : ∀ K : Nat, (sTot (kAct V np us) (kCt V np) K : Int) ≤ sumC (V 10) np K
  | 0 => by simp [sTot, sumC]
  | K + 1 => by
    have h := kTot_le V np us K
    have hc := cnt_in (V 10) (K : Int) np
    simp only [sTot, sumC]
    split
    · have : ((kCt V np K : Nat) : Int) = cnt (V 10) (K : Int) np := by unfold kCt; omega
      omega
    · omega
theorem bit3 {x : Nat} (h : x < 8) (h0 : x ≠ 0) : ∃ m, m < 3 ∧ x.testBit m = true := by
  have : ∀ x : Fin 8, x.val ≠ 0 → ∃ m : Fin 3, x.val.testBit m.val = true := by decide +kernel
  obtain ⟨m, hm⟩ := this ⟨x, h⟩ h0
  exact ⟨m.val, m.isLt, hm⟩
/-- the items of the kinds below k -/
def shInv (V : Mem) (np us k : Nat) (U : Mem) : Prop := U 27 5 = (nAct (kAct V np us) k : Int) ∧ U 27 6 = (sTot (kAct V np us) (kCt V np) k : Int) ∧ (∀ j, j < k → kAct V np us j = true → U 29 (nAct (kAct V np us) j) = (j : Int) ∧ U 30 (nAct (kAct V np us) j) = (kCt V np j : Int) ∧ U 31 (nAct (kAct V np us) j) = (kHo V us j : Int)) ∧ (∀ j, j < 10 → U 28 j = -1) ∧ ∀ c, ¬ (27 ≤ c ∧ c ≤ 31) → U c = V c
theorem shInv_skip {V : Mem} {np us k : Nat} {U : Mem} (h : shInv V np us k U) (ha : kAct V np us k = false) : shInv V np us (k + 1) U := by
  obtain ⟨h1, h2, h3, h4, h5⟩ := h
  refine ⟨by simp only [nAct, ha]; rw [h1]; simp, by simp only [sTot, ha]; rw [h2]; simp, fun j hj haj => ?_, h4, h5⟩
  by_cases e : j = k
  · subst e; rw [ha] at haj; cases haj
  · exact h3 j (by omega) haj
theorem shInv_add {V : Mem} {np us k : Nat} {U : Mem} (h : shInv V np us k U) (ha : kAct V np us k = true) : shInv V np us (k + 1) (up (up (up (up (up U 29 (U 27 5).toNat (k : Int)) 30 (U 27 5).toNat (kCt V np k : Int)) 31 (U 27 5).toNat (kHo V us k : Int)) 27 5 (U 27 5 + 1)) 27 6 (U 27 6 + (kCt V np k : Int))) := by
  obtain ⟨h1, h2, h3, h4, h5⟩ := h
  have en : (U 27 5).toNat = nAct (kAct V np us) k := by omega
  refine ⟨?_, ?_, fun j hj haj => ?_, fun j hj => ?_, fun c hc => ?_⟩
  · rw [up_ne (by omega), up_eq, h1]; simp only [nAct, ha, if_true]; omega
  · rw [up_eq, h2]; simp only [sTot, ha, if_true]; omega
  · rw [en]
    by_cases e : j = k
    · subst e
      refine ⟨?_, ?_, ?_⟩
      · rw [up_ne (by omega), up_ne (by omega), up_ne (by omega), up_ne (by omega), up_eq]
      · rw [up_ne (by omega), up_ne (by omega), up_ne (by omega), up_eq]
      · rw [up_ne (by omega), up_ne (by omega), up_eq]
    · have hlt := nAct_lt haj (show j < k by omega)
      obtain ⟨q1, q2, q3⟩ := h3 j (by omega) haj
      refine ⟨?_, ?_, ?_⟩
      · rw [up_ne (by omega), up_ne (by omega), up_ne (by omega), up_ne (by omega), up_ne (by omega)]; exact q1
      · rw [up_ne (by omega), up_ne (by omega), up_ne (by omega), up_ne (by omega), up_ne (by omega)]; exact q2
      · rw [up_ne (by omega), up_ne (by omega), up_ne (by omega), up_ne (by omega), up_ne (by omega)]; exact q3
  · rw [up_ne (by omega), up_ne (by omega), up_ne (by omega), up_ne (by omega), up_ne (by omega)]; exact h4 j hj
  · rw [up_ne1 (by omega), up_ne1 (by omega), up_ne1 (by omega), up_ne1 (by omega), up_ne1 (by omega)]; exact h5 c hc
theorem hosts_congr {has has2 : Nat → Bool} {n : Nat} (h : ∀ m, m < n → has m = has2 m) : hosts has n = hosts has2 n := by
  induction n with
  | zero => rfl
  | succ n ih =>
    simp only [hosts]
    rw [h n (by omega), ih (fun m hm => h m (by omega))]
