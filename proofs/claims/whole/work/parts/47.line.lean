/-! a machine's row -/
theorem insP_le {h x y f : Nat → Int} {p : Nat} : ∀ {n : Nat}, insP h x y f p n ≤ n
  | 0 => Nat.le_refl _
  | n + 1 => by
    have := insP_le (h := h) (x := x) (y := y) (f := f) (p := p) (n := n)
    simp only [insP]
    split <;> omega
theorem insP_congr {h x y f f' : Nat → Int} {p : Nat} : ∀ {n : Nat}, (∀ j, j < n → f j = f' j) → insP h x y f p n = insP h x y f' p n
  | 0, _ => rfl
  | n + 1, hf => by
    simp only [insP]
    rw [hf n (by omega), insP_congr (fun j hj => hf j (by omega))]
def insR (h x y f : Nat → Int) (n p : Nat) : Nat → Int := fun j => if j < insP h x y f p n then f j else if j = insP h x y f p n then (p : Int) else if j ≤ n then f (j - 1) else f j
theorem insR_congr {h x y f f' : Nat → Int} {p n : Nat} (hf : ∀ j, j < n → f j = f' j) : ∀ j, j < n + 1 → insR h x y f n p j = insR h x y f' n p j := by
  intro j hj
  have hle : insP h x y f p n ≤ n := insP_le
  unfold insR
  rw [← insP_congr hf]
  by_cases h1 : j < insP h x y f p n
  · rw [if_pos h1, if_pos h1, hf j (by omega)]
  · rw [if_neg h1, if_neg h1]
    by_cases h2 : j = insP h x y f p n
    · rw [if_pos h2, if_pos h2]
    · rw [if_neg h2, if_neg h2, if_pos (by omega), if_pos (by omega), hf (j - 1) (by omega)]
theorem shift_insR {V : Mem} {k n p : Nat} {h x y : Nat → Int} : ∀ j, up (shiftM V k (insP h x y (V k) p n) n) k (insP h x y (V k) p n) (p : Int) k j = insR h x y (V k) n p j := by
  intro j
  have hle : insP h x y (V k) p n ≤ n := insP_le
  unfold insR
  by_cases h2 : j = insP h x y (V k) p n
  · rw [h2, up_eq, if_neg (by omega), if_pos rfl]
  · rw [up_ne (Or.inr h2)]
    by_cases h1 : j < insP h x y (V k) p n
    · rw [if_pos h1, shiftM_lo (by omega)]
    · rw [if_neg h1, if_neg h2]
      unfold shiftM
      by_cases h3 : j ≤ n
      · rw [if_pos ⟨rfl, by omega, h3⟩, if_pos h3]
      · rw [if_neg (fun q => h3 q.2.2), if_neg h3]
/-- the parts below p that are chosen, in line -/
def lnF (h x y : Nat → Int) (sel : Nat → Bool) : Nat → Nat → Int
  | 0 => fun _ => 0
  | p + 1 => if sel p = true then insR h x y (lnF h x y sel p) (nAct sel p) p else lnF h x y sel p
theorem lnF_in {h x y : Nat → Int} {sel : Nat → Bool} : ∀ {p j : Nat}, j < nAct sel p → 0 ≤ lnF h x y sel p j ∧ lnF h x y sel p j < p
  | 0, j, hj => by simp [nAct] at hj
  | p + 1, j, hj => by
    simp only [lnF]
    by_cases hs : sel p = true
    · rw [if_pos hs]
      simp only [nAct, hs, if_true] at hj
      have hle : insP h x y (lnF h x y sel p) p (nAct sel p) ≤ nAct sel p := insP_le
      unfold insR
      by_cases h1 : j < insP h x y (lnF h x y sel p) p (nAct sel p)
      · rw [if_pos h1]
        have := lnF_in (h := h) (x := x) (y := y) (sel := sel) (p := p) (j := j) (by omega)
        omega
      · rw [if_neg h1]
        by_cases h2 : j = insP h x y (lnF h x y sel p) p (nAct sel p)
        · rw [if_pos h2]; omega
        · rw [if_neg h2, if_pos (by omega)]
          have := lnF_in (h := h) (x := x) (y := y) (sel := sel) (p := p) (j := j - 1) (by omega)
          omega
    · rw [if_neg hs]
      simp only [nAct, hs] at hj
      have := lnF_in (h := h) (x := x) (y := y) (sel := sel) (p := p) (j := j) (by simpa using hj)
      omega
/-- how many of the chosen below p are of kind k -/
def amF (sel : Nat → Bool) (kd : Nat → Int) (k : Nat) : Nat → Int
  | 0 => 0
  | p + 1 => amF sel kd k p + (if sel p = true ∧ kd p = (k : Int) then 1 else 0)
theorem amF_in (sel : Nat → Bool) (kd : Nat → Int) (k : Nat) : ∀ p : Nat, 0 ≤ amF sel kd k p ∧ amF sel kd k p ≤ p
  | 0 => by simp [amF]
  | p + 1 => by
    have h := amF_in sel kd k p
    simp only [amF]
    split <;> omega
theorem insF_ext {g g' : Nat → Int} {n : Nat} {p : Int} (h : g = g') : insF g n p = insF g' n p := by rw [h]
theorem poolF_congr {f f' : Nat → Int} : ∀ {k : Nat}, (∀ i, i < k → f i = f' i) → poolF f k = poolF f' k
  | 0, _ => rfl
  | k + 1, h => by
    simp only [poolF]
    rw [poolF_congr (fun i hi => h i (by omega)), h k (by omega)]
theorem isArr_congr {ht x y : Nat → Int} {np : Int} {f f' g g' : Nat → Int} {sz : Nat} (h : isArr ht x y np f g sz) (hf : ∀ i, i < sz → f i = f' i) (hg : ∀ i, i < sz → g i = g' i) : isArr ht x y np f' g' sz := by
  obtain ⟨q, h1, h2⟩ := h
  rw [poolF_congr hf] at h1 h2
  exact ⟨q, h1, fun t ht => by rw [← hg t ht]; exact h2 t ht⟩
theorem isArr_all {ht x y : Nat → Int} {np : Int} {f g : Nat → Int} {sz : Nat} {P : Int → Prop} (h : isArr ht x y np f g sz) (hf : ∀ i, i < sz → P (f i)) : ∀ i, i < sz → P (g i) := by
  obtain ⟨q, h1, h2⟩ := h
  intro i hi
  rw [h2 i hi]
  exact poolF_all hf _ (h1.choose_spec.2 i hi).1.1
/-- free, isLow, othR look at kinds below 10 alone -/
theorem free_congr {f f' w : Nat → Int} {kc : Nat} {s d : Int} (h : ∀ k, k < kc → f k = f' k) : free f w kc s d ↔ free f' w kc s d :=
  ⟨fun q k hk => by rw [← h k hk]; exact q k hk, fun q k hk => by rw [h k hk]; exact q k hk⟩
theorem isLow_congr {f f' w : Nat → Int} {kc sl : Nat} {d z : Int} (h : ∀ k, k < kc → f k = f' k) (q : isLow f w kc sl d z) : isLow f' w kc sl d z := by
  rcases q with ⟨e, q⟩ | ⟨s, e, h1, h2, h3⟩
  · exact Or.inl ⟨e, fun s hs hf => q s hs ((free_congr h).mpr hf)⟩
  · exact Or.inr ⟨s, e, h1, (free_congr h).mp h2, fun r hr hf => h3 r hr ((free_congr h).mpr hf)⟩
theorem othR_congr {w fx hm f f' : Nat → Int} {kc sl : Nat} {num : Int} (hkc : kc ≤ 10) (h : ∀ k, k < 10 → f k = f' k) : ∀ {k : Nat} {g : Nat → Int}, othR w fx hm kc sl num f k g → ∃ g', othR w fx hm kc sl num f' k g' ∧ ∀ j, j < 10 → g j = g' j
  | 0, g, q => ⟨f', rfl, fun j hj => by rw [show g = f from q]; exact h j hj⟩
  | k + 1, g, ⟨a, ha, q⟩ => by
    obtain ⟨a', ha', e⟩ := othR_congr hkc h ha
    rcases q with ⟨h1, h2, z, hz, rfl⟩ | ⟨h1, rfl⟩
    · refine ⟨up1 a' k z, ⟨a', ha', Or.inl ⟨h1, h2, z, isLow_congr (fun j hj => e j (by omega)) hz, rfl⟩⟩, fun j hj => ?_⟩
      unfold up1
      by_cases q : j = k
      · simp [q]
      · simp only [q, if_false]; exact e j hj
    · exact ⟨a', ⟨a', ha', Or.inr ⟨h1, rfl⟩⟩, e⟩
/-- what holds of a machine's cells while its line is built -/
def lnInv (V U : Mem) (m : Nat) (sel : Nat → Bool) (p : Nat) : Prop := U (15 + 4 * m) 5 = (nAct sel p : Int) ∧ (∀ j, j < nAct sel p → U (15 + 4 * m + 1) j = lnF (V 13) (V 11) (V 12) sel p j) ∧ (∀ k, k < 10 → U (15 + 4 * m + 3) k = amF sel (V 10) k p) ∧ (∀ j, j ≠ 5 → U (15 + 4 * m) j = V (15 + 4 * m) j) ∧ ∀ c, c ≠ 15 + 4 * m → c ≠ 15 + 4 * m + 1 → c ≠ 15 + 4 * m + 3 → U c = V c
theorem lnInv_skip {V U : Mem} {m : Nat} {sel : Nat → Bool} {p : Nat} (h : lnInv V U m sel p) (hs : ¬ sel p = true) : lnInv V U m sel (p + 1) := by
  obtain ⟨h1, h2, h3, h4, h5⟩ := h
  refine ⟨by rw [h1]; simp [nAct, hs], fun j hj => ?_, fun k hk => ?_, h4, h5⟩
  · simp only [nAct, hs] at hj
    simp only [lnF, if_neg hs]
    exact h2 j (by simpa using hj)
  · rw [h3 k hk]; simp [amF, hs]
theorem lnInv_add {V U : Mem} {m : Nat} {sel : Nat → Bool} {p kd n : Nat} (h : lnInv V U m sel p) (hs : sel p = true) (hkd : V 10 p = (kd : Int)) (hkl : kd < 10) (hn : nAct sel p = n) (e13 : U 13 = V 13) (e11 : U 11 = V 11) (e12 : U 12 = V 12) : lnInv V (up (up (up (shiftM U (15 + 4 * m + 1) (insP (U 13) (U 11) (U 12) (U (15 + 4 * m + 1)) p n) n) (15 + 4 * m + 1) (insP (U 13) (U 11) (U 12) (U (15 + 4 * m + 1)) p n) (p : Int)) (15 + 4 * m) 5 ((n : Int) + 1)) (15 + 4 * m + 3) kd (U (15 + 4 * m + 3) kd + 1)) m sel (p + 1) := by
  obtain ⟨h1, h2, h3, h4, h5⟩ := h
  subst hn
  rw [e13, e11, e12]
  refine ⟨?_, fun j hj => ?_, fun k hk => ?_, fun j hj => ?_, fun c c1 c2 c3 => ?_⟩
  · rw [up_ne (by omega), up_eq]; simp only [nAct, hs, if_true]; omega
  · rw [up_ne (by omega), up_ne (by omega), shift_insR]
    simp only [lnF, if_pos hs]
    simp only [nAct, hs, if_true] at hj
    exact insR_congr h2 j hj
  · by_cases e : k = kd
    · subst e
      rw [up_eq, h3 k hk]
      simp only [amF]
      rw [if_pos ⟨hs, hkd⟩]
    · rw [up_ne (by omega), up_ne (by omega), up_ne (by omega), shiftM_ne (by omega), h3 k hk]
      simp only [amF]
      rw [if_neg (fun q => by have := q.2; omega), Int.add_zero]
  · rw [up_ne (by omega), up_ne (by omega), up_ne (by omega), shiftM_ne (by omega)]; exact h4 j hj
  · rw [up_ne1 (by omega), up_ne1 (by omega), up_ne1 (by omega), shiftM_ne (by omega)]; exact h5 c c1 c2 c3
theorem trip_lt {tr n cr : Nat} (hcr : 1 ≤ cr) (h : tr < (if 0 < n then (n - 1) / cr + 1 else 0)) : tr * cr < n := by
  by_cases hn : 0 < n
  · rw [if_pos hn] at h
    have := (Nat.le_div_iff_mul_le (show 0 < cr by omega)).mp (show tr ≤ (n - 1) / cr by omega)
    omega
  · rw [if_neg hn] at h; omega
theorem lt_trip {tr n cr k : Nat} (hcr : 1 ≤ cr) (hk : (if 0 < n then (n - 1) / cr + 1 else 0) ≤ k) (h : tr * cr < n) : tr < k := by
  rw [if_pos (by omega)] at hk
  have := (Nat.le_div_iff_mul_le (show 0 < cr by omega)).mpr (show tr * cr ≤ n - 1 by omega)
  omega
