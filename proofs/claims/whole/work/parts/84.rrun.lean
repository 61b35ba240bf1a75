/-! the reference's run -/
/-- at the start of a run -/
def rIn (V V1 : Mem) (us : Nat) : Prop := (∀ j, j < 30 → V1 13 j = -1) ∧ (∀ j, j < 3 → V1 14 j = 0) ∧ V1 0 0 = 0 ∧ V1 0 18 = (us : Int) ∧ (∀ j, j ≠ 0 → j ≠ 18 → V1 0 j = V 0 j) ∧ ∀ c, c ≠ 0 → c ≠ 13 → c ≠ 14 → V1 c = V c
theorem okR_in {V V1 : Mem} {us : Nat} (hok : okR V) (h : rIn V V1 us) (hus : (us : Int) ≤ V 0 15) : okR V1 := by
  obtain ⟨r2, r3, r10, r15, r18, q1, q1k, q2, q3, q4, q5, q6, q7, q7k, q8, q9, q10, q11, q12, q14, qr, qf⟩ := hok
  obtain ⟨h1, h2, -, h4, h5, h6⟩ := h
  have e : ∀ c, c ≠ 0 → c ≠ 13 → c ≠ 14 → V1 c = V c := h6
  unfold okR
  rw [h5 2 (by omega) (by omega), h5 3 (by omega) (by omega), h5 10 (by omega) (by omega), h5 15 (by omega) (by omega), h4, e 1 (by omega) (by omega) (by omega), e 2 (by omega) (by omega) (by omega), e 3 (by omega) (by omega) (by omega), e 4 (by omega) (by omega) (by omega), e 5 (by omega) (by omega) (by omega), e 6 (by omega) (by omega) (by omega), e 7 (by omega) (by omega) (by omega), e 8 (by omega) (by omega) (by omega), e 9 (by omega) (by omega) (by omega), e 10 (by omega) (by omega) (by omega), e 11 (by omega) (by omega) (by omega), e 12 (by omega) (by omega) (by omega)]
  refine ⟨r2, r3, r10, r15, by omega, q1, q1k, q2, q3, q4, q5, q6, q7, q7k, q8, q9, q10, q11, q12, fun m hm => by rw [h2 m hm]; omega, fun m hm i hi => ?_, fun m hm k hk => by rw [h1 _ (by omega)]; omega⟩
  rw [h2 m hm] at hi
  omega
def rSh (V V' : Mem) : Prop := ∃ h : Nat → Nat, sBest (V 0 3).toNat (rAct V (V 0 10).toNat (V 0 18).toNat) (rCt V (V 0 10).toNat) (rMay V (V 0 18).toNat) h ∧ shS (V' 17) (rAct V (V 0 10).toNat (V 0 18).toNat) h (V 0 3).toNat ∧ off2 V V'
/-- whether part p goes to the feeders g of machine m -/
def rSel (V : Mem) (m : Nat) (g : Nat → Int) : Nat → Bool := fun p => decide (V 17 (V 7 p).toNat = (m : Int) ∧ g (V 7 p).toNat ≠ -1)
/-- all but what is worked with for machine m -/
def rsO (V V' : Mem) (m : Nat) : Prop := (∀ j, ¬ (10 * m ≤ j ∧ j < 10 * m + 10) → V' 13 j = V 13 j) ∧ (∀ j, j ≠ m → V' 14 j = V 14 j) ∧ (∀ j, ¬ (40 * m ≤ j ∧ j < 40 * m + 40) → V' 15 j = V 15 j) ∧ (∀ j, j ≠ 25 → V' 0 j = V 0 j) ∧ ∀ c, c ≠ 0 → c ≠ 13 → c ≠ 14 → c ≠ 15 → c ≠ 18 → c ≠ 19 → c ≠ 20 → V' c = V c
theorem rsO_trans {A B C : Mem} {m : Nat} (h : rsO A B m) (h' : rsO B C m) : rsO A C m := ⟨fun j a => (h'.1 j a).trans (h.1 j a), fun j a => (h'.2.1 j a).trans (h.2.1 j a), fun j a => (h'.2.2.1 j a).trans (h.2.2.1 j a), fun j a => (h'.2.2.2.1 j a).trans (h.2.2.2.1 j a), fun c a b d e f g i => (h'.2.2.2.2 c a b d e f g i).trans (h.2.2.2.2 c a b d e f g i)⟩
/-- machine m is set up; g: its feeders -/
def rsG (V : Mem) (m : Nat) (V' : Mem) (g : Nat → Int) : Prop := othR (V 1) (V 3) (V 17) (V 0 3).toNat (V 0 2).toNat (m : Int) (fixF (V 3) (V 17) (m : Int) (fun _ => -1) (V 0 3).toNat) (V 0 3).toNat g ∧ (∀ k, k < 10 → V' 13 (10 * m + k) = g k) ∧ V' 14 m = (nAct (rSel V m g) (V 0 10).toNat : Int) ∧ (∀ t, t * (V 12 m).toNat < nAct (rSel V m g) (V 0 10).toNat → isArr (V 10) (V 8) (V 9) (V 0 10) (fun i => lnF (V 10) (V 8) (V 9) (rSel V m g) (V 0 10).toNat (t * (V 12 m).toNat + i)) (fun i => V' 15 (40 * m + (t * (V 12 m).toNat + i))) (min (V 12 m).toNat (nAct (rSel V m g) (V 0 10).toNat - t * (V 12 m).toNat))) ∧ rsO V V' m
def rsR (V : Mem) (m : Nat) (V' : Mem) : Prop := ∃ g, rsG V m V' g
def rsSeq (V : Mem) : Nat → Mem → Prop
  | 0, U => U = V
  | m + 1, U' => ∃ U, rsSeq V m U ∧ rsR U m U'
theorem rsG_row {V : Mem} {m : Nat} {V' : Mem} {g : Nat → Int} (hc : 1 ≤ (V 12 m).toNat) (h : rsG V m V' g) : ∀ i, i < nAct (rSel V m g) (V 0 10).toNat → 0 ≤ V' 15 (40 * m + i) ∧ V' 15 (40 * m + i) < (V 0 10).toNat := by
  obtain ⟨-, -, -, hr, -⟩ := h
  intro i hi
  have h1 : i / (V 12 m).toNat * (V 12 m).toNat ≤ i := Nat.div_mul_le_self _ _
  have h2 : i - i / (V 12 m).toNat * (V 12 m).toNat < (V 12 m).toNat := by
    have := Nat.mod_lt i (show 0 < (V 12 m).toNat by omega)
    have e := Nat.div_add_mod i (V 12 m).toNat
    rw [Nat.mul_comm] at e
    omega
  have h3 := isArr_all (P := fun z => 0 ≤ z ∧ z < (V 0 10).toNat) (hr (i / (V 12 m).toNat) (by omega)) (fun j hj => lnF_in (by omega)) (i - i / (V 12 m).toNat * (V 12 m).toNat) (by omega)
  rw [show i / (V 12 m).toNat * (V 12 m).toNat + (i - i / (V 12 m).toNat * (V 12 m).toNat) = i by omega] at h3
  exact h3
theorem rsR_ok {V : Mem} {m : Nat} {V' : Mem} (hm : (m : Int) < V 0 15) (hok : okR V) (hr : rsR V m V') : okR V' := by
  obtain ⟨g, hg⟩ := hr
  obtain ⟨r2, r3, r10, r15, r18, q1, q1k, q2, q3, q4, q5, q6, q7, q7k, q8, q9, q10, q11, q12, q14, qr, qf⟩ := hok
  have qc := q12 m hm
  have hrow := rsG_row (by omega) hg
  obtain ⟨h1, h2, h3, -, o13, o14, o15, o0, oc⟩ := hg
  have hn := nAct_le (act := rSel V m g) (k := (V 0 10).toNat)
  have e : ∀ c, c ≠ 0 → c < 13 → V' c = V c := fun c a b => oc c a (by omega) (by omega) (by omega) (by omega) (by omega) (by omega)
  unfold okR
  rw [o0 2 (by omega), o0 3 (by omega), o0 10 (by omega), o0 15 (by omega), o0 18 (by omega), e 1 (by omega) (by omega), e 2 (by omega) (by omega), e 3 (by omega) (by omega), e 4 (by omega) (by omega), e 5 (by omega) (by omega), e 6 (by omega) (by omega), e 7 (by omega) (by omega), e 8 (by omega) (by omega), e 9 (by omega) (by omega), e 10 (by omega) (by omega), e 11 (by omega) (by omega), e 12 (by omega) (by omega)]
  refine ⟨r2, r3, r10, r15, r18, q1, q1k, q2, q3, q4, q5, q6, q7, q7k, q8, q9, q10, q11, q12, fun m' hm' => ?_, fun m' hm' i hi => ?_, fun m' hm' k hk => ?_⟩
  · by_cases q : m' = m
    · subst q; rw [h3]; omega
    · rw [o14 m' q]; exact q14 m' hm'
  · by_cases q : m' = m
    · subst q
      rw [h3] at hi
      have := hrow i (by omega)
      omega
    · rw [o14 m' q] at hi
      have := q14 m' hm'
      rw [o15 _ (by omega)]
      exact qr m' hm' i hi
  · by_cases q : m' = m
    · subst q
      rw [h2 k hk]
      exact othR_in (by omega) (fun k hk => (q1 k hk).1) (fixF_in q3) (by omega) h1 k hk
    · rw [o13 _ (by omega)]
      exact qf m' hm' k hk
/-- the trips arranged so far -/
def arK (V W : Mem) (m cr n : Nat) (ln : Nat → Int) (tr : Nat) : Prop := (∀ t, t < tr → t * cr < n → isArr (V 10) (V 8) (V 9) (V 0 10) (fun i => ln (t * cr + i)) (fun i => W 15 (40 * m + (t * cr + i))) (min cr (n - t * cr))) ∧ (∀ j, tr * cr ≤ j → j < n → W 15 (40 * m + j) = ln j) ∧ (∀ i, i < n → 0 ≤ W 15 (40 * m + i) ∧ W 15 (40 * m + i) < V 0 10) ∧ (∀ j, ¬ (40 * m ≤ j ∧ j < 40 * m + 40) → W 15 j = V 15 j) ∧ (∀ j, j ≠ 25 → W 0 j = V 0 j) ∧ ∀ c, c ≠ 0 → c ≠ 15 → c ≠ 19 → c ≠ 20 → W c = V c
theorem arK_s {V W W' : Mem} {m cr n : Nat} {ln : Nat → Int} {tr : Nat} (hn : n ≤ 40) (h : arK V W m cr n ln tr) (ht : tr * cr < n) (ha : ∃ g, isArr (W 10) (W 8) (W 9) (W 0 10) (fun i => W 15 (40 * m + (tr * cr + i))) g (min cr (n - tr * cr)) ∧ (∀ t, t < min cr (n - tr * cr) → W' 15 (40 * m + (tr * cr + t)) = g t) ∧ (∀ j, ¬ (40 * m + tr * cr ≤ j ∧ j < 40 * m + tr * cr + min cr (n - tr * cr)) → W' 15 j = W 15 j) ∧ (∀ j, j ≠ 25 → W' 0 j = W 0 j) ∧ ∀ c, c ≠ 0 → c ≠ 15 → c ≠ 19 → c ≠ 20 → W' c = W c) : arK V W' m cr n ln (tr + 1) := by
  obtain ⟨h1, h2, h3, h4, h5, h6⟩ := h
  obtain ⟨g, a1, a2, a3, a4, a5⟩ := ha
  rw [h6 10 (by omega) (by omega) (by omega) (by omega), h6 8 (by omega) (by omega) (by omega) (by omega), h6 9 (by omega) (by omega) (by omega) (by omega), h5 10 (by omega)] at a1
  have hs : (tr + 1) * cr = tr * cr + cr := by rw [Nat.add_mul, Nat.one_mul]
  refine ⟨fun t ht1 ht2 => ?_, fun j hj hjn => ?_, fun i hi => ?_, fun j hj => ?_, fun j hj => by rw [a4 j hj]; exact h5 j hj, fun c b d e f => by rw [a5 c b d e f]; exact h6 c b d e f⟩
  · by_cases q : t = tr
    · subst q
      refine isArr_congr a1 (fun i hi => ?_) (fun i hi => (a2 i hi).symm)
      exact h2 _ (by omega) (by omega)
    · have ht' : t + 1 ≤ tr := by omega
      have hm := Nat.mul_le_mul_right cr ht'
      rw [Nat.add_mul, Nat.one_mul] at hm
      refine isArr_congr (h1 t (by omega) ht2) (fun i hi => rfl) (fun i hi => ?_)
      exact (a3 _ (by omega)).symm
  · rw [a3 _ (by omega)]
    exact h2 j (by omega) hjn
  · by_cases q : tr * cr ≤ i ∧ i < tr * cr + min cr (n - tr * cr)
    · rw [show i = tr * cr + (i - tr * cr) by omega, a2 _ (by omega)]
      exact isArr_all (P := fun z => 0 ≤ z ∧ z < V 0 10) a1 (fun j hj => h3 _ (by omega)) _ (by omega)
    · rw [a3 _ (by omega)]
      exact h3 i hi
  · rw [a3 _ (by omega)]
    exact h4 j hj
