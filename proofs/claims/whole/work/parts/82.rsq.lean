theorem okR_rx {V V' : Mem} {m : Nat} (hm : m < 3) (hok : okR V) (ho : rxO V V' m) (hr : ∀ i : Nat, (i : Int) < V 14 m → 0 ≤ V' 15 (40 * m + i) ∧ V' 15 (40 * m + i) < V 0 10) : okR V' := by
  obtain ⟨r2, r3, r10, r15, r18, q1, q1k, q2, q3, q4, q5, q6, q7, q7k, q8, q9, q10, q11, q12, q14, qr, qf⟩ := hok
  have e : ∀ c, c ≠ 0 → c < 15 → V' c = V c := fun c a b => ho.1 c a (by omega) (by omega) (by omega) (by omega)
  have z : ∀ j, j ≠ 1 → j ≠ 25 → V' 0 j = V 0 j := ho.2.1
  unfold okR
  rw [z 2 (by omega) (by omega), z 3 (by omega) (by omega), z 10 (by omega) (by omega), z 15 (by omega) (by omega), z 18 (by omega) (by omega), e 1 (by omega) (by omega), e 2 (by omega) (by omega), e 3 (by omega) (by omega), e 4 (by omega) (by omega), e 5 (by omega) (by omega), e 6 (by omega) (by omega), e 7 (by omega) (by omega), e 8 (by omega) (by omega), e 9 (by omega) (by omega), e 10 (by omega) (by omega), e 11 (by omega) (by omega), e 12 (by omega) (by omega), e 13 (by omega) (by omega), e 14 (by omega) (by omega)]
  refine ⟨r2, r3, r10, r15, r18, q1, q1k, q2, q3, q4, q5, q6, q7, q7k, q8, q9, q10, q11, q12, q14, fun m' hm' i hi => ?_, qf⟩
  by_cases q : m' = m
  · subst q; exact hr i hi
  · have := q14 m' hm'
    rw [ho.2.2 _ (by omega)]
    exact qr m' hm' i hi
theorem rxR_ok {V V' : Mem} {m n cr kc : Nat} {z : Int} (hm : m < 3) (hn : V 14 m = (n : Int)) (hok : okR V) (h : rxR V m n cr kc z V') : okR V' ∧ rxO V V' m ∧ (z = 0 ∨ z = 1) := by
  have qr := hok.2.2.2.2.2.2.2.2.2.2.2.2.2.2.2.2.2.2.2.2.1
  have q14 := hok.2.2.2.2.2.2.2.2.2.2.2.2.2.2.2.2.2.2.2.1 m hm
  have hrw : ∀ i, i < n → 0 ≤ V 15 (40 * m + i) ∧ V 15 (40 * m + i) < V 0 10 := fun i hi => qr m hm i (by omega)
  rcases h with ⟨h1, h2, rfl⟩ | ⟨h2, hs, ho, a0, b0, ha, hb, han, hbn, hc⟩
  · exact ⟨okR_rx hm hok rxO_s (fun i hi => by rw [up_ne (by omega)]; exact qr m hm i hi), rxO_s, Or.inl h2⟩
  · refine ⟨okR_rx hm hok ho (fun i hi => ?_), ho, ?_⟩
    · rcases hc with ⟨hz, -, hR⟩ | ⟨-, f2, f3, hs2, hs3, hc⟩
      · rw [hR i (by omega)]; exact hrw i (by omega)
      · rcases hc with ⟨hz, -, hR⟩ | ⟨hz, -, hR⟩
        · have hfa : a0 / cr * cr ≤ a0 := Nat.div_mul_le_self _ _
          have hfb : b0 / cr * cr ≤ b0 := Nat.div_mul_le_self _ _
          rw [hR i (by omega)]
          exact arrSeg_P (P := fun z => 0 ≤ z ∧ z < V 0 10) hs3 (arrSeg_P (P := fun z => 0 ≤ z ∧ z < V 0 10) hs2 (swp_P (P := fun z => 0 ≤ z ∧ z < V 0 10) hrw han hbn) (by omega)) (by omega) i (by omega)
        · rw [hR i (by omega)]; exact hrw i (by omega)
    · rcases hc with ⟨hz, -⟩ | ⟨-, f2, f3, -, -, ⟨hz, -⟩ | ⟨hz, -⟩⟩
      · exact Or.inl hz
      · exact Or.inr hz
      · exact Or.inl hz
def rxStep (us kc : Nat) (V : Mem) (z : Int) (V' : Mem) : Prop := ∃ m : Nat, m < us ∧ (m : Int) = drw (lcg (V 0 1)) % (us : Int) ∧ rxR V m (V 14 m).toNat (V 12 m).toNat kc z V'
def rxSeq (us kc : Nat) (V : Mem) : Nat → Int → Mem → Prop
  | 0, k, V' => k = 0 ∧ V' = V
  | n + 1, k, V' => ∃ (k1 : Int) (V1 : Mem) (z : Int), rxSeq us kc V n k1 V1 ∧ rxStep us kc V1 z V' ∧ k = k1 + z
/-- what exchanges leave alone -/
def rxK (V V' : Mem) : Prop := (∀ c, c ≠ 0 → c ≠ 15 → c ≠ 19 → c ≠ 20 → c ≠ 21 → V' c = V c) ∧ ∀ j, j ≠ 1 → j ≠ 25 → V' 0 j = V 0 j
theorem rxStep_ok {us kc : Nat} {V V' : Mem} {z : Int} (hus : us ≤ 3) (hok : okR V) (h : rxStep us kc V z V') : okR V' ∧ rxK V V' ∧ (z = 0 ∨ z = 1) := by
  obtain ⟨m, hm, hd, hx⟩ := h
  have q14 := hok.2.2.2.2.2.2.2.2.2.2.2.2.2.2.2.2.2.2.2.1 m (by omega)
  obtain ⟨h1, h2, h3⟩ := rxR_ok (by omega) (by omega) hok hx
  exact ⟨h1, ⟨h2.1, h2.2.1⟩, h3⟩
theorem rxK_trans {A B C : Mem} (h : rxK A B) (h' : rxK B C) : rxK A C := ⟨fun c a b d e f => (h'.1 c a b d e f).trans (h.1 c a b d e f), fun j a b => (h'.2 j a b).trans (h.2 j a b)⟩
def rxs (V : Mem) (kc st : Nat) (z : Int) (V' : Mem) : Prop := (V 0 18 = 0 ∧ z = 0 ∧ V' = V) ∨ (0 < V 0 18 ∧ rxSeq (V 0 18).toNat kc V st z V')
/-- the bits of the nozzles of a row -/
def nzR (g : Nat → Nat) : Nat → Nat
  | 0 => 0
  | i + 1 => nzR g i ||| 2 ^ g i
theorem nzR_lt {g : Nat → Nat} {n : Nat} (h : ∀ i, i < n → g i < 8) : nzR g n < 256 := by
  induction n with
  | zero => show 0 < 256; omega
  | succ n ih => exact tOr_lt (sz := 8) (ih (fun i hi => h i (by omega))) (h n (by omega))
def pcK (b : Nat) : Nat → Int
  | 0 => 0
  | k + 1 => pcK b k + (if b / 2 ^ k % 2 = 1 then 20 else 0)
theorem pcK_8 (b : Nat) : pcK b 8 = 20 * (pop8 b : Int) := by
  have e : ∀ x : Nat, (if x % 2 = 1 then (20 : Int) else 0) = 20 * ((x % 2 : Nat) : Int) := fun x => by split <;> omega
  simp only [pcK, e]
  unfold pop8
  omega
theorem pcK_in (b : Nat) : ∀ k : Nat, 0 ≤ pcK b k ∧ pcK b k ≤ 20 * (k : Int)
  | 0 => by simp [pcK]
  | k + 1 => by
    have := pcK_in b k
    simp only [pcK]
    split <;> omega
/-- a machine's part of the bound -/
def rBd (V : Mem) (kc m : Nat) : Int := if nzR (fun i => (V 2 (V 7 (V 15 (40 * m + i)).toNat).toNat).toNat) (V 14 m).toNat = 0 then 0 else sup (fun k => cnt (fun i => V 7 (V 15 (40 * m + i)).toNat) (k : Int) (V 14 m).toNat) (V 6) (V 5) (V 4) kc + 20 * (pop8 (nzR (fun i => (V 2 (V 7 (V 15 (40 * m + i)).toNat).toNat).toNat) (V 14 m).toNat) : Int) - 20
