/-! exchanges -/
/-- one exchange of a machine with n parts, cr a trip: z tells whether it was kept -/
def exR (V : Mem) (m n cr : Nat) (z : Int) (V' : Mem) : Prop :=
  (n < 2 ∧ z = 0 ∧ V' = V) ∨ (2 ≤ n ∧ V' 1 0 = lcg (lcg (V 1 0)) ∧ (∀ c, ¬ (44 ≤ c ∧ c ≤ 120) → c ≠ 1 → c ≠ 15 + 4 * m → c ≠ 15 + 4 * m + 1 → V' c = V c) ∧ (∀ j, j ≠ 6 → V' (15 + 4 * m) j = V (15 + 4 * m) j) ∧ ∃ a0 b0 : Nat, (a0 : Int) = drw (lcg (V 1 0)) % (n : Int) ∧ (b0 : Int) = drw (lcg (lcg (V 1 0))) % (n : Int) ∧ a0 < n ∧ b0 < n ∧ ((z = 0 ∧ (¬ V 13 (V (15 + 4 * m + 1) a0).toNat = V 13 (V (15 + 4 * m + 1) b0).toNat ∨ a0 / cr = b0 / cr) ∧ V' (15 + 4 * m) 6 = V (15 + 4 * m) 6 ∧ V' (15 + 4 * m + 1) = V (15 + 4 * m + 1)) ∨ (V 13 (V (15 + 4 * m + 1) a0).toNat = V 13 (V (15 + 4 * m + 1) b0).toNat ∧ a0 / cr ≠ b0 / cr ∧ ∃ f2 f3, arrSeg (V 13) (V 11) (V 12) (V 9 4) cr n (a0 / cr) (swp (V (15 + 4 * m + 1)) a0 b0) f2 ∧ arrSeg (V 13) (V 11) (V 12) (V 9 4) cr n (b0 / cr) f2 f3 ∧ ((z = 1 ∧ moveT (way (V 11) (V 12) (V 9 4)) cr f3 (fun i => V 4 (V 10 (f3 i).toNat).toNat) n < V (15 + 4 * m) 6 ∧ V' (15 + 4 * m) 6 = moveT (way (V 11) (V 12) (V 9 4)) cr f3 (fun i => V 4 (V 10 (f3 i).toNat).toNat) n ∧ V' (15 + 4 * m + 1) = f3) ∨ (z = 0 ∧ ¬ moveT (way (V 11) (V 12) (V 9 4)) cr f3 (fun i => V 4 (V 10 (f3 i).toNat).toNat) n < V (15 + 4 * m) 6 ∧ V' (15 + 4 * m) 6 = V (15 + 4 * m) 6 ∧ ∀ j, j < n → V' (15 + 4 * m + 1) j = V (15 + 4 * m + 1) j)))))
/-- what the methods below need of the parts and kinds -/
def okP (V : Mem) : Prop := (∀ p, p < 40 → 0 ≤ V 10 p ∧ V 10 p < 10) ∧ (∀ k, k < 10 → 0 ≤ V 4 k ∧ V 4 k ≤ 7) ∧ (∀ p, p < 40 → 0 ≤ V 13 p ∧ V 13 p ≤ 10000) ∧ (0 ≤ V 9 4 ∧ V 9 4 ≤ 40) ∧ (∀ p, p < 40 → 0 ≤ V 11 p ∧ V 11 p ≤ 100000) ∧ (∀ p, p < 40 → 0 ≤ V 12 p ∧ V 12 p ≤ 100000)
/-- and of a machine -/
def okM (V : Mem) (m : Nat) : Prop := (0 ≤ V (15 + 4 * m) 5 ∧ V (15 + 4 * m) 5 ≤ 40) ∧ (1 ≤ V (15 + 4 * m) 4 ∧ V (15 + 4 * m) 4 ≤ 6) ∧ (∀ i : Nat, (i : Int) < V (15 + 4 * m) 5 → 0 ≤ V (15 + 4 * m + 1) i ∧ V (15 + 4 * m + 1) i < 40) ∧ (0 ≤ V (15 + 4 * m) 6 ∧ V (15 + 4 * m) 6 ≤ 2147483647)
def okX (V : Mem) : Prop := okP V ∧ ∀ m, m < 3 → okM V m
theorem okP_same {V V' : Mem} (h : okP V) (h4 : V' 4 = V 4) (h9 : V' 9 = V 9) (h10 : V' 10 = V 10) (h11 : V' 11 = V 11) (h12 : V' 12 = V 12) (h13 : V' 13 = V 13) : okP V' := by
  unfold okP
  rw [h4, h9, h10, h11, h12, h13]
  exact h
theorem okM_same {V V' : Mem} {m : Nat} (h : okM V m) (h1 : V' (15 + 4 * m) = V (15 + 4 * m)) (h2 : V' (15 + 4 * m + 1) = V (15 + 4 * m + 1)) : okM V' m := by
  unfold okM
  rw [h1, h2]
  exact h
theorem arrSeg_all {ht x y : Nat → Int} {np : Int} {cr n tr : Nat} {f f' : Nat → Int} (h : arrSeg ht x y np cr n tr f f') (hf : ∀ i, i < n → 0 ≤ f i ∧ f i < 40) (hn : tr * cr < n) : ∀ i, i < n → 0 ≤ f' i ∧ f' i < 40 := by
  obtain ⟨g, h1, h2⟩ := h
  intro i hi
  rw [h2]
  split
  · exact isArr_all (P := fun z => 0 ≤ z ∧ z < 40) h1 (fun j hj => hf _ (by omega)) _ (by omega)
  · exact hf i hi
theorem swp_all {f : Nat → Int} {a b n : Nat} (hf : ∀ i, i < n → 0 ≤ f i ∧ f i < 40) (ha : a < n) (hb : b < n) : ∀ i, i < n → 0 ≤ swp f a b i ∧ swp f a b i < 40 := by
  intro i hi
  have h1 := hf a ha
  have h2 := hf b hb
  have h3 := hf i hi
  unfold swp up1
  split
  · omega
  · split <;> omega
theorem exR_ok {V V' : Mem} {m n cr : Nat} {z : Int} (hm : m < 3) (hn : V (15 + 4 * m) 5 = (n : Int)) (h : okX V) (hx : exR V m n cr z V') : okX V' ∧ V' 0 = V 0 ∧ (z = 0 ∨ z = 1) := by
  rcases hx with ⟨h1, h2, rfl⟩ | ⟨h2, hd, ho, hC, a0, b0, ha, hb, han, hbn, hc⟩
  · exact ⟨h, rfl, Or.inl h2⟩
  · obtain ⟨hP, hM⟩ := h
    have hmt := hM m hm
    have hq5 := hmt.1
    have hrow : ∀ i, i < n → 0 ≤ V (15 + 4 * m + 1) i ∧ V (15 + 4 * m + 1) i < 40 := fun i hi => hmt.2.2.1 i (by omega)
    have done : (∀ i, i < n → 0 ≤ V' (15 + 4 * m + 1) i ∧ V' (15 + 4 * m + 1) i < 40) → (0 ≤ V' (15 + 4 * m) 6 ∧ V' (15 + 4 * m) 6 ≤ 2147483647) → okX V' ∧ V' 0 = V 0 := fun q1 q2 => by
      refine ⟨⟨okP_same hP (ho 4 (by omega) (by omega) (by omega) (by omega)) (ho 9 (by omega) (by omega) (by omega) (by omega)) (ho 10 (by omega) (by omega) (by omega) (by omega)) (ho 11 (by omega) (by omega) (by omega) (by omega)) (ho 12 (by omega) (by omega) (by omega) (by omega)) (ho 13 (by omega) (by omega) (by omega) (by omega)), fun m' hm' => ?_⟩, ho 0 (by omega) (by omega) (by omega) (by omega)⟩
      by_cases e : m' = m
      · subst e
        refine ⟨by rw [hC 5 (by omega)]; exact hmt.1, by rw [hC 4 (by omega)]; exact hmt.2.1, fun i hi => ?_, q2⟩
        rw [hC 5 (by omega)] at hi
        exact q1 i (by omega)
      · exact okM_same (hM m' hm') (ho _ (by omega) (by omega) (by omega) (by omega)) (ho _ (by omega) (by omega) (by omega) (by omega))
    rcases hc with ⟨hz, -, h6, hR⟩ | ⟨-, -, f2, f3, hs2, hs3, hc⟩
    · obtain ⟨r1, r2⟩ := done (by rw [hR]; exact hrow) (by rw [h6]; exact hmt.2.2.2)
      exact ⟨r1, r2, Or.inl hz⟩
    · rcases hc with ⟨hz, hlt, h6, hR⟩ | ⟨hz, -, h6, hR⟩
      · have hfa : a0 / cr * cr ≤ a0 := Nat.div_mul_le_self _ _
        have hfb : b0 / cr * cr ≤ b0 := Nat.div_mul_le_self _ _
        obtain ⟨r1, r2⟩ := done (by rw [hR]; exact arrSeg_all hs3 (arrSeg_all hs2 (swp_all hrow han hbn) (by omega)) (by omega)) (by
          rw [h6]
          have := moveT_in (wy := way (V 11) (V 12) (V 9 4)) (cr := cr) (f := f3) (g := fun i => V 4 (V 10 (f3 i).toNat).toNat) (fun p q => way_in (p := p) (q := q) hP.2.2.2.2.1 hP.2.2.2.2.2 hP.2.2.2.1.2) n (by omega)
          omega)
        exact ⟨r1, r2, Or.inr hz⟩
      · obtain ⟨r1, r2⟩ := done (fun i hi => by rw [hR i hi]; exact hrow i hi) (by rw [h6]; exact hmt.2.2.2)
        exact ⟨r1, r2, Or.inl hz⟩
/-- a machine is drawn, and exchanges -/
def exStep (us : Nat) (V : Mem) (z : Int) (V' : Mem) : Prop := ∃ m : Nat, m < us ∧ (m : Int) = drw (lcg (V 1 0)) % (us : Int) ∧ exR (up V 1 0 (lcg (V 1 0))) m (V (15 + 4 * m) 5).toNat (V (15 + 4 * m) 4).toNat z V'
def exSeq (us : Nat) (V : Mem) : Nat → Int → Mem → Prop
  | 0, k, V' => k = 0 ∧ V' = V
  | n + 1, k, V' => ∃ (k1 : Int) (V1 : Mem) (z : Int), exSeq us V n k1 V1 ∧ exStep us V1 z V' ∧ k = k1 + z
theorem okX_draw {V : Mem} {s : Int} (h : okX V) : okX (up V 1 0 s) := ⟨okP_same h.1 (up_ne1 (by omega)) (up_ne1 (by omega)) (up_ne1 (by omega)) (up_ne1 (by omega)) (up_ne1 (by omega)) (up_ne1 (by omega)), fun m hm => okM_same (h.2 m hm) (up_ne1 (by omega)) (up_ne1 (by omega))⟩
