/-! run: what its steps do -/
theorem okC_congr {V V' : Mem} (h : okC V) (e : ∀ c, c < 27 → V' c = V c) : okC V' := by
  unfold okC
  rw [e 0 (by omega), e 2 (by omega), e 3 (by omega), e 4 (by omega), e 5 (by omega), e 6 (by omega), e 7 (by omega), e 8 (by omega), e 9 (by omega), e 10 (by omega), e 11 (by omega), e 12 (by omega), e 13 (by omega)]
  obtain ⟨k00, k08, k09, k26, k94, k3, k3k, k4, k5, k6, k7, k8, k10, k10k, k11, k12, k13, kn, kc0, ks, kt, kr, kf, ka⟩ := h
  refine ⟨k00, k08, k09, k26, k94, k3, k3k, k4, k5, k6, k7, k8, k10, k10k, k11, k12, k13, ?_, ?_, ?_, ?_, ?_, ?_, ?_⟩
  · intro m hm; rw [e _ (by omega)]; exact kn m hm
  · intro m hm; rw [e _ (by omega)]; exact kc0 m hm
  · intro m hm; rw [e _ (by omega)]; exact ks m hm
  · intro m hm; rw [e _ (by omega)]; exact kt m hm
  · intro m hm; rw [e _ (by omega), e _ (by omega)]; exact kr m hm
  · intro m hm; rw [e _ (by omega)]; exact kf m hm
  · intro m hm; rw [e _ (by omega)]; exact ka m hm
/-- the kinds are shared -/
def shR (V V' : Mem) : Prop := ∃ h : Nat → Nat, sBest (V 2 6).toNat (kAct V (V 9 4).toNat (V 0 9).toNat) (kCt V (V 9 4).toNat) (kMay V (V 0 9).toNat) h ∧ (∀ k, k < 10 → V' 28 k = if k < (V 2 6).toNat ∧ kAct V (V 9 4).toNat (V 0 9).toNat k = true then (h k : Int) else -1) ∧ ∀ c, ¬ (27 ≤ c ∧ c ≤ 31) → ¬ (33 ≤ c ∧ c < 44) → V' c = V c
theorem shR_in {V V' : Mem} (h : shR V V') : ∀ k, k < 10 → -1 ≤ V' 28 k ∧ V' 28 k ≤ 2 := by
  obtain ⟨f, hb, hk, -⟩ := h
  intro k hk10
  rw [hk k hk10]
  split
  · rename_i q
    have := hb.1 k q.1 q.2
    omega
  · omega
/-- a machine is set up; g: its feeders -/
def suG (V : Mem) (m : Nat) (V' : Mem) (g : Nat → Int) : Prop := othR (V 3) (V 5) (V 28) (V 2 6).toNat (V 0 0).toNat (m : Int) (fixF (V 5) (V 28) (m : Int) (fun _ => -1) (V 2 6).toNat) (V 2 6).toNat g ∧ (∀ k, k < 10 → V' (15 + 4 * m + 2) k = g k) ∧ V' (15 + 4 * m) 5 = (nAct (fun p => decide (g (V 10 p).toNat ≠ -1)) (V 9 4).toNat : Int) ∧ (∀ k, k < 10 → V' (15 + 4 * m + 3) k = amF (fun p => decide (g (V 10 p).toNat ≠ -1)) (V 10) k (V 9 4).toNat) ∧ (∀ t, t * (V (15 + 4 * m) 4).toNat < nAct (fun p => decide (g (V 10 p).toNat ≠ -1)) (V 9 4).toNat → isArr (V 13) (V 11) (V 12) (V 9 4) (fun i => lnF (V 13) (V 11) (V 12) (fun p => decide (g (V 10 p).toNat ≠ -1)) (V 9 4).toNat (t * (V (15 + 4 * m) 4).toNat + i)) (fun i => V' (15 + 4 * m + 1) (t * (V (15 + 4 * m) 4).toNat + i)) (min (V (15 + 4 * m) 4).toNat (nAct (fun p => decide (g (V 10 p).toNat ≠ -1)) (V 9 4).toNat - t * (V (15 + 4 * m) 4).toNat))) ∧ V' (15 + 4 * m) 6 = moveT (way (V 11) (V 12) (V 9 4)) (V (15 + 4 * m) 4).toNat (V' (15 + 4 * m + 1)) (fun i => V 4 (V 10 (V' (15 + 4 * m + 1) i).toNat).toNat) (nAct (fun p => decide (g (V 10 p).toNat ≠ -1)) (V 9 4).toNat) ∧ (∀ j, j ≠ 5 → j ≠ 6 → V' (15 + 4 * m) j = V (15 + 4 * m) j) ∧ ∀ c, ¬ (44 ≤ c ∧ c < 120) → c ≠ 15 + 4 * m → c ≠ 15 + 4 * m + 1 → c ≠ 15 + 4 * m + 2 → c ≠ 15 + 4 * m + 3 → V' c = V c
def suR (V : Mem) (m : Nat) (V' : Mem) : Prop := ∃ g, suG V m V' g
def suSeq (V : Mem) : Nat → Mem → Prop
  | 0, U => U = V
  | m + 1, U' => ∃ U, suSeq V m U ∧ suR U m U'
theorem othR_in {w fx hm f : Nat → Int} {kc sl : Nat} {num : Int} (hsl : sl ≤ 120) (hw : ∀ k, k < 10 → 0 ≤ w k) (hf : ∀ k, k < 10 → -1 ≤ f k ∧ f k ≤ 120) : ∀ {k : Nat} {g : Nat → Int}, k ≤ 10 → othR w fx hm kc sl num f k g → ∀ j, j < 10 → -1 ≤ g j ∧ g j ≤ 120
  | 0, g, _, h, j, hj => by rw [show g = f from h]; exact hf j hj
  | k + 1, g, hk, ⟨a, ha, h⟩, j, hj => by
    have ih := othR_in hsl hw hf (by omega) ha j hj
    rcases h with ⟨-, -, z, hz, rfl⟩ | ⟨-, rfl⟩
    · unfold up1
      split
      · have := isLow_in hz (hw k (by omega))
        omega
      · exact ih
    · exact ih
theorem suR_row {V : Mem} {m : Nat} {V' : Mem} {g : Nat → Int} (hc : 1 ≤ (V (15 + 4 * m) 4).toNat) (h : suG V m V' g) : ∀ i, i < nAct (fun p => decide (g (V 10 p).toNat ≠ -1)) (V 9 4).toNat → 0 ≤ V' (15 + 4 * m + 1) i ∧ V' (15 + 4 * m + 1) i < (V 9 4).toNat := by
  obtain ⟨-, -, -, -, hr, -⟩ := h
  intro i hi
  have h1 : i / (V (15 + 4 * m) 4).toNat * (V (15 + 4 * m) 4).toNat ≤ i := Nat.div_mul_le_self _ _
  have h2 : i - i / (V (15 + 4 * m) 4).toNat * (V (15 + 4 * m) 4).toNat < (V (15 + 4 * m) 4).toNat := by
    have := Nat.mod_lt i (show 0 < (V (15 + 4 * m) 4).toNat by omega)
    have e := Nat.div_add_mod i (V (15 + 4 * m) 4).toNat
    rw [Nat.mul_comm] at e
    omega
  have h3 := isArr_all (P := fun z => 0 ≤ z ∧ z < (V 9 4).toNat) (hr (i / (V (15 + 4 * m) 4).toNat) (by omega)) (fun j hj => lnF_in (by omega)) (i - i / (V (15 + 4 * m) 4).toNat * (V (15 + 4 * m) 4).toNat) (by omega)
  rw [show i / (V (15 + 4 * m) 4).toNat * (V (15 + 4 * m) 4).toNat + (i - i / (V (15 + 4 * m) 4).toNat * (V (15 + 4 * m) 4).toNat) = i by omega] at h3
  exact h3
theorem suR_ok {V : Mem} {m : Nat} {V' : Mem} (hm : m < 3) (hok : okC V) (hr : suR V m V') : okC V' := by
  obtain ⟨g, hg⟩ := hr
  obtain ⟨k00, k08, k09, k26, k94, k3, k3k, k4, k5, k6, k7, k8, k10, k10k, k11, k12, k13, kn, kc0, ks, kt, kr, kf, ka⟩ := hok
  have qc := kc0 m hm
  have hrow := suR_row (by omega) hg
  obtain ⟨h1, h2, h3, h4, h5, h6, h7, h8⟩ := hg
  have hn := nAct_le (act := fun p => decide (g (V 10 p).toNat ≠ -1)) (k := (V 9 4).toNat)
  have e : ∀ c, c < 15 → V' c = V c := fun c hc => h8 c (by omega) (by omega) (by omega) (by omega) (by omega)
  have o : ∀ m', m' < 3 → m' ≠ m → V' (15 + 4 * m') = V (15 + 4 * m') ∧ V' (15 + 4 * m' + 1) = V (15 + 4 * m' + 1) ∧ V' (15 + 4 * m' + 2) = V (15 + 4 * m' + 2) ∧ V' (15 + 4 * m' + 3) = V (15 + 4 * m' + 3) := fun m' hm' hne => ⟨h8 _ (by omega) (by omega) (by omega) (by omega) (by omega), h8 _ (by omega) (by omega) (by omega) (by omega) (by omega), h8 _ (by omega) (by omega) (by omega) (by omega) (by omega), h8 _ (by omega) (by omega) (by omega) (by omega) (by omega)⟩
  unfold okC
  rw [e 0 (by omega), e 2 (by omega), e 3 (by omega), e 4 (by omega), e 5 (by omega), e 6 (by omega), e 7 (by omega), e 8 (by omega), e 9 (by omega), e 10 (by omega), e 11 (by omega), e 12 (by omega), e 13 (by omega)]
  refine ⟨k00, k08, k09, k26, k94, k3, k3k, k4, k5, k6, k7, k8, k10, k10k, k11, k12, k13, ?_, ?_, ?_, ?_, ?_, ?_, ?_⟩
  · intro m' hm'
    by_cases q : m' = m
    · subst q; rw [h7 3 (by omega) (by omega)]; exact kn _ hm'
    · rw [(o m' hm' q).1]; exact kn m' hm'
  · intro m' hm'
    by_cases q : m' = m
    · subst q; rw [h7 4 (by omega) (by omega)]; exact kc0 _ hm'
    · rw [(o m' hm' q).1]; exact kc0 m' hm'
  · intro m' hm'
    by_cases q : m' = m
    · subst q; rw [h3]; omega
    · rw [(o m' hm' q).1]; exact ks m' hm'
  · intro m' hm'
    by_cases q : m' = m
    · subst q
      rw [h6]
      have := moveT_in (wy := way (V 11) (V 12) (V 9 4)) (cr := (V (15 + 4 * m') 4).toNat) (f := V' (15 + 4 * m' + 1)) (g := fun i => V 4 (V 10 (V' (15 + 4 * m' + 1) i).toNat).toNat) (fun p q => way_in (p := p) (q := q) k11 k12 k94.2) (nAct (fun p => decide (g (V 10 p).toNat ≠ -1)) (V 9 4).toNat) (by omega)
      omega
    · rw [(o m' hm' q).1]; exact kt m' hm'
  · intro m' hm'
    by_cases q : m' = m
    · subst q
      rw [h3]
      intro i hi
      have := hrow i (by omega)
      omega
    · rw [(o m' hm' q).1, (o m' hm' q).2.1]; exact kr m' hm'
  · intro m' hm'
    by_cases q : m' = m
    · subst q
      intro k hk
      rw [h2 k hk]
      exact othR_in (by omega) (fun k hk => (k3 k hk).1) (fun k hk => by unfold fixF; split; (· exact k5 k hk); (· show -1 ≤ (-1 : Int) ∧ (-1 : Int) ≤ 120; omega)) (by omega) h1 k hk
    · rw [(o m' hm' q).2.2.1]; exact kf m' hm'
  · intro m' hm'
    by_cases q : m' = m
    · subst q
      intro k hk
      rw [h4 k hk]
      have := amF_in (fun p => decide (g (V 10 p).toNat ≠ -1)) (V 10) k (V 9 4).toNat
      omega
    · rw [(o m' hm' q).2.2.2]; exact ka m' hm'
/-- what exchanges leave alone -/
def exK (V V' : Mem) : Prop := (∀ c, ¬ (44 ≤ c ∧ c ≤ 120) → c ≠ 1 → (∀ m, m < 3 → c ≠ 15 + 4 * m ∧ c ≠ 15 + 4 * m + 1) → V' c = V c) ∧ ∀ m j, m < 3 → j ≠ 6 → V' (15 + 4 * m) j = V (15 + 4 * m) j
theorem exK_refl (V : Mem) : exK V V := ⟨fun _ _ _ _ => rfl, fun _ _ _ _ => rfl⟩
theorem exK_trans {A B C : Mem} (h : exK A B) (h' : exK B C) : exK A C := ⟨fun c h1 h2 h3 => (h'.1 c h1 h2 h3).trans (h.1 c h1 h2 h3), fun m j hm hj => (h'.2 m j hm hj).trans (h.2 m j hm hj)⟩
theorem okC_exK {V V' : Mem} (hok : okC V) (he : exK V V') (hr : ∀ m, m < 3 → ∀ i : Nat, (i : Int) < V (15 + 4 * m) 5 → 0 ≤ V' (15 + 4 * m + 1) i ∧ V' (15 + 4 * m + 1) i < V 9 4) (ht : ∀ m, m < 3 → 0 ≤ V' (15 + 4 * m) 6 ∧ V' (15 + 4 * m) 6 ≤ 100000000) : okC V' := by
  obtain ⟨k00, k08, k09, k26, k94, k3, k3k, k4, k5, k6, k7, k8, k10, k10k, k11, k12, k13, kn, kc0, ks, kt, kr, kf, ka⟩ := hok
  have e : ∀ c, c < 15 → c ≠ 1 → V' c = V c := fun c hc h1 => he.1 c (by omega) h1 (fun m hm => by omega)
  unfold okC
  rw [e 0 (by omega) (by omega), e 2 (by omega) (by omega), e 3 (by omega) (by omega), e 4 (by omega) (by omega), e 5 (by omega) (by omega), e 6 (by omega) (by omega), e 7 (by omega) (by omega), e 8 (by omega) (by omega), e 9 (by omega) (by omega), e 10 (by omega) (by omega), e 11 (by omega) (by omega), e 12 (by omega) (by omega), e 13 (by omega) (by omega)]
  refine ⟨k00, k08, k09, k26, k94, k3, k3k, k4, k5, k6, k7, k8, k10, k10k, k11, k12, k13, ?_, ?_, ?_, ht, ?_, ?_, ?_⟩
  · intro m hm; rw [he.2 m 3 hm (by omega)]; exact kn m hm
  · intro m hm; rw [he.2 m 4 hm (by omega)]; exact kc0 m hm
  · intro m hm; rw [he.2 m 5 hm (by omega)]; exact ks m hm
  · intro m hm; rw [he.2 m 5 hm (by omega)]; exact hr m hm
  · intro m hm; rw [he.1 (15 + 4 * m + 2) (by omega) (by omega) (fun m' h' => by omega)]; exact kf m hm
  · intro m hm; rw [he.1 (15 + 4 * m + 3) (by omega) (by omega) (fun m' h' => by omega)]; exact ka m hm
theorem arrSeg_P {ht x y : Nat → Int} {np : Int} {cr n tr : Nat} {f f' : Nat → Int} {P : Int → Prop} (h : arrSeg ht x y np cr n tr f f') (hf : ∀ i, i < n → P (f i)) (hn : tr * cr < n) : ∀ i, i < n → P (f' i) := by
  obtain ⟨g, h1, h2⟩ := h
  intro i hi
  rw [h2]
  split
  · exact isArr_all (P := P) h1 (fun j hj => hf _ (by omega)) _ (by omega)
  · exact hf i hi
theorem swp_P {f : Nat → Int} {a b n : Nat} {P : Int → Prop} (hf : ∀ i, i < n → P (f i)) (ha : a < n) (hb : b < n) : ∀ i, i < n → P (swp f a b i) := by
  intro i hi
  unfold swp up1
  split
  · exact hf a ha
  · split
    · exact hf b hb
    · exact hf i hi
theorem exR_okC {V V' : Mem} {m n cr : Nat} {z : Int} (hm : m < 3) (hn : V (15 + 4 * m) 5 = (n : Int)) (hok : okC V) (hx : exR V m n cr z V') : okC V' ∧ exK V V' := by
  rcases hx with ⟨h1, h2, rfl⟩ | ⟨h2, hd, ho, hC, a0, b0, ha, hb, han, hbn, hc⟩
  · exact ⟨hok, exK_refl _⟩
  · have hk : exK V V' := ⟨fun c h1 h2 h3 => ho c h1 h2 (h3 m hm).1 (h3 m hm).2, fun m' j hm' hj => by
      by_cases e : m' = m
      · subst e; exact hC j hj
      · rw [ho _ (by omega) (by omega) (by omega) (by omega)]⟩
    refine ⟨?_, hk⟩
    have hok2 := hok
    obtain ⟨k00, k08, k09, k26, k94, k3, k3k, k4, k5, k6, k7, k8, k10, k10k, k11, k12, k13, kn, kc0, ks, kt, kr, kf, ka⟩ := hok2
    have hrow : ∀ i, i < n → 0 ≤ V (15 + 4 * m + 1) i ∧ V (15 + 4 * m + 1) i < V 9 4 := fun i hi => kr m hm i (by omega)
    have qs := ks m hm
    have done : (∀ i, i < n → 0 ≤ V' (15 + 4 * m + 1) i ∧ V' (15 + 4 * m + 1) i < V 9 4) → (0 ≤ V' (15 + 4 * m) 6 ∧ V' (15 + 4 * m) 6 ≤ 100000000) → okC V' := fun q1 q2 => okC_exK hok hk (fun m' hm' i hi => by
        by_cases e : m' = m
        · subst e; exact q1 i (by omega)
        · rw [ho (15 + 4 * m' + 1) (by omega) (by omega) (by omega) (by omega)]; exact kr m' hm' i hi) (fun m' hm' => by
        by_cases e : m' = m
        · subst e; exact q2
        · rw [ho (15 + 4 * m') (by omega) (by omega) (by omega) (by omega)]; exact kt m' hm')
    rcases hc with ⟨hz, -, h6, hR⟩ | ⟨-, -, f2, f3, hs2, hs3, hc⟩
    · exact done (by rw [hR]; exact hrow) (by rw [h6]; exact kt m hm)
    · rcases hc with ⟨hz, hlt, h6, hR⟩ | ⟨hz, -, h6, hR⟩
      · have hfa : a0 / cr * cr ≤ a0 := Nat.div_mul_le_self _ _
        have hfb : b0 / cr * cr ≤ b0 := Nat.div_mul_le_self _ _
        exact done (by rw [hR]; exact arrSeg_P (P := fun z => 0 ≤ z ∧ z < V 9 4) hs3 (arrSeg_P (P := fun z => 0 ≤ z ∧ z < V 9 4) hs2 (swp_P (P := fun z => 0 ≤ z ∧ z < V 9 4) hrow han hbn) (by omega)) (by omega)) (by
          rw [h6]
          have := moveT_in (wy := way (V 11) (V 12) (V 9 4)) (cr := cr) (f := f3) (g := fun i => V 4 (V 10 (f3 i).toNat).toNat) (fun p q => way_in (p := p) (q := q) k11 k12 k94.2) n (by omega)
          omega)
      · exact done (fun i hi => by rw [hR i hi]; exact hrow i hi) (by rw [h6]; exact kt m hm)
theorem exStep_okC {us : Nat} {V V' : Mem} {z : Int} (hus : us ≤ 3) (hok : okC V) (h : exStep us V z V') : okC V' ∧ exK V V' := by
  obtain ⟨m, hm, hd, hx⟩ := h
  have hk : exK V (up V 1 0 (lcg (V 1 0))) := ⟨fun c h1 h2 h3 => up_ne1 h2, fun m' j hm' hj => by rw [up_ne1 (by omega)]⟩
  have h1 : okC (up V 1 0 (lcg (V 1 0))) := by
    obtain ⟨k00, k08, k09, k26, k94, k3, k3k, k4, k5, k6, k7, k8, k10, k10k, k11, k12, k13, kn, kc0, ks, kt, kr, kf, ka⟩ := id hok
    exact okC_exK hok hk (fun m' hm' i hi => by rw [up_ne1 (by omega)]; exact kr m' hm' i hi) (fun m' hm' => by rw [up_ne1 (by omega)]; exact kt m' hm')
  obtain ⟨-, -, -, -, -, -, -, -, -, -, -, -, -, -, -, -, -, -, -, ks, -⟩ := id hok
  have qs := ks m (by omega)
  obtain ⟨h2, h3⟩ := exR_okC (by omega) (by rw [up_ne1 (by omega)]; omega) h1 hx
  exact ⟨h2, exK_trans hk h3⟩
theorem exSeq_okC {us : Nat} {V : Mem} (hus : us ≤ 3) (hok : okC V) : ∀ {n : Nat} {k : Int} {V' : Mem}, exSeq us V n k V' → okC V' ∧ exK V V'
  | 0, k, V', ⟨_, h⟩ => by rw [h]; exact ⟨hok, exK_refl _⟩
  | n + 1, k, V', ⟨k1, V1, z, h1, h2, _⟩ => by
    obtain ⟨q1, q2⟩ := exSeq_okC hus hok h1
    obtain ⟨q3, q4⟩ := exStep_okC hus q1 h2
    exact ⟨q3, exK_trans q2 q4⟩
theorem okC_okX {V : Mem} (hok : okC V) : okX V := by
  obtain ⟨k00, k08, k09, k26, k94, k3, k3k, k4, k5, k6, k7, k8, k10, k10k, k11, k12, k13, kn, kc0, ks, kt, kr, kf, ka⟩ := hok
  exact ⟨⟨k10, k4, k13, k94, k11, k12⟩, fun m hm => ⟨ks m hm, kc0 m hm, fun i hi => by have := kr m hm i hi; omega, by have := kt m hm; omega⟩⟩
/-- some exchanges -/
def exs (V : Mem) (st : Nat) (z : Int) (V' : Mem) : Prop := ((V 0 9 = 0 ∧ z = 0 ∧ V' = V) ∨ (0 < V 0 9 ∧ exSeq (V 0 9).toNat V st z V'))
theorem exs_ok {V V' : Mem} {st : Nat} {z : Int} (hok : okC V) (h : exs V st z V') : okC V' ∧ exK V V' := by
  rcases h with ⟨-, -, rfl⟩ | ⟨h0, h⟩
  · exact ⟨hok, exK_refl _⟩
  · have k8 := hok.2.1
    have k9 := hok.2.2.1
    exact exSeq_okC (by omega) hok h
