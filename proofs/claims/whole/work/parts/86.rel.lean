/-! permutations of a row: counts -/
theorem cnt_congr {f g : Nat → Int} {k : Int} : ∀ {n : Nat}, (∀ i, i < n → f i = g i) → cnt f k n = cnt g k n
  | 0, _ => rfl
  | n + 1, h => by
    simp only [cnt]
    rw [cnt_congr (fun i hi => h i (by omega)), h n (by omega)]
theorem cnt_add {f : Nat → Int} {k : Int} {n : Nat} : ∀ {d : Nat}, cnt f k (n + d) = cnt f k n + cnt (fun i => f (n + i)) k d
  | 0 => by simp [cnt]
  | d + 1 => by
    rw [show n + (d + 1) = (n + d) + 1 from rfl]
    simp only [cnt]
    rw [cnt_add]
    omega
theorem cnt_at {f : Nat → Int} {k : Int} {n a : Nat} {v : Int} (ha : a < n) : cnt (up1 f a v) k n = cnt f k n - (if f a = k then 1 else 0) + (if v = k then 1 else 0) := by
  induction n with
  | zero => omega
  | succ n ih =>
    simp only [cnt]
    by_cases e : a = n
    · subst e
      rw [cnt_congr (f := up1 f a v) (g := f) (fun i hi => if_neg (by omega)), show up1 f a v a = v from if_pos rfl]
      omega
    · rw [ih (by omega), show up1 f a v n = f n from if_neg (by omega)]
      omega
theorem cnt_swp {f : Nat → Int} {k : Int} {n a b : Nat} (ha : a < n) (hb : b < n) : cnt (swp f a b) k n = cnt f k n := by
  unfold swp
  rw [cnt_at hb, cnt_at ha]
  by_cases e : b = a
  · subst e
    rw [show up1 f b (f b) b = f b from if_pos rfl]
    omega
  · rw [show up1 f a (f b) b = f b from if_neg e]
    omega
theorem cnt_shift {F g : Nat → Int} {p k : Int} {t : Nat} (h1 : ∀ i, i < t → F i = g i) (h2 : F t = p) : ∀ {d : Nat}, (∀ i, t < i → i ≤ t + d → F i = g (i - 1)) → cnt F k (t + d + 1) = cnt g k (t + d) + (if p = k then 1 else 0)
  | 0, _ => by
    show cnt F k t + (if F t = k then 1 else 0) = _
    rw [cnt_congr h1, h2]
    rfl
  | d + 1, h3 => by
    have ih := cnt_shift (k := k) h1 h2 (d := d) (fun i a b => h3 i a (by omega))
    have e := h3 (t + d + 1) (by omega) (by omega)
    rw [show t + d + 1 - 1 = t + d by omega] at e
    show cnt F k (t + d + 1) + (if F (t + d + 1) = k then 1 else 0) = cnt g k (t + d) + (if g (t + d) = k then 1 else 0) + _
    rw [ih, e]
    omega
theorem cnt_ins {g : Nat → Int} {p k : Int} {n : Nat} : cnt (insF g n p) k (n + 1) = cnt g k n + (if p = k then 1 else 0) := by
  have hle := @insN_le g p n
  have h := cnt_shift (F := insF g n p) (g := g) (p := p) (k := k) (t := insN g p n) (fun i hi => if_pos hi) (by unfold insF; rw [if_neg (by omega), if_pos rfl]) (d := n - insN g p n) (fun i a b => by unfold insF; rw [if_neg (by omega), if_neg (by omega), if_pos (by omega)])
  rw [show insN g p n + (n - insN g p n) = n by omega] at h
  exact h
theorem cnt_pool {f : Nat → Int} {k : Int} : ∀ {n : Nat}, cnt (poolF f n) k n = cnt f k n
  | 0 => rfl
  | n + 1 => by
    show cnt (insF (poolF f n) n (f n)) k (n + 1) = _
    rw [cnt_ins, cnt_pool]
    rfl
def srt (g : Nat → Int) (n : Nat) : Prop := ∀ i j, i ≤ j → j < n → g i ≤ g j
theorem insN_spec {g : Nat → Int} {p : Int} : ∀ {n : Nat}, srt g n → (∀ i, i < insN g p n → g i ≤ p) ∧ (∀ i, insN g p n ≤ i → i < n → p < g i)
  | 0, _ => ⟨fun i hi => absurd hi (Nat.not_lt_zero _), fun i _ hi => absurd hi (Nat.not_lt_zero _)⟩
  | n + 1, h => by
    have ih := insN_spec (g := g) (p := p) (n := n) (fun i j hi hj => h i j hi (by omega))
    by_cases c : p < g n
    · rw [insN_t c]
      refine ⟨ih.1, fun i h1 h2 => ?_⟩
      by_cases e : i = n
      · subst e; exact c
      · exact ih.2 i h1 (by omega)
    · rw [insN_f c]
      refine ⟨fun i hi => ?_, fun i h1 h2 => by omega⟩
      have := h i n (by omega) (by omega)
      omega
theorem srt_ins {g : Nat → Int} {p : Int} {n : Nat} (h : srt g n) : srt (insF g n p) (n + 1) := by
  obtain ⟨h1, h2⟩ := insN_spec (p := p) h
  have hle := @insN_le g p n
  intro i j hij hj
  unfold insF
  by_cases a1 : j < insN g p n
  · rw [if_pos (show i < insN g p n by omega), if_pos a1]
    exact h i j hij (by omega)
  rw [if_neg a1]
  by_cases a2 : j = insN g p n
  · rw [if_pos a2]
    by_cases b1 : i < insN g p n
    · rw [if_pos b1]; exact h1 i b1
    · rw [if_neg b1, if_pos (show i = insN g p n by omega)]
      exact Int.le_refl _
  rw [if_neg a2, if_pos (show j ≤ n by omega)]
  have q := h2 (j - 1) (by omega) (by omega)
  by_cases b1 : i < insN g p n
  · rw [if_pos b1]
    have := h1 i b1
    omega
  rw [if_neg b1]
  by_cases b2 : i = insN g p n
  · rw [if_pos b2]; omega
  rw [if_neg b2, if_pos (show i ≤ n by omega)]
  exact h (i - 1) (j - 1) (by omega) (by omega)
theorem srt_pool {f : Nat → Int} : ∀ {n : Nat}, srt (poolF f n) n
  | 0 => fun i j _ hj => absurd hj (Nat.not_lt_zero _)
  | n + 1 => srt_ins srt_pool
theorem cnt_zero {g : Nat → Int} {k : Int} : ∀ {n : Nat}, (∀ i, i < n → g i ≠ k) → cnt g k n = 0
  | 0, _ => rfl
  | n + 1, h => by
    simp only [cnt]
    rw [cnt_zero (fun i hi => h i (by omega)), if_neg (h n (by omega))]
    rfl
theorem cnt_pos {g : Nat → Int} {k : Int} : ∀ {n : Nat}, 0 < cnt g k n → ∃ i, i < n ∧ g i = k
  | 0, h => by simp [cnt] at h
  | n + 1, h => by
    by_cases e : g n = k
    · exact ⟨n, by omega, e⟩
    · simp only [cnt] at h
      rw [if_neg e] at h
      obtain ⟨i, h1, h2⟩ := cnt_pos (n := n) (g := g) (k := k) (by omega)
      exact ⟨i, by omega, h2⟩
theorem srt_unique : ∀ {n : Nat} {g g' : Nat → Int}, srt g n → srt g' n → (∀ k, cnt g k n = cnt g' k n) → ∀ i, i < n → g i = g' i
  | 0, _, _, _, _, _, i, hi => absurd hi (Nat.not_lt_zero _)
  | n + 1, g, g', hs, hs', hc, i, hi => by
    have last : g n = g' n := by
      have a1 : ∀ u v : Nat → Int, srt v (n + 1) → (∀ k, cnt u k (n + 1) = cnt v k (n + 1)) → u n ≤ v n := by
        intro u v hv hk
        have : 0 < cnt u (u n) (n + 1) := by
          simp only [cnt, if_true]
          have := (cnt_in u (u n) n).1
          omega
        rw [hk] at this
        obtain ⟨i, h1, h2⟩ := cnt_pos this
        rw [← h2]
        exact hv i n (by omega) (by omega)
      have p1 := a1 g g' hs' hc
      have p2 := a1 g' g hs (fun k => (hc k).symm)
      omega
    by_cases e : i = n
    · subst e; exact last
    · refine srt_unique (n := n) (fun i j h1 h2 => hs i j h1 (by omega)) (fun i j h1 h2 => hs' i j h1 (by omega)) (fun k => ?_) i (by omega)
      have := hc k
      simp only [cnt, last] at this
      omega
theorem pool_perm {f f' : Nat → Int} {n : Nat} (h : ∀ k, cnt f k n = cnt f' k n) : ∀ i, i < n → poolF f n i = poolF f' n i :=
  srt_unique srt_pool srt_pool (fun k => by rw [cnt_pool, cnt_pool, h])
/-- a one-to-one map of the places leaves the counts -/
theorem cnt_inj : ∀ {n : Nat} {g : Nat → Int} {q : Nat → Nat} {k : Int}, (∀ t, t < n → q t < n) → (∀ t u, t < u → u < n → q t ≠ q u) → cnt (fun t => g (q t)) k n = cnt g k n
  | 0, _, _, _, _, _ => rfl
  | n + 1, g, q, k, h1, h2 => by
    -- the place a with q a = n is exchanged with the last
    by_cases e : q n = n
    · simp only [cnt, e]
      rw [cnt_inj (n := n) (g := g) (q := q) (fun t ht => by
        have p1 := h1 t (by omega)
        have p2 := h2 t n ht (by omega)
        omega) (fun t u a b => h2 t u a (by omega))]
    · have hn : q n < n := by have := h1 n (by omega); omega
      -- g with places n and q n exchanged
      have r : ∀ t, t < n → (fun t => if q t = n then q n else q t) t < n := by
        intro t ht
        simp only []
        split
        · exact hn
        · have := h1 t (by omega); omega
      have r2 : ∀ t u, t < u → u < n → (fun t => if q t = n then q n else q t) t ≠ (fun t => if q t = n then q n else q t) u := by
        intro t u htu hu
        simp only []
        have a1 := h2 t u htu (by omega)
        have a2 := h2 t n (by omega) (by omega)
        have a3 := h2 u n hu (by omega)
        split <;> split <;> omega
      have ih := cnt_inj (n := n) (g := up1 g (q n) (g n)) (q := fun t => if q t = n then q n else q t) (k := k) r r2
      have e1 : cnt (fun t => g (q t)) k n = cnt (fun t => up1 g (q n) (g n) (if q t = n then q n else q t)) k n := by
        apply cnt_congr
        intro i hi
        simp only [up1]
        by_cases c : q i = n
        · rw [if_pos c, if_pos rfl, c]
        · rw [if_neg c, if_neg (fun z => h2 i n hi (by omega) z)]
      simp only [cnt]
      rw [e1, ih, cnt_at hn]
      omega
theorem cnt_arr {ht x y : Nat → Int} {np : Int} {f g : Nat → Int} {sz : Nat} (h : isArr ht x y np f g sz) (k : Int) : cnt g k sz = cnt f k sz := by
  obtain ⟨q, h1, h2⟩ := h
  rw [cnt_congr h2]
  have hb : ∀ t, t < sz → q t < sz := by
    obtain ⟨A, _, hp⟩ := h1
    exact fun t ht => (hp t ht).1.1
  rw [cnt_inj hb (tOrd_apart h1), cnt_pool]
theorem isArr_perm {ht x y : Nat → Int} {np : Int} {f f' g : Nat → Int} {sz : Nat} (h : isArr ht x y np f g sz) (hc : ∀ k, cnt f k sz = cnt f' k sz) : isArr ht x y np f' g sz := by
  obtain ⟨q, h1, h2⟩ := h
  have e := pool_perm hc
  have hb : ∀ t, t < sz → q t < sz := by
    obtain ⟨A, _, hp⟩ := h1
    exact fun t ht => (hp t ht).1.1
  refine ⟨q, tOrd_cg (fun i hi => by rw [e i hi]) (fun i j hi hj => by rw [e i hi, e j hj]) (fun i hi => by rw [e i hi]) h1, fun t ht => ?_⟩
  rw [h2 t ht, e _ (hb t ht)]
theorem isArr_self {ht x y : Nat → Int} {np : Int} {f g : Nat → Int} {sz : Nat} (h : isArr ht x y np f g sz) : isArr ht x y np g g sz := isArr_perm h (fun k => (cnt_arr h k).symm)
/-! plain functions depend on a row's own places only -/
theorem mv_congr {wy wy' : Int → Int → Int} {cr : Nat} {f f' : Nat → Int} {P : Int → Prop} (hw : ∀ p q, P p → P q → wy p q = wy' p q) (h1 : P (-1)) : ∀ {n : Nat}, (∀ i, i < n → P (f i)) → (∀ i, i < n → f i = f' i) → mv wy cr f n = mv wy' cr f' n
  | 0, _, _ => rfl
  | n + 1, hp, h => by
    simp only [mv]
    rw [mv_congr hw h1 (fun i hi => hp i (by omega)) (fun i hi => h i (by omega)), ← h n (by omega)]
    by_cases e : n = 0
    · subst e
      simp only [Nat.lt_irrefl, false_and, if_false, if_true]
      rw [hw _ _ h1 (hp 0 (by omega))]
    · rw [if_neg e, if_neg e, ← h (n - 1) (by omega)]
      have a1 := hp n (by omega)
      have a2 := hp (n - 1) (by omega)
      rw [hw _ _ a2 h1, hw _ _ h1 a1, hw _ _ a2 a1]
theorem chg_congr {g g' : Nat → Int} : ∀ {n : Nat}, (∀ i, i < n → g i = g' i) → chg g n = chg g' n
  | 0, _ => rfl
  | n + 1, h => by
    simp only [chg]
    rw [chg_congr (fun i hi => h i (by omega)), ← h n (by omega), ← h (n - 1) (by omega)]
theorem moveT_congr {wy wy' : Int → Int → Int} {cr n : Nat} {f f' g g' : Nat → Int} {P : Int → Prop} (hw : ∀ p q, P p → P q → wy p q = wy' p q) (h1 : P (-1)) (hp : ∀ i, i < n → P (f i)) (h : ∀ i, i < n → f i = f' i) (hg : ∀ i, i < n → g i = g' i) : moveT wy cr f g n = moveT wy' cr f' g' n := by
  unfold moveT
  rw [mv_congr hw h1 hp h, chg_congr hg]
  by_cases e : n = 0
  · rw [if_pos e, if_pos e, hw _ _ h1 h1]
  · rw [if_neg e, if_neg e, ← h (n - 1) (by omega), hw _ _ (hp (n - 1) (by omega)) h1]
theorem plc_congr {f f' : Nat → Int} {p : Int} : ∀ {n : Nat}, (∀ i, i < n → f i = f' i) → plc f p n = plc f' p n
  | 0, _ => rfl
  | n + 1, h => by
    simp only [plc]
    rw [plc_congr (fun i hi => h i (by omega)), ← h n (by omega)]
theorem hst_congr {f f' : Nat → Int} : ∀ {n : Nat}, (∀ i, i < n → f i = f' i) → hst f n = hst f' n
  | 0, _ => rfl
  | n + 1, h => by
    simp only [hst]
    rw [hst_congr (fun i hi => h i (by omega)), ← h n (by omega)]
theorem sup_congr {am am' be ab rf : Nat → Int} : ∀ {n : Nat}, (∀ i, i < n → am i = am' i) → sup am be ab rf n = sup am' be ab rf n
  | 0, _ => rfl
  | n + 1, h => by
    simp only [sup]
    rw [sup_congr (fun i hi => h i (by omega)), ← h n (by omega)]
theorem mxF_congr {f f' : Nat → Int} : ∀ {n : Nat}, (∀ i, i < n → f i = f' i) → mxF f n = mxF f' n
  | 0, _ => rfl
  | n + 1, h => by
    simp only [mxF]
    rw [mxF_congr (fun i hi => h i (by omega)), ← h n (by omega)]
theorem nAct_congr {s s' : Nat → Bool} : ∀ {n : Nat}, (∀ i, i < n → s i = s' i) → nAct s n = nAct s' n
  | 0, _ => rfl
  | n + 1, h => by
    simp only [nAct]
    rw [nAct_congr (fun i hi => h i (by omega)), ← h n (by omega)]
theorem lnF_congr {ht x y : Nat → Int} {s s' : Nat → Bool} : ∀ {n : Nat}, (∀ i, i < n → s i = s' i) → lnF ht x y s n = lnF ht x y s' n
  | 0, _ => rfl
  | n + 1, h => by
    simp only [lnF]
    rw [lnF_congr (fun i hi => h i (by omega)), ← h n (by omega), nAct_congr (fun i hi => h i (by omega))]
theorem othR_hm {w fx hm hm' f : Nat → Int} {kc sl : Nat} {num : Int} : ∀ {k : Nat} {g : Nat → Int}, (∀ j, j < k → hm j = hm' j) → othR w fx hm kc sl num f k g → othR w fx hm' kc sl num f k g
  | 0, _, _, h => h
  | k + 1, g, he, ⟨a, h1, h2⟩ => by
    refine ⟨a, othR_hm (fun j hj => he j (by omega)) h1, ?_⟩
    rw [← he k (by omega)]
    exact h2
theorem fixF_hm {fx hm hm' f : Nat → Int} {num : Int} {k : Nat} (h : ∀ j, j < k → hm j = hm' j) : fixF fx hm num f k = fixF fx hm' num f k := by
  funext j
  unfold fixF
  by_cases e : j < k
  · rw [h j e]
  · rw [if_neg (fun q => e q.1), if_neg (fun q => e q.1)]
/-- a feeder stands only where its kind's home is -/
theorem othR_home {w fx hm : Nat → Int} {kc sl n : Nat} {num : Int} : ∀ {k : Nat} {g : Nat → Int}, othR w fx hm kc sl num (fixF fx hm num (fun _ => -1) n) k g → ∀ j, g j ≠ -1 → hm j = num
  | 0, g, h, j, hj => by
    rw [show g = fixF fx hm num (fun _ => -1) n from h] at hj
    unfold fixF at hj
    by_cases e : j < n ∧ hm j = num
    · exact e.2
    · rw [if_neg e] at hj; exact absurd rfl hj
  | k + 1, g, ⟨a, h1, h2⟩, j, hj => by
    rcases h2 with ⟨q1, q2, z, q3, q4⟩ | ⟨_, q⟩
    · rw [q4] at hj
      by_cases e : j = k
      · subst e; exact q1
      · rw [show up1 a k z j = a j from if_neg e] at hj
        exact othR_home h1 j hj
    · rw [q] at hj
      exact othR_home h1 j hj
theorem co_grow {f f' : Nat → Int} {n n' p : Int} (h : ∀ p : Nat, (p : Int) < n → f' p = f p) (hn : n ≤ n') (hp : p < n) : co f' n' p = co f n p := by
  unfold co
  by_cases e : 0 ≤ p
  · rw [if_pos ⟨e, by omega⟩, if_pos ⟨e, hp⟩]
    exact h p.toNat (by omega)
  · rw [if_neg (fun q => e q.1), if_neg (fun q => e q.1)]
theorem way_grow {x y x' y' : Nat → Int} {n n' p q : Int} (hx : ∀ p : Nat, (p : Int) < n → x' p = x p) (hy : ∀ p : Nat, (p : Int) < n → y' p = y p) (hn : n ≤ n') (hp : p < n) (hq : q < n) : way x y n p q = way x' y' n' p q := by
  unfold way
  rw [co_grow hx hn hp, co_grow hx hn hq, co_grow hy hn hp, co_grow hy hn hq]
theorem isArr_grow {ht x y ht' x' y' : Nat → Int} {n n' : Int} {f g : Nat → Int} {sz : Nat} (h : isArr ht x y n f g sz) (hh : ∀ p : Nat, (p : Int) < n → ht' p = ht p) (hx : ∀ p : Nat, (p : Int) < n → x' p = x p) (hy : ∀ p : Nat, (p : Int) < n → y' p = y p) (hn : n ≤ n') (hf : ∀ i, i < sz → 0 ≤ f i ∧ f i < n) : isArr ht' x' y' n' f g sz := by
  obtain ⟨q, h1, h2⟩ := h
  have hp := poolF_all (P := fun z => 0 ≤ z ∧ z < n) hf
  refine ⟨q, tOrd_cg (fun i hi => ?_) (fun i j hi hj => ?_) (fun i hi => ?_) h1, h2⟩
  · have := hp i hi
    exact (hh _ (by omega)).symm
  · exact way_grow hx hy hn (hp i hi).2 (hp j hj).2
  · have := hp i hi
    exact way_grow hx hy hn this.2 (by omega)
/-! what the class keeps of a machine, beyond the ranges -/
def xtra (V : Mem) (m : Nat) : Prop :=
  (∀ t, t * (V (15 + 4 * m) 4).toNat < (V (15 + 4 * m) 5).toNat → isArr (V 13) (V 11) (V 12) (V 9 4) (fun i => V (15 + 4 * m + 1) (t * (V (15 + 4 * m) 4).toNat + i)) (fun i => V (15 + 4 * m + 1) (t * (V (15 + 4 * m) 4).toNat + i)) (min (V (15 + 4 * m) 4).toNat ((V (15 + 4 * m) 5).toNat - t * (V (15 + 4 * m) 4).toNat))) ∧
  V (15 + 4 * m) 6 = moveT (way (V 11) (V 12) (V 9 4)) (V (15 + 4 * m) 4).toNat (V (15 + 4 * m + 1)) (fun i => V 4 (V 10 (V (15 + 4 * m + 1) i).toNat).toNat) (V (15 + 4 * m) 5).toNat ∧
  ∀ k : Nat, k < 10 → V (15 + 4 * m + 3) k = cnt (fun i => V 10 (V (15 + 4 * m + 1) i).toNat) (k : Int) (V (15 + 4 * m) 5).toNat
def invC (V : Mem) : Prop := okC V ∧ (∀ m, m < 3 → xtra V m) ∧ (∀ m : Nat, m < 3 → V 0 9 ≤ (m : Int) → V (15 + 4 * m) 5 = 0) ∧ (∀ k : Nat, (k : Int) < V 2 6 → V 5 k ≠ -1 → V 5 k + V 3 k ≤ V 0 0) ∧ ∀ k : Nat, k < 10 → V 2 6 ≤ (k : Int) → V 7 k = 0
/-- the reference's memory W beside the class's V -/
def rel (V W : Mem) : Prop :=
  W 0 1 = V 1 0 ∧ W 0 2 = V 0 0 ∧ W 0 3 = V 2 6 ∧ W 0 10 = V 9 4 ∧ W 0 15 = V 0 8 ∧ W 0 18 = V 0 9 ∧
  (W 1 = V 3 ∧ W 2 = V 4 ∧ W 3 = V 5 ∧ W 4 = V 6 ∧ W 5 = V 7 ∧ W 6 = V 8) ∧ (W 7 = V 10 ∧ W 8 = V 11 ∧ W 9 = V 12 ∧ W 10 = V 13) ∧
  (∀ m, m < 3 → W 11 m = V (15 + 4 * m) 3) ∧ (∀ m, m < 3 → W 14 m = V (15 + 4 * m) 5) ∧ (∀ m : Nat, (m : Int) < V 0 8 → W 12 m = V (15 + 4 * m) 4) ∧
  (∀ m, m < 3 → ∀ k, k < 10 → W 13 (10 * m + k) = V (15 + 4 * m + 2) k) ∧ ∀ m, m < 3 → ∀ i : Nat, (i : Int) < V (15 + 4 * m) 5 → W 15 (40 * m + i) = V (15 + 4 * m + 1) i
def inv (V W : Mem) : Prop := invC V ∧ rel V W
theorem okR_of {V W : Mem} (h : inv V W) : okR W := by
  obtain ⟨⟨⟨c1, c2, c3, c4, c5, c6, c7, c8, c9, c10, c11, c12, c13, c14, c15, c16, c17, c18, c19, c20, c21, c22, c23, c24⟩, _⟩, r1, r2, r3, r4, r5, r6, ⟨k1, k2, k3, k4, k5, k6⟩, ⟨p1, p2, p3, p4⟩, m1, m2, m3, m4, m5⟩ := h
  unfold okR
  rw [r2, r3, r4, r5, r6, k1, k2, k3, k4, k5, k6, p1, p2, p3, p4]
  refine ⟨c1, c4, c5, c2, c3, c6, c7, c8, c9, c10, c11, c12, c13, c14, c15, c16, c17, fun m hm => ?_, fun m hm => ?_, fun m hm => ?_, fun m hm i hi => ?_, fun m hm k hk => ?_⟩
  · rw [m1 m hm]; exact c18 m hm
  · rw [m3 m hm]; exact c19 m (by omega)
  · rw [m2 m hm]; exact c20 m hm
  · rw [m2 m hm] at hi
    rw [m5 m hm i hi]
    exact c22 m hm i hi
  · rw [m4 m hm k hk]; exact c23 m hm k hk
theorem rel_thr {V W : Mem} {t : Int} (h : rel V W) : rel V (up W 0 0 t) := by
  unfold rel
  rw [up_ne (by omega), up_ne (by omega), up_ne (by omega), up_ne (by omega), up_ne (by omega), up_ne (by omega), up_ne1 (c := 1) (by omega), up_ne1 (c := 2) (by omega), up_ne1 (c := 3) (by omega), up_ne1 (c := 4) (by omega), up_ne1 (c := 5) (by omega), up_ne1 (c := 6) (by omega), up_ne1 (c := 7) (by omega), up_ne1 (c := 8) (by omega), up_ne1 (c := 9) (by omega), up_ne1 (c := 10) (by omega), up_ne1 (c := 11) (by omega), up_ne1 (c := 12) (by omega), up_ne1 (c := 13) (by omega), up_ne1 (c := 14) (by omega), up_ne1 (c := 15) (by omega)]
  exact h
theorem inv_thr {V W : Mem} {t : Int} (h : inv V W) : inv V (up W 0 0 t) := ⟨h.1, rel_thr h.2⟩
theorem xtra_gen {V V' : Mem} {m : Nat} (hm : m < 3) (hok : okC V) (h : xtra V m)
    (hx : ∀ p : Nat, (p : Int) < V 9 4 → V' 11 p = V 11 p ∧ V' 12 p = V 12 p ∧ V' 13 p = V 13 p ∧ V' 10 p = V 10 p ∧ V' 4 (V 10 p).toNat = V 4 (V 10 p).toNat)
    (hn : V 9 4 ≤ V' 9 4) (h5 : V' (15 + 4 * m) 5 = V (15 + 4 * m) 5) (h6 : V' (15 + 4 * m) 6 = V (15 + 4 * m) 6) (h4 : V' (15 + 4 * m) 4 = V (15 + 4 * m) 4 ∨ V (15 + 4 * m) 5 = 0)
    (hr : ∀ i : Nat, (i : Int) < V (15 + 4 * m) 5 → V' (15 + 4 * m + 1) i = V (15 + 4 * m + 1) i) (ham : ∀ k, k < 10 → V' (15 + 4 * m + 3) k = V (15 + 4 * m + 3) k) : xtra V' m := by
  obtain ⟨c1, c2, c3, c4, c5, c6, c7, c8, c9, c10, c11, c12, c13, c14, c15, c16, c17, c18, c19, c20, c21, c22, c23, c24⟩ := hok
  obtain ⟨x1, x2, x3⟩ := h
  have row := c22 m hm
  unfold xtra
  rw [h5, h6]
  refine ⟨fun t ht => ?_, ?_, fun k hk => ?_⟩
  · rcases h4 with e | e
    · rw [e] at ht ⊢
      have q := isArr_grow (x1 t ht) (fun p hp => (hx p hp).2.2.1) (fun p hp => (hx p hp).1) (fun p hp => (hx p hp).2.1) hn (fun i hi => row _ (by omega))
      exact isArr_congr q (fun i hi => (hr _ (by omega)).symm) (fun i hi => (hr _ (by omega)).symm)
    · rw [e] at ht; simp at ht
  · rw [x2]
    rcases h4 with e | e
    · rw [e]
      refine moveT_congr (P := fun z => z < V 9 4) (fun p q hp hq => way_grow (fun p hp => (hx p hp).1) (fun p hp => (hx p hp).2.1) hn hp hq) (by omega) (fun i hi => (row i (by omega)).2) (fun i hi => (hr i (by omega)).symm) (fun i hi => ?_)
      have r := row i (by omega)
      have := hx (V (15 + 4 * m + 1) i).toNat (by omega)
      rw [hr i (by omega), this.2.2.2.1, this.2.2.2.2]
    · rw [e]
      show moveT _ _ _ _ 0 = moveT _ _ _ _ 0
      simp only [moveT, mv, chg, if_true, way_00]
  · rw [ham k hk, x3 k hk]
    refine cnt_congr (fun i hi => ?_)
    have r := row i (by omega)
    rw [hr i (by omega), (hx (V (15 + 4 * m + 1) i).toNat (by omega)).2.2.2.1]
