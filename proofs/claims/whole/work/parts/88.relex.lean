/-! exchanges, side by side -/
theorem cnt_poolφ {f : Nat → Int} {φ : Int → Int} {k : Int} : ∀ {n : Nat}, cnt (fun i => φ (poolF f n i)) k n = cnt (fun i => φ (f i)) k n
  | 0 => rfl
  | n + 1 => by
    have hle := @insN_le (poolF f n) (f n) n
    have h := cnt_shift (F := fun i => φ (insF (poolF f n) n (f n) i)) (g := fun i => φ (poolF f n i)) (p := φ (f n)) (k := k) (t := insN (poolF f n) (f n) n) (fun i hi => by
      show φ (insF _ _ _ i) = _
      rw [show insF (poolF f n) n (f n) i = poolF f n i from if_pos hi]) (by
      show φ (insF _ _ _ _) = _
      unfold insF
      rw [if_neg (by omega), if_pos rfl]) (d := n - insN (poolF f n) (f n) n) (fun i a b => by
      show φ (insF _ _ _ i) = _
      unfold insF
      rw [if_neg (by omega), if_neg (by omega), if_pos (by omega)])
    rw [show insN (poolF f n) (f n) n + (n - insN (poolF f n) (f n) n) = n by omega] at h
    rw [show poolF f (n + 1) = insF (poolF f n) n (f n) from rfl, h, cnt_poolφ]
    rfl
theorem cnt_perm {f f' : Nat → Int} {n : Nat} (h : ∀ v, cnt f v n = cnt f' v n) (φ : Int → Int) (k : Int) : cnt (fun i => φ (f i)) k n = cnt (fun i => φ (f' i)) k n := by
  rw [← cnt_poolφ, ← cnt_poolφ (f := f')]
  exact cnt_congr (fun i hi => by rw [pool_perm h i hi])
theorem arrSeg_cnt {ht x y : Nat → Int} {np : Int} {cr n tr : Nat} {f f' : Nat → Int} (h : arrSeg ht x y np cr n tr f f') (hn : tr * cr < n) (k : Int) : cnt f' k n = cnt f k n := by
  obtain ⟨g, h1, h2⟩ := h
  have hsz : min cr (n - tr * cr) ≤ n - tr * cr := Nat.min_le_right _ _
  generalize min cr (n - tr * cr) = sz at h1 h2 hsz
  obtain ⟨r, hr⟩ : ∃ r, n = tr * cr + (sz + r) := ⟨n - tr * cr - sz, by omega⟩
  rw [hr, cnt_add, cnt_add, cnt_add (f := f), cnt_add (f := fun i => f (tr * cr + i))]
  have e1 : cnt f' k (tr * cr) = cnt f k (tr * cr) := cnt_congr (fun i hi => by rw [h2 i, if_neg (by omega)])
  have e2 : cnt (fun i => f' (tr * cr + i)) k sz = cnt (fun i => f (tr * cr + i)) k sz := by
    rw [← cnt_arr h1 k]
    exact cnt_congr (fun i hi => by rw [h2 (tr * cr + i), if_pos (by omega), show tr * cr + i - tr * cr = i by omega])
  have e3 : cnt (fun i => (fun i => f' (tr * cr + i)) (sz + i)) k r = cnt (fun i => (fun i => f (tr * cr + i)) (sz + i)) k r := cnt_congr (fun i hi => by
    show f' (tr * cr + (sz + i)) = f (tr * cr + (sz + i))
    rw [h2 (tr * cr + (sz + i)), if_neg (by omega)])
  rw [e1, e2, e3]
theorem arrSeg_row {ht x y : Nat → Int} {np : Int} {cr n tr : Nat} {f f1 f' f1' : Nat → Int} (h : arrSeg ht x y np cr n tr f f1) (h' : arrSeg ht x y np cr n tr f' f1') (he : ∀ j, j < n → f j = f' j) : ∀ j, j < n → f1 j = f1' j := by
  obtain ⟨g, h1, h2⟩ := h
  obtain ⟨g', h1', h2'⟩ := h'
  have hsz : min cr (n - tr * cr) ≤ n - tr * cr := Nat.min_le_right _ _
  intro j hj
  have e := isArr_unique (isArr_congr h1 (fun i hi => he (tr * cr + i) (by omega)) (fun i hi => rfl)) h1'
  rw [h2 j, h2' j]
  by_cases c : tr * cr ≤ j ∧ j < tr * cr + min cr (n - tr * cr)
  · rw [if_pos c, if_pos c]; exact e _ (by omega)
  · rw [if_neg c, if_neg c]; exact he j hj
theorem swp_row {f f' : Nat → Int} {n a b : Nat} (ha : a < n) (hb : b < n) (he : ∀ j, j < n → f j = f' j) : ∀ j, j < n → swp f a b j = swp f' a b j := by
  intro j hj
  unfold swp up1
  rw [he a ha, he b hb, he j hj]
theorem swp_seg {f : Nat → Int} {s a b i : Nat} : swp f (s + a) (s + b) (s + i) = swp (fun i => f (s + i)) a b i := by
  unfold swp up1
  by_cases e1 : i = b
  · rw [if_pos e1, if_pos (by omega)]
  · rw [if_neg e1, if_neg (by omega)]
    by_cases e2 : i = a
    · rw [if_pos e2, if_pos (by omega)]
    · rw [if_neg e2, if_neg (by omega)]
theorem seg_of {a cr n : Nat} (hcr : 1 ≤ cr) (ha : a < n) : ∃ a', a = a / cr * cr + a' ∧ a' < min cr (n - a / cr * cr) := by
  have h1 := Nat.div_add_mod a cr
  have h2 := Nat.mod_lt a (show 0 < cr by omega)
  rw [Nat.mul_comm] at h1
  exact ⟨a % cr, by omega, by omega⟩
/-- an exchange within one trip that is in order alters nothing -/
theorem arr_noop {ht x y : Nat → Int} {np : Int} {cr n a0 b0 : Nat} {f f2 f3 : Nat → Int} (hcr : 1 ≤ cr) (ha : a0 < n) (hb : b0 < n) (he : a0 / cr = b0 / cr) (hs : isArr ht x y np (fun i => f (a0 / cr * cr + i)) (fun i => f (a0 / cr * cr + i)) (min cr (n - a0 / cr * cr))) (h2 : arrSeg ht x y np cr n (a0 / cr) (swp f a0 b0) f2) (h3 : arrSeg ht x y np cr n (b0 / cr) f2 f3) : f3 = f := by
  obtain ⟨a', ea, la⟩ := seg_of hcr ha
  obtain ⟨b', eb, lb⟩ := seg_of hcr hb
  rw [← he] at eb lb h3
  unfold arrSeg at h2 h3
  generalize a0 / cr * cr = s at *
  have key : ∀ {u v : Nat → Int}, (∀ k, cnt (fun i => f (s + i)) k (min cr (n - s)) = cnt (fun i => u (s + i)) k (min cr (n - s))) → (∀ j, ¬ (s ≤ j ∧ j < s + min cr (n - s)) → u j = f j) → (∃ g, isArr ht x y np (fun i => u (s + i)) g (min cr (n - s)) ∧ ∀ j, v j = if s ≤ j ∧ j < s + min cr (n - s) then g (j - s) else u j) → v = f := by
    intro u v hc ho ⟨g, g1, g2⟩
    funext j
    rw [g2 j]
    by_cases c : s ≤ j ∧ j < s + min cr (n - s)
    · rw [if_pos c, isArr_unique g1 (isArr_perm hs hc) (j - s) (by omega)]
      show f (s + (j - s)) = f j
      rw [show s + (j - s) = j by omega]
    · rw [if_neg c]; exact ho j c
  have e2 : f2 = f := by
    refine key (u := swp f a0 b0) (fun k => ?_) (fun j hj => ?_) ?_
    · rw [← cnt_swp la lb (f := fun i => f (s + i))]
      exact cnt_congr (fun i hi => by rw [ea, eb]; exact swp_seg.symm)
    · unfold swp up1
      rw [if_neg (by omega), if_neg (by omega)]
    · exact h2
  rw [e2] at h3
  exact key (u := f) (fun k => rfl) (fun j _ => rfl) h3
/-- the trips of a row are in order, after an exchange too -/
theorem arr_selfs {ht x y : Nat → Int} {np : Int} {cr n a0 b0 : Nat} {f f2 f3 : Nat → Int} (hcr : 1 ≤ cr) (ha : a0 < n) (hb : b0 < n) (he : a0 / cr ≠ b0 / cr) (hs : ∀ t, t * cr < n → isArr ht x y np (fun i => f (t * cr + i)) (fun i => f (t * cr + i)) (min cr (n - t * cr))) (h2 : arrSeg ht x y np cr n (a0 / cr) (swp f a0 b0) f2) (h3 : arrSeg ht x y np cr n (b0 / cr) f2 f3) : ∀ t, t * cr < n → isArr ht x y np (fun i => f3 (t * cr + i)) (fun i => f3 (t * cr + i)) (min cr (n - t * cr)) := by
  intro t ht'
  have far : ∀ {u v i : Nat}, u ≠ v → i < cr → ¬ (v * cr ≤ u * cr + i ∧ u * cr + i < v * cr + min cr (n - v * cr)) := by
    intro u v i huv hi hq
    rcases Nat.lt_or_gt_of_ne huv with q | q
    · have := Nat.mul_le_mul_right cr (show u + 1 ≤ v by omega)
      rw [Nat.add_mul, Nat.one_mul] at this
      omega
    · have := Nat.mul_le_mul_right cr (show v + 1 ≤ u by omega)
      rw [Nat.add_mul, Nat.one_mul] at this
      omega
  obtain ⟨g, g1, g2⟩ := h2
  obtain ⟨g', g1', g2'⟩ := h3
  by_cases c1 : t = b0 / cr
  · subst c1
    have q := isArr_self g1'
    have e : ∀ i, i < min cr (n - b0 / cr * cr) → g' i = f3 (b0 / cr * cr + i) := fun i hi => by
      rw [g2' (b0 / cr * cr + i), if_pos (by omega), show b0 / cr * cr + i - b0 / cr * cr = i by omega]
    exact isArr_congr q e e
  · have e3 : ∀ i, i < min cr (n - t * cr) → f2 (t * cr + i) = f3 (t * cr + i) := fun i hi => by
      rw [g2' (t * cr + i), if_neg (far c1 (by omega))]
    by_cases c2 : t = a0 / cr
    · subst c2
      have q := isArr_self g1
      have e : ∀ i, i < min cr (n - a0 / cr * cr) → g i = f3 (a0 / cr * cr + i) := fun i hi => by
        rw [← e3 i hi, g2 (a0 / cr * cr + i), if_pos (by omega), show a0 / cr * cr + i - a0 / cr * cr = i by omega]
      exact isArr_congr q e e
    · have e : ∀ i, i < min cr (n - t * cr) → f (t * cr + i) = f3 (t * cr + i) := fun i hi => by
        obtain ⟨a', ea, la⟩ := seg_of hcr ha
        obtain ⟨b', eb, lb⟩ := seg_of hcr hb
        have q1 := far (i := i) c2 (by omega)
        have q2 := far (i := i) c1 (by omega)
        rw [← e3 i hi, g2 (t * cr + i), if_neg q1]
        unfold swp up1
        rw [if_neg (by omega), if_neg (by omega)]
      exact isArr_congr (hs t ht') e e
theorem ex_asm {V V' W W' : Mem} {m : Nat} (hm : m < 3) (h : inv V W) (hok' : okC V') (fr1 : ∀ c, ¬ (44 ≤ c ∧ c ≤ 120) → c ≠ 1 → c ≠ 15 + 4 * m → c ≠ 15 + 4 * m + 1 → V' c = V c) (fr2 : ∀ j, j ≠ 6 → V' (15 + 4 * m) j = V (15 + 4 * m) j) (ho : rxO W W' m) (es : W' 0 1 = V' 1 0) (hrow : ∀ i : Nat, (i : Int) < V (15 + 4 * m) 5 → W' 15 (40 * m + i) = V' (15 + 4 * m + 1) i) (hx : xtra V' m) : inv V' W' := by
  obtain ⟨⟨hok, hxt, h0, hf, hz⟩, r1, r2, r3, r4, r5, r6, ⟨k1, k2, k3, k4, k5, k6⟩, ⟨p1, p2, p3, p4⟩, m1, m2, m3, m4, m5⟩ := h
  obtain ⟨o1, o2, o3⟩ := ho
  have E : ∀ c, c < 14 → c ≠ 1 → V' c = V c := fun c hc h1 => fr1 c (by omega) h1 (by omega) (by omega)
  have EM : ∀ q j, q < 3 → j ≠ 6 → V' (15 + 4 * q) j = V (15 + 4 * q) j := fun q j hq hj => by
    by_cases e : q = m
    · subst e; exact fr2 j hj
    · rw [fr1 (15 + 4 * q) (by omega) (by omega) (by omega) (by omega)]
  have EM2 : ∀ q, q < 3 → V' (15 + 4 * q + 2) = V (15 + 4 * q + 2) := fun q hq => fr1 _ (by omega) (by omega) (by omega) (by omega)
  have EM3 : ∀ q, q < 3 → V' (15 + 4 * q + 3) = V (15 + 4 * q + 3) := fun q hq => fr1 _ (by omega) (by omega) (by omega) (by omega)
  refine ⟨⟨hok', fun q hq => ?_, fun q hq => ?_, fun k => ?_, fun k => ?_⟩, es, ?_, ?_, ?_, ?_, ?_, ⟨?_, ?_, ?_, ?_, ?_, ?_⟩, ⟨?_, ?_, ?_, ?_⟩, fun q hq => ?_, fun q hq => ?_, fun q => ?_, fun q hq k hk => ?_, fun q hq i => ?_⟩
  · by_cases e : q = m
    · subst e; exact hx
    · refine xtra_gen hq hok (hxt q hq) (fun p _ => ?_) ?_ (EM q 5 hq (by omega)) ?_ (Or.inl (EM q 4 hq (by omega))) (fun i _ => ?_) (fun k _ => ?_)
      · rw [E 4 (by omega) (by omega), E 10 (by omega) (by omega), E 11 (by omega) (by omega), E 12 (by omega) (by omega), E 13 (by omega) (by omega)]
        exact ⟨rfl, rfl, rfl, rfl, rfl⟩
      · rw [E 9 (by omega) (by omega)]; exact Int.le_refl _
      · rw [fr1 (15 + 4 * q) (by omega) (by omega) (by omega) (by omega)]
      · rw [fr1 (15 + 4 * q + 1) (by omega) (by omega) (by omega) (by omega)]
      · rw [EM3 q hq]
  · rw [E 0 (by omega) (by omega), EM q 5 hq (by omega)]; exact h0 q hq
  · rw [E 0 (by omega) (by omega), E 2 (by omega) (by omega), E 3 (by omega) (by omega), E 5 (by omega) (by omega)]; exact hf k
  · rw [E 2 (by omega) (by omega), E 7 (by omega) (by omega)]; exact hz k
  · rw [o2 2 (by omega) (by omega), E 0 (by omega) (by omega)]; exact r2
  · rw [o2 3 (by omega) (by omega), E 2 (by omega) (by omega)]; exact r3
  · rw [o2 10 (by omega) (by omega), E 9 (by omega) (by omega)]; exact r4
  · rw [o2 15 (by omega) (by omega), E 0 (by omega) (by omega)]; exact r5
  · rw [o2 18 (by omega) (by omega), E 0 (by omega) (by omega)]; exact r6
  · rw [o1 1 (by omega) (by omega) (by omega) (by omega) (by omega), E 3 (by omega) (by omega)]; exact k1
  · rw [o1 2 (by omega) (by omega) (by omega) (by omega) (by omega), E 4 (by omega) (by omega)]; exact k2
  · rw [o1 3 (by omega) (by omega) (by omega) (by omega) (by omega), E 5 (by omega) (by omega)]; exact k3
  · rw [o1 4 (by omega) (by omega) (by omega) (by omega) (by omega), E 6 (by omega) (by omega)]; exact k4
  · rw [o1 5 (by omega) (by omega) (by omega) (by omega) (by omega), E 7 (by omega) (by omega)]; exact k5
  · rw [o1 6 (by omega) (by omega) (by omega) (by omega) (by omega), E 8 (by omega) (by omega)]; exact k6
  · rw [o1 7 (by omega) (by omega) (by omega) (by omega) (by omega), E 10 (by omega) (by omega)]; exact p1
  · rw [o1 8 (by omega) (by omega) (by omega) (by omega) (by omega), E 11 (by omega) (by omega)]; exact p2
  · rw [o1 9 (by omega) (by omega) (by omega) (by omega) (by omega), E 12 (by omega) (by omega)]; exact p3
  · rw [o1 10 (by omega) (by omega) (by omega) (by omega) (by omega), E 13 (by omega) (by omega)]; exact p4
  · rw [o1 11 (by omega) (by omega) (by omega) (by omega) (by omega), EM q 3 hq (by omega)]; exact m1 q hq
  · rw [o1 14 (by omega) (by omega) (by omega) (by omega) (by omega), EM q 5 hq (by omega)]; exact m2 q hq
  · rw [o1 12 (by omega) (by omega) (by omega) (by omega) (by omega), E 0 (by omega) (by omega)]
    intro hq
    have c2 := hok.2.1
    rw [EM q 4 (by omega) (by omega)]; exact m3 q hq
  · rw [o1 13 (by omega) (by omega) (by omega) (by omega) (by omega), EM2 q hq]; exact m4 q hq k hk
  · rw [EM q 5 hq (by omega)]
    intro hi
    by_cases e : q = m
    · subst e; exact hrow i hi
    · have c20 := hok.2.2.2.2.2.2.2.2.2.2.2.2.2.2.2.2.2.2.2.1 q hq
      rw [o3 (40 * q + i) (by omega), fr1 (15 + 4 * q + 1) (by omega) (by omega) (by omega) (by omega)]
      exact m5 q hq i hi
theorem rTm_eq {V W : Mem} {m cr n kc : Nat} {f : Nat → Int} (h : rel V W) : rTm W m cr n kc f = moveT (way (V 11) (V 12) (V 9 4)) cr f (fun i => V 4 (V 10 (f i).toNat).toNat) n + sup (fun k => cnt (fun i => V 10 (f i).toNat) (k : Int) n) (V 8) (V 7) (V 6) kc := by
  obtain ⟨r1, r2, r3, r4, r5, r6, ⟨k1, k2, k3, k4, k5, k6⟩, ⟨p1, p2, p3, p4⟩, m1, m2, m3, m4, m5⟩ := h
  unfold rTm
  rw [r4, k2, k4, k5, k6, p1, p2, p3]
set_option maxHeartbeats 4000000 in
theorem ex_step {V W V' W' : Mem} {us kc : Nat} {z z' : Int} (h : inv V W) (hus : V 0 9 = (us : Int)) (hx : exStep us V z V') (hr : rxStep us kc W z' W') : z = z' ∧ inv V' W' := by
  have h' := h
  obtain ⟨⟨hok, hxt, h0, hf, hz⟩, hrel⟩ := h'
  have hrel' := hrel
  obtain ⟨r1, r2, r3, r4, r5, r6, ⟨k1, k2, k3, k4, k5, k6⟩, ⟨p1, p2, p3, p4⟩, m1, m2, m3, m4, m5⟩ := hrel'
  have hok' := hok
  obtain ⟨c1, c2, c3, c4, c5, c6, c7, c8, c9, c10, c11, c12, c13, c14, c15, c16, c17, c18, c19, c20, c21, c22, c23, c24⟩ := hok'
  have okV' := (exStep_okC (by omega) hok hx).1
  obtain ⟨m, hm, em, hx⟩ := hx
  obtain ⟨m', hm', em', hr⟩ := hr
  rw [r1, ← em] at em'
  have e0 : m' = m := by omega
  subst e0
  have hm3 : m' < 3 := by omega
  have en : (W 14 m').toNat = (V (15 + 4 * m') 5).toNat := by rw [m2 m' hm3]
  have ec : (W 12 m').toNat = (V (15 + 4 * m') 4).toNat := by rw [m3 m' (by omega)]
  rw [en, ec] at hr
  obtain ⟨n, hn⟩ : ∃ n : Nat, V (15 + 4 * m') 5 = (n : Int) := ⟨_, (Int.toNat_of_nonneg (c20 m' hm3).1).symm⟩
  obtain ⟨cr, hcr⟩ : ∃ n : Nat, V (15 + 4 * m') 4 = (n : Int) := ⟨_, (Int.toNat_of_nonneg (by have := c19 m' hm3; omega)).symm⟩
  have hcr1 : 1 ≤ cr := by have := c19 m' hm3; omega
  obtain ⟨x1, x2, x3⟩ := hxt m' hm3
  rw [hn, hcr, Int.toNat_natCast, Int.toNat_natCast] at hx hr x1 x2
  rw [hn, Int.toNat_natCast] at x3
  have row := m5 m' hm3
  rw [hn] at row
  have rowI : ∀ i, i < n → W 15 (40 * m' + i) = V (15 + 4 * m' + 1) i := fun i hi => row i (by omega)
  have rin : ∀ i, i < n → 0 ≤ V (15 + 4 * m' + 1) i ∧ V (15 + 4 * m' + 1) i < V 9 4 := fun i hi => c22 m' hm3 i (by omega)
  -- the memory with s drawn once
  generalize eU : up V 1 0 (lcg (V 1 0)) = U at hx
  have u1 : U 1 0 = lcg (V 1 0) := by rw [← eU]; exact up_eq
  have uo : ∀ c, c ≠ 1 → U c = V c := fun c hc => by rw [← eU]; exact up_ne1 hc
  unfold exR at hx
  rw [u1, uo 4 (by omega), uo 9 (by omega), uo 10 (by omega), uo 11 (by omega), uo 12 (by omega), uo 13 (by omega), uo (15 + 4 * m') (by omega), uo (15 + 4 * m' + 1) (by omega)] at hx
  unfold rxR at hr
  rw [r1, r4, p2, p3, p4] at hr
  rcases hx with ⟨q1, q2, q3⟩ | ⟨q1, q2, q3, q4, a0, b0, ea, eb, la, lb, hcase⟩
  · rcases hr with ⟨w1, w2, w3⟩ | ⟨w1, _⟩
    · refine ⟨by rw [q2, w2], ?_⟩
      have es : V' = up V 1 0 (lcg (V 1 0)) := by rw [q3, eU]
      refine ex_asm hm3 h okV' (fun c _ hc _ _ => by rw [q3]; exact uo c hc) (fun j _ => by rw [q3, uo _ (by omega)]) (by rw [w3]; exact rxO_s) ?_ (fun i hi => ?_) ?_
      · rw [w3, up_eq, q3, u1]
      · rw [w3, up_ne1 (by omega), q3, uo _ (by omega)]
        exact m5 m' hm3 i hi
      · rw [q3]
        refine xtra_gen hm3 hok (hxt m' hm3) (fun p _ => ?_) ?_ ?_ ?_ (Or.inl ?_) (fun i _ => ?_) (fun k _ => ?_)
        · rw [uo 4 (by omega), uo 10 (by omega), uo 11 (by omega), uo 12 (by omega), uo 13 (by omega)]
          exact ⟨rfl, rfl, rfl, rfl, rfl⟩
        · rw [uo 9 (by omega)]; exact Int.le_refl _
        all_goals rw [uo _ (by omega)]
    · omega
  rcases hr with ⟨w1, _⟩ | ⟨w1, w2, w3, a1, b1, ea', eb', la', lb', hcase'⟩
  · omega
  rw [← ea] at ea'
  rw [← eb] at eb'
  have e1 : a1 = a0 := by omega
  have e2 : b1 = b0 := by omega
  subst e1 e2
  rw [rowI a1 la, rowI b1 lb] at hcase'
  have es : W' 0 1 = V' 1 0 := by rw [w2, q2]
  have fr1 : ∀ c, ¬ (44 ≤ c ∧ c ≤ 120) → c ≠ 1 → c ≠ 15 + 4 * m' → c ≠ 15 + 4 * m' + 1 → V' c = V c := fun c h1 h2 h3 h4 => by rw [q3 c h1 h2 h3 h4, uo c h2]
  -- when the row stays as it was
  have stay : (∀ j, j < n → V' (15 + 4 * m' + 1) j = V (15 + 4 * m' + 1) j) → V' (15 + 4 * m') 6 = V (15 + 4 * m') 6 → (∀ i, i < 40 → W' 15 (40 * m' + i) = W 15 (40 * m' + i)) → inv V' W' := by
    intro s1 s2 s3
    refine ex_asm hm3 h okV' fr1 q4 w3 es (fun i hi => ?_) ?_
    · have := c20 m' hm3
      rw [s3 i (by omega), rowI i (by omega), s1 i (by omega)]
    · refine xtra_gen hm3 hok (hxt m' hm3) (fun p _ => ?_) ?_ (q4 5 (by omega)) s2 (Or.inl (q4 4 (by omega))) (fun i hi => s1 i (by omega)) (fun k _ => ?_)
      · rw [fr1 4 (by omega) (by omega) (by omega) (by omega), fr1 10 (by omega) (by omega) (by omega) (by omega), fr1 11 (by omega) (by omega) (by omega) (by omega), fr1 12 (by omega) (by omega) (by omega) (by omega), fr1 13 (by omega) (by omega) (by omega) (by omega)]
        exact ⟨rfl, rfl, rfl, rfl, rfl⟩
      · rw [fr1 9 (by omega) (by omega) (by omega) (by omega)]; exact Int.le_refl _
      · rw [fr1 (15 + 4 * m' + 3) (by omega) (by omega) (by omega) (by omega)]
  rcases hcase with ⟨d1, d2, d3, d4⟩ | ⟨d1, d2, f2, f3, d3, d4, d5⟩
  · rcases hcase' with ⟨t1, t2, t3⟩ | ⟨t1, f2, f3, t2, t3, t4⟩
    · exact ⟨by rw [d1, t1], stay (fun j _ => by rw [d4]) d3 t3⟩
    · have same : a1 / cr = b1 / cr := d2.resolve_left (fun q => q t1)
      have hs := x1 (a1 / cr) (by obtain ⟨a', ea, _⟩ := seg_of hcr1 la; omega)
      have hs' := isArr_congr hs (f' := fun i => W 15 (40 * m' + (a1 / cr * cr + i))) (g' := fun i => W 15 (40 * m' + (a1 / cr * cr + i))) (fun i hi => (rowI _ (by omega)).symm) (fun i hi => (rowI _ (by omega)).symm)
      have e3 := arr_noop (f := fun i => W 15 (40 * m' + i)) hcr1 la lb same hs' t2 t3
      rw [e3] at t4
      rcases t4 with ⟨t5, t6, t7⟩ | ⟨t5, t6, t7⟩
      · exact absurd t6 (Int.lt_irrefl _)
      · exact ⟨by rw [d1, t5], stay (fun j _ => by rw [d4]) d3 t7⟩
  · rcases hcase' with ⟨t1, t2, t3⟩ | ⟨t1, g2, g3, t2, t3, t4⟩
    · exact absurd d1 t2
    have sw := swp_row la lb (f := fun i => W 15 (40 * m' + i)) (f' := V (15 + 4 * m' + 1)) rowI
    have s2 := arrSeg_row t2 d3 sw
    have s3 := arrSeg_row t3 d4 s2
    have na : a1 / cr * cr < n := by obtain ⟨a', ea, _⟩ := seg_of hcr1 la; omega
    have nb : b1 / cr * cr < n := by obtain ⟨a', ea, _⟩ := seg_of hcr1 lb; omega
    have pm : ∀ v, cnt f3 v n = cnt (V (15 + 4 * m' + 1)) v n := fun v => by rw [arrSeg_cnt d4 nb, arrSeg_cnt d3 na, cnt_swp la lb]
    have in3 : ∀ i, i < n → f3 i < V 9 4 := arrSeg_P (P := fun z => z < V 9 4) d4 (arrSeg_P (P := fun z => z < V 9 4) d3 (swp_P (P := fun z => z < V 9 4) (fun i hi => (rin i hi).2) la lb) na) nb
    have tm3 : rTm W m' cr n kc g3 = moveT (way (V 11) (V 12) (V 9 4)) cr f3 (fun i => V 4 (V 10 (f3 i).toNat).toNat) n + sup (fun k => cnt (fun i => V 10 (V (15 + 4 * m' + 1) i).toNat) (k : Int) n) (V 8) (V 7) (V 6) kc := by
      rw [rTm_eq hrel]
      congr 1
      · exact moveT_congr (P := fun _ => True) (fun _ _ _ _ => rfl) trivial (fun _ _ => trivial) s3 (fun i hi => by rw [s3 i hi])
      · refine sup_congr (fun k hk => ?_)
        rw [cnt_congr (fun i hi => by rw [s3 i hi] : ∀ i, i < n → V 10 (g3 i).toNat = V 10 (f3 i).toNat)]
        exact cnt_perm pm (fun z => V 10 z.toNat) (k : Int)
    have tm0 : rTm W m' cr n kc (fun i => W 15 (40 * m' + i)) = V (15 + 4 * m') 6 + sup (fun k => cnt (fun i => V 10 (V (15 + 4 * m' + 1) i).toNat) (k : Int) n) (V 8) (V 7) (V 6) kc := by
      rw [rTm_eq hrel, x2]
      congr 1
      · exact moveT_congr (P := fun _ => True) (fun _ _ _ _ => rfl) trivial (fun _ _ => trivial) rowI (fun i hi => by rw [rowI i hi])
      · exact sup_congr (fun k hk => cnt_congr (fun i hi => by rw [rowI i hi]))
    rw [tm3, tm0] at t4
    rcases d5 with ⟨d6, d7, d8, d9⟩ | ⟨d6, d7, d8, d9⟩
    · rcases t4 with ⟨t5, t6, t7⟩ | ⟨t5, t6, t7⟩
      · refine ⟨by rw [d6, t5], ex_asm hm3 h okV' fr1 q4 w3 es (fun i hi => ?_) ?_⟩
        · have := c20 m' hm3
          rw [t7 i (by omega), s3 i (by omega), d9]
        · unfold xtra
          rw [q4 5 (by omega), q4 4 (by omega), d8, d9, fr1 4 (by omega) (by omega) (by omega) (by omega), fr1 9 (by omega) (by omega) (by omega) (by omega), fr1 10 (by omega) (by omega) (by omega) (by omega), fr1 11 (by omega) (by omega) (by omega) (by omega), fr1 12 (by omega) (by omega) (by omega) (by omega), fr1 13 (by omega) (by omega) (by omega) (by omega), fr1 (15 + 4 * m' + 3) (by omega) (by omega) (by omega) (by omega), hn, hcr, Int.toNat_natCast, Int.toNat_natCast]
          refine ⟨arr_selfs hcr1 la lb d2 x1 d3 d4, rfl, fun k hk => ?_⟩
          rw [x3 k hk]
          exact (cnt_perm pm (fun z => V 10 z.toNat) (k : Int)).symm
      · omega
    · rcases t4 with ⟨t5, t6, t7⟩ | ⟨t5, t6, t7⟩
      · omega
      · exact ⟨by rw [d6, t5], stay d9 d8 t7⟩
theorem ex_seq {V W : Mem} {us kc : Nat} (h : inv V W) (hus : V 0 9 = (us : Int)) (hus3 : us ≤ 3) : ∀ {n : Nat} {k k' : Int} {V' W' : Mem}, exSeq us V n k V' → rxSeq us kc W n k' W' → k = k' ∧ inv V' W'
  | 0, k, k', V', W', ⟨h1, h2⟩, ⟨h3, h4⟩ => by rw [h1, h3, h2, h4]; exact ⟨rfl, h⟩
  | n + 1, k, k', V', W', ⟨k1, V1, z, h1, h2, h3⟩, ⟨k1', W1, z', h4, h5, h6⟩ => by
    obtain ⟨e1, i1⟩ := ex_seq h hus hus3 h1 h4
    have e0 := (exSeq_okC hus3 h.1.1 h1).2.1 0 (by omega) (by omega) (fun m hm => ⟨by omega, by omega⟩)
    obtain ⟨e2, i2⟩ := ex_step i1 (by rw [e0]; exact hus) h2 h5
    exact ⟨by rw [h3, h6, e1, e2], i2⟩
theorem ex_all {V W V' W' : Mem} {kc st : Nat} {z z' : Int} (h : inv V W) (hx : exs V st z V') (hr : rxs W kc st z' W') : z = z' ∧ inv V' W' := by
  have r6 := h.2.2.2.2.2.2.1
  have c3 := h.1.1.2.2.1
  have c2 := h.1.1.2.1
  rcases hx with ⟨a1, a2, a3⟩ | ⟨a1, a2⟩
  · rcases hr with ⟨b1, b2, b3⟩ | ⟨b1, b2⟩
    · rw [a2, b2, a3, b3]; exact ⟨rfl, h⟩
    · omega
  · rcases hr with ⟨b1, b2, b3⟩ | ⟨b1, b2⟩
    · omega
    · rw [r6] at b2
      exact ex_seq h (by omega) (by omega) a2 b2
