/-! run, side by side -/
theorem am_ln {h x y : Nat → Int} {sel : Nat → Bool} {kd : Nat → Int} {k : Nat} : ∀ {p : Nat}, cnt (fun i => kd (lnF h x y sel p i).toNat) (k : Int) (nAct sel p) = amF sel kd k p
  | 0 => rfl
  | p + 1 => by
    by_cases e : sel p = true
    · have hle := @insP_le h x y (lnF h x y sel p) p (nAct sel p)
      have hs := cnt_shift (F := fun i => kd (insR h x y (lnF h x y sel p) (nAct sel p) p i).toNat) (g := fun i => kd (lnF h x y sel p i).toNat) (p := kd p) (k := (k : Int)) (t := insP h x y (lnF h x y sel p) p (nAct sel p)) (fun i hi => by
        show kd (insR _ _ _ _ _ _ i).toNat = _
        rw [show insR h x y (lnF h x y sel p) (nAct sel p) p i = lnF h x y sel p i from if_pos hi]) (by
        show kd (insR _ _ _ _ _ _ _).toNat = _
        unfold insR
        rw [if_neg (by omega), if_pos rfl, Int.toNat_natCast]) (d := nAct sel p - insP h x y (lnF h x y sel p) p (nAct sel p)) (fun i a b => by
        show kd (insR _ _ _ _ _ _ i).toNat = _
        unfold insR
        rw [if_neg (by omega), if_neg (by omega), if_pos (by omega)])
      rw [show insP h x y (lnF h x y sel p) p (nAct sel p) + (nAct sel p - insP h x y (lnF h x y sel p) p (nAct sel p)) = nAct sel p by omega, am_ln] at hs
      simp only [nAct, lnF, amF, e, if_true, true_and]
      exact hs
    · simp only [nAct, lnF, amF, e, if_false, false_and, Nat.add_zero, Int.add_zero, Bool.false_eq_true]
      exact am_ln
theorem segs_cnt {ht x y : Nat → Int} {np : Int} {cr n : Nat} {f g : Nat → Int} (hcr : 1 ≤ cr) (h : ∀ t, t * cr < n → isArr ht x y np (fun i => f (t * cr + i)) (fun i => g (t * cr + i)) (min cr (n - t * cr))) (v : Int) : cnt g v n = cnt f v n := by
  have key : ∀ T : Nat, cnt g v (min (T * cr) n) = cnt f v (min (T * cr) n) := by
    intro T
    induction T with
    | zero => simp [cnt]
    | succ T ih =>
      by_cases c : T * cr < n
      · rw [show min (T * cr) n = T * cr by omega] at ih
        rw [Nat.add_mul, Nat.one_mul, show min (T * cr + cr) n = T * cr + min cr (n - T * cr) by omega, cnt_add, cnt_add (f := f), ih, cnt_arr (h T c) v]
      · rw [show min (T * cr) n = n by omega] at ih
        rw [Nat.add_mul, Nat.one_mul, show min (T * cr + cr) n = n by omega]
        exact ih
  have := key n
  have q := Nat.mul_le_mul_left n hcr
  rw [Nat.mul_one] at q
  rw [show min (n * cr) n = n by omega] at this
  exact this
theorem nAct_zero {s : Nat → Bool} : ∀ {n : Nat}, (∀ i, i < n → s i = false) → nAct s n = 0
  | 0, _ => rfl
  | n + 1, h => by
    simp only [nAct]
    rw [nAct_zero (fun i hi => h i (by omega)), h n (by omega)]
    rfl
def base (V W : Mem) : Prop :=
  W 0 1 = V 1 0 ∧ W 0 2 = V 0 0 ∧ W 0 3 = V 2 6 ∧ W 0 10 = V 9 4 ∧ W 0 15 = V 0 8 ∧ W 0 18 = V 0 9 ∧
  (W 1 = V 3 ∧ W 2 = V 4 ∧ W 3 = V 5 ∧ W 4 = V 6 ∧ W 5 = V 7 ∧ W 6 = V 8) ∧ (W 7 = V 10 ∧ W 8 = V 11 ∧ W 9 = V 12 ∧ W 10 = V 13) ∧
  (∀ m, m < 3 → W 11 m = V (15 + 4 * m) 3) ∧ ∀ m : Nat, (m : Int) < V 0 8 → W 12 m = V (15 + 4 * m) 4
def stMa (us : Nat) (V W : Mem) (m : Nat) : Prop := xtra V m ∧ W 14 m = V (15 + 4 * m) 5 ∧ (∀ k, k < 10 → W 13 (10 * m + k) = V (15 + 4 * m + 2) k) ∧ (∀ i : Nat, (i : Int) < V (15 + 4 * m) 5 → W 15 (40 * m + i) = V (15 + 4 * m + 1) i) ∧ (us ≤ m → V (15 + 4 * m) 5 = 0)
def stg (us kc i : Nat) (V W : Mem) : Prop := okC V ∧ base V W ∧ (V 0 9 = (us : Int) ∧ V 2 6 = (kc : Int)) ∧ (∀ k : Nat, (k : Int) < V 2 6 → V 5 k ≠ -1 → V 5 k + V 3 k ≤ V 0 0) ∧ (∀ k : Nat, k < 10 → V 2 6 ≤ (k : Int) → V 7 k = 0) ∧ (∀ k : Nat, k < kc → W 17 k = V 28 k) ∧ (∀ k, k < 10 → V 28 k < (us : Int)) ∧ (∀ m, m < i → m < 3 → stMa us V W m) ∧ ∀ m, i ≤ m → m < 3 → W 14 m = 0 ∧ ∀ k, k < 10 → W 13 (10 * m + k) = -1
theorem stg_inv {us kc : Nat} {V W : Mem} (h : stg us kc 3 V W) : inv V W := by
  obtain ⟨h1, ⟨r1, r2, r3, r4, r5, r6, rk, rp, rm, rc⟩, h3, h4, h5, _, _, h8, _⟩ := h
  refine ⟨⟨h1, fun m hm => (h8 m hm hm).1, fun m hm hq => (h8 m hm hm).2.2.2.2 (by omega), h4, h5⟩, r1, r2, r3, r4, r5, r6, rk, rp, rm, fun m hm => (h8 m hm hm).2.1, rc, fun m hm => (h8 m hm hm).2.2.1, fun m hm => (h8 m hm hm).2.2.2.1⟩
/-- what a set-up leaves alone -/
def suO (V V' : Mem) (m : Nat) : Prop := (∀ j, j ≠ 5 → j ≠ 6 → V' (15 + 4 * m) j = V (15 + 4 * m) j) ∧ ∀ c, ¬ (44 ≤ c ∧ c < 120) → c ≠ 15 + 4 * m → c ≠ 15 + 4 * m + 1 → c ≠ 15 + 4 * m + 2 → c ≠ 15 + 4 * m + 3 → V' c = V c
theorem suG_O {V V' : Mem} {m : Nat} {g : Nat → Int} (h : suG V m V' g) : suO V V' m := ⟨h.2.2.2.2.2.2.1, h.2.2.2.2.2.2.2⟩
theorem base_su {V V' W W' : Mem} {m : Nat} (hm : m < 3) (h : base V W) (hok : okC V) (hv : suO V V' m) (hw0 : ∀ j, j ≠ 25 → W' 0 j = W 0 j) (hw : ∀ c, c ≠ 0 → c ≠ 13 → c ≠ 14 → c ≠ 15 → c ≠ 18 → c ≠ 19 → c ≠ 20 → W' c = W c) : base V' W' := by
  obtain ⟨r1, r2, r3, r4, r5, r6, ⟨k1, k2, k3, k4, k5, k6⟩, ⟨p1, p2, p3, p4⟩, m1, m3⟩ := h
  have E : ∀ c, c < 14 → V' c = V c := fun c hc => hv.2 c (by omega) (by omega) (by omega) (by omega) (by omega)
  have F : ∀ c, c ≠ 0 → c < 13 → W' c = W c := fun c h0 hc => hw c h0 (by omega) (by omega) (by omega) (by omega) (by omega) (by omega)
  have EM : ∀ q j, q < 3 → j ≠ 5 → j ≠ 6 → V' (15 + 4 * q) j = V (15 + 4 * q) j := fun q j hq h5 h6 => by
    by_cases e : q = m
    · subst e; exact hv.1 j h5 h6
    · rw [hv.2 (15 + 4 * q) (by omega) (by omega) (by omega) (by omega) (by omega)]
  unfold base
  rw [hw0 1 (by omega), hw0 2 (by omega), hw0 3 (by omega), hw0 10 (by omega), hw0 15 (by omega), hw0 18 (by omega), E 0 (by omega), E 1 (by omega), E 2 (by omega), E 3 (by omega), E 4 (by omega), E 5 (by omega), E 6 (by omega), E 7 (by omega), E 8 (by omega), E 9 (by omega), E 10 (by omega), E 11 (by omega), E 12 (by omega), E 13 (by omega), F 1 (by omega) (by omega), F 2 (by omega) (by omega), F 3 (by omega) (by omega), F 4 (by omega) (by omega), F 5 (by omega) (by omega), F 6 (by omega) (by omega), F 7 (by omega) (by omega), F 8 (by omega) (by omega), F 9 (by omega) (by omega), F 10 (by omega) (by omega), F 11 (by omega) (by omega), F 12 (by omega) (by omega)]
  refine ⟨r1, r2, r3, r4, r5, r6, ⟨k1, k2, k3, k4, k5, k6⟩, ⟨p1, p2, p3, p4⟩, fun q hq => ?_, fun q hq => ?_⟩
  · rw [EM q 3 hq (by omega) (by omega)]; exact m1 q hq
  · have := hok.2.1
    rw [EM q 4 (by omega) (by omega) (by omega)]; exact m3 q hq
theorem xtra_su {V V' : Mem} {m : Nat} {g : Nat → Int} (hm : m < 3) (hok : okC V) (h : suG V m V' g) : xtra V' m := by
  have hv := suG_O h
  obtain ⟨g1, g2, g3, g4, g5, g6, _, _⟩ := h
  have E : ∀ c, c < 14 → V' c = V c := fun c hc => hv.2 c (by omega) (by omega) (by omega) (by omega) (by omega)
  have c19 := hok.2.2.2.2.2.2.2.2.2.2.2.2.2.2.2.2.2.2.1 m hm
  unfold xtra
  rw [hv.1 4 (by omega) (by omega), g3, g6, Int.toNat_natCast, E 4 (by omega), E 9 (by omega), E 10 (by omega), E 11 (by omega), E 12 (by omega), E 13 (by omega)]
  refine ⟨fun t ht => isArr_self (g5 t ht), rfl, fun k hk => ?_⟩
  rw [g4 k hk, ← am_ln (h := V 13) (x := V 11) (y := V 12)]
  exact (cnt_perm (segs_cnt (by omega) g5) (fun z => V 10 z.toNat) (k : Int)).symm
theorem stM_keep {us : Nat} {V V' W W' : Mem} {m q : Nat} (hq : q < 3) (hne : q ≠ m) (hok : okC V) (h : stMa us V W q) (hv : suO V V' m) (hw : ∀ k, k < 10 → W' 13 (10 * q + k) = W 13 (10 * q + k)) (hw2 : W' 14 q = W 14 q) (hw3 : ∀ i, i < 40 → W' 15 (40 * q + i) = W 15 (40 * q + i)) (hm : m < 3) : stMa us V' W' q := by
  obtain ⟨s1, s2, s3, s4, s5⟩ := h
  have E : ∀ c, c < 14 → V' c = V c := fun c hc => hv.2 c (by omega) (by omega) (by omega) (by omega) (by omega)
  have E0 : V' (15 + 4 * q) = V (15 + 4 * q) := hv.2 _ (by omega) (by omega) (by omega) (by omega) (by omega)
  have E1 : V' (15 + 4 * q + 1) = V (15 + 4 * q + 1) := hv.2 _ (by omega) (by omega) (by omega) (by omega) (by omega)
  have E2 : V' (15 + 4 * q + 2) = V (15 + 4 * q + 2) := hv.2 _ (by omega) (by omega) (by omega) (by omega) (by omega)
  have E3 : V' (15 + 4 * q + 3) = V (15 + 4 * q + 3) := hv.2 _ (by omega) (by omega) (by omega) (by omega) (by omega)
  have c20 := hok.2.2.2.2.2.2.2.2.2.2.2.2.2.2.2.2.2.2.2.1 q hq
  refine ⟨?_, ?_, fun k hk => ?_, fun i hi => ?_, fun hu => ?_⟩
  · unfold xtra
    rw [E0, E1, E3, E 4 (by omega), E 9 (by omega), E 10 (by omega), E 11 (by omega), E 12 (by omega), E 13 (by omega)]
    exact s1
  · rw [hw2, E0]; exact s2
  · rw [hw k hk, E2]; exact s3 k hk
  · rw [E0] at hi
    rw [hw3 i (by omega), E1]; exact s4 i hi
  · rw [E0]; exact s5 hu
set_option maxHeartbeats 4000000 in
theorem stg_two {us kc i : Nat} {V V' W W' : Mem} (hi : i < us) (h : stg us kc i V W) (hs : suR V i V') (hr : rsR W i W') : stg us kc (i + 1) V' W' := by
  obtain ⟨hok, hb, ⟨hu, hk⟩, hf, hz, hsh, hlt, hd, hn⟩ := h
  have hb' := hb
  obtain ⟨r1, r2, r3, r4, r5, r6, ⟨k1, k2, k3, k4, k5, k6⟩, ⟨p1, p2, p3, p4⟩, m1, m3⟩ := hb'
  have hok' := hok
  obtain ⟨c1, c2, c3, c4, c5, c6, c7, c8, c9, c10, c11, c12, c13, c14, c15, c16, c17, c18, c19, c20, c21, c22, c23, c24⟩ := hok'
  have hi3 : i < 3 := by omega
  have okV' := suR_ok hi3 hok hs
  obtain ⟨g, hg⟩ := hs
  have hv := suG_O hg
  have hx := xtra_su hi3 hok hg
  obtain ⟨g', hg'⟩ := hr
  obtain ⟨a1, a2, a3, a4, a5, a6, a7, a8⟩ := hg
  obtain ⟨b1, b2, b3, b4, b5, b6, b7, b8, b9⟩ := hg'
  have e17 : ∀ j, j < kc → W 17 j = V 28 j := hsh
  have ekc : (V 2 6).toNat = kc := by omega
  rw [k1, k3, r2, r3, ekc] at b1
  rw [ekc] at a1
  rw [fixF_hm e17] at b1
  have eg : g' = g := othR_unique (othR_hm e17 b1) a1
  subst eg
  have home := othR_home a1
  have c14' : ∀ p, p < (V 9 4).toNat → (V 10 p).toNat < kc := fun p hp => by
    have := c14 p (by omega)
    have := c13 p (by omega)
    omega
  have sel : ∀ p, p < (V 9 4).toNat → rSel W i g' p = decide (g' (V 10 p).toNat ≠ -1) := fun p hp => by
    unfold rSel
    rw [p1, e17 _ (c14' p hp)]
    by_cases c : g' (V 10 p).toNat = -1
    · simp [c]
    · have := home _ c
      simp [c, this]
  rw [r4] at b3 b4
  rw [nAct_congr sel] at b3 b4
  rw [p2, p3, p4, lnF_congr sel, m3 i (by omega)] at b4
  have E : ∀ c, c < 14 → V' c = V c := fun c hc => hv.2 c (by omega) (by omega) (by omega) (by omega) (by omega)
  have c19i := c19 i hi3
  refine ⟨okV', base_su hi3 hb hok hv b8 b9, ?_, ?_, ?_, ?_, ?_, ?_, ?_⟩
  · rw [E 0 (by omega), E 2 (by omega)]; exact ⟨hu, hk⟩
  · rw [E 0 (by omega), E 2 (by omega), E 3 (by omega), E 5 (by omega)]; exact hf
  · rw [E 2 (by omega), E 7 (by omega)]; exact hz
  · rw [b9 17 (by omega) (by omega) (by omega) (by omega) (by omega) (by omega) (by omega), hv.2 28 (by omega) (by omega) (by omega) (by omega) (by omega)]; exact hsh
  · rw [hv.2 28 (by omega) (by omega) (by omega) (by omega) (by omega)]; exact hlt
  · intro q hq hq3
    by_cases e : q = i
    · subst e
      refine ⟨hx, by rw [b3, a3], fun k hk => by rw [b2 k hk, a2 k hk], fun j hj => ?_, fun hu => by omega⟩
      rw [a3] at hj
      obtain ⟨j', ej, lj⟩ := seg_of (cr := (V (15 + 4 * q) 4).toNat) (n := nAct (fun p => decide (g' (V 10 p).toNat ≠ -1)) (V 9 4).toNat) (by omega) (Int.ofNat_lt.mp hj)
      rw [ej]
      exact (isArr_unique (a5 _ (by omega)) (b4 _ (by omega)) j' lj).symm
    · exact stM_keep hq3 e hok (hd q (by omega) hq3) hv (fun k hk => b5 _ (by omega)) (b6 q e) (fun j hj => b7 _ (by omega)) hi3
  · intro q hq hq3
    obtain ⟨n1, n2⟩ := hn q (by omega) hq3
    exact ⟨by rw [b6 q (by omega)]; exact n1, fun k hk => by rw [b5 _ (by omega)]; exact n2 k hk⟩
theorem stg_one {us kc i : Nat} {V V' W : Mem} (hi : us ≤ i) (hi3 : i < 3) (h : stg us kc i V W) (hs : suR V i V') : stg us kc (i + 1) V' W := by
  obtain ⟨hok, hb, ⟨hu, hk⟩, hf, hz, hsh, hlt, hd, hn⟩ := h
  have okV' := suR_ok hi3 hok hs
  obtain ⟨g, hg⟩ := hs
  have hv := suG_O hg
  have hx := xtra_su hi3 hok hg
  obtain ⟨a1, a2, a3, a4, a5, a6, a7, a8⟩ := hg
  have home := othR_home a1
  have c5 := hok.2.2.2.2.1
  have c13 := hok.2.2.2.2.2.2.2.2.2.2.2.2.1
  have none : ∀ j, j < 10 → g j = -1 := fun j hj => Decidable.byContradiction (fun q => by
    have := home j q
    have := hlt j hj
    omega)
  have n0 : nAct (fun p => decide (g (V 10 p).toNat ≠ -1)) (V 9 4).toNat = 0 := nAct_zero (fun p hp => by
    have := c13 p (by omega)
    rw [none _ (by omega)]
    rfl)
  rw [n0] at a3
  have E : ∀ c, c < 14 → V' c = V c := fun c hc => hv.2 c (by omega) (by omega) (by omega) (by omega) (by omega)
  refine ⟨okV', base_su hi3 hb hok hv (fun _ _ => rfl) (fun _ _ _ _ _ _ _ _ => rfl), ?_, ?_, ?_, ?_, ?_, ?_, ?_⟩
  · rw [E 0 (by omega), E 2 (by omega)]; exact ⟨hu, hk⟩
  · rw [E 0 (by omega), E 2 (by omega), E 3 (by omega), E 5 (by omega)]; exact hf
  · rw [E 2 (by omega), E 7 (by omega)]; exact hz
  · rw [hv.2 28 (by omega) (by omega) (by omega) (by omega) (by omega)]; exact hsh
  · rw [hv.2 28 (by omega) (by omega) (by omega) (by omega) (by omega)]; exact hlt
  · intro q hq hq3
    by_cases e : q = i
    · subst e
      obtain ⟨n1, n2⟩ := hn q (Nat.le_refl _) hq3
      exact ⟨hx, by rw [n1, a3]; rfl, fun k hk => by rw [n2 k hk, a2 k hk, none k hk], fun j hj => by rw [a3] at hj; omega, fun _ => by rw [a3]; rfl⟩
    · exact stM_keep hq3 e hok (hd q (by omega) hq3) hv (fun k hk => rfl) rfl (fun j hj => rfl) hi3
  · intro q hq hq3
    exact hn q (by omega) hq3
theorem stg_seq {us kc : Nat} {V W : Mem} (hu : us ≤ 3) (h : stg us kc 0 V W) : ∀ {i : Nat} {V' W' : Mem}, i ≤ us → suSeq V i V' → rsSeq W i W' → stg us kc i V' W'
  | 0, V', W', _, h1, h2 => by rw [show V' = V from h1, show W' = W from h2]; exact h
  | i + 1, V', W', hi, ⟨U, h1, h2⟩, ⟨X, h3, h4⟩ => stg_two (by omega) (stg_seq hu h (by omega) h1 h3) h2 h4
theorem stg_seq2 {us kc : Nat} {V W' : Mem} (hu : us ≤ 3) (h : ∀ U, suSeq V us U → stg us kc us U W') : ∀ {d : Nat} {V' : Mem}, us + d ≤ 3 → suSeq V (us + d) V' → stg us kc (us + d) V' W'
  | 0, V', _, h1 => h V' h1
  | d + 1, V', hd, ⟨U, h1, h2⟩ => stg_one (i := us + d) (by omega) (by omega) (stg_seq2 hu h (by omega) h1) h2
theorem stg_0 {us : Nat} {V V2 W W1 W2 : Mem} (h : inv V W) (hus : (us : Int) ≤ V 0 8) (hc : shR (up V 0 9 (us : Int)) V2) (hi : rIn W W1 us) (hr : rSh W1 W2) : stg us (V 2 6).toNat 0 V2 W2 := by
  obtain ⟨⟨hok, hxt, h0, hf, hz⟩, r1, r2, r3, r4, r5, r6, ⟨k1, k2, k3, k4, k5, k6⟩, ⟨p1, p2, p3, p4⟩, m1, m2, m3, m4, m5⟩ := h
  have hok' := hok
  obtain ⟨c1, c2, c3, c4, c5, c6, c7, c8, c9, c10, c11, c12, c13, c14, c15, c16, c17, c18, c19, c20, c21, c22, c23, c24⟩ := hok'
  have hus3 : us ≤ 3 := by omega
  generalize eU : up V 0 9 (us : Int) = U at hc
  have uo : ∀ c, c ≠ 0 → U c = V c := fun c hc => by rw [← eU]; exact up_ne1 hc
  have u0 : ∀ j, j ≠ 9 → U 0 j = V 0 j := fun j hj => by rw [← eU]; exact up_ne (Or.inr hj)
  have u9 : U 0 9 = (us : Int) := by rw [← eU]; exact up_eq
  have okU : okC U := by
    unfold okC
    rw [u0 0 (by omega), u0 8 (by omega), u9, uo 2 (by omega), uo 3 (by omega), uo 4 (by omega), uo 5 (by omega), uo 6 (by omega), uo 7 (by omega), uo 8 (by omega), uo 9 (by omega), uo 10 (by omega), uo 11 (by omega), uo 12 (by omega), uo 13 (by omega)]
    refine ⟨c1, c2, ⟨by omega, hus⟩, c4, c5, c6, c7, c8, c9, c10, c11, c12, c13, c14, c15, c16, c17, fun m hm => ?_, fun m hm => ?_, fun m hm => ?_, fun m hm => ?_, fun m hm i => ?_, fun m hm k hk => ?_, fun m hm k hk => ?_⟩
    · rw [uo _ (by omega)]; exact c18 m hm
    · rw [uo _ (by omega)]; exact c19 m hm
    · rw [uo _ (by omega)]; exact c20 m hm
    · rw [uo _ (by omega)]; exact c21 m hm
    · rw [uo (15 + 4 * m) (by omega), uo (15 + 4 * m + 1) (by omega)]; exact c22 m hm i
    · rw [uo _ (by omega)]; exact c23 m hm k hk
    · rw [uo _ (by omega)]; exact c24 m hm k hk
  obtain ⟨i1, i2, i3, i4, i5, i6⟩ := hi
  obtain ⟨s, s1, s2, s3⟩ := hc
  obtain ⟨t, t1, t2, t3⟩ := hr
  rw [uo 2 (by omega), uo 9 (by omega), u9] at s1 s2
  rw [Int.toNat_natCast] at s1 s2
  rw [i5 3 (by omega) (by omega), i5 10 (by omega) (by omega), i4, r3, r4] at t1 t2
  rw [Int.toNat_natCast] at t1 t2
  have eC : kCt U (V 9 4).toNat = rCt W1 (V 9 4).toNat := by
    funext k
    unfold kCt rCt
    rw [uo 10 (by omega), i6 7 (by omega) (by omega) (by omega), p1]
  have eH : kHo U us = rHo W1 us := by
    funext k
    unfold kHo rHo
    refine hosts_congr (fun m hm => ?_)
    unfold rHas
    rw [uo _ (by omega), uo 4 (by omega), i6 2 (by omega) (by omega) (by omega), i6 11 (by omega) (by omega) (by omega), k2, m1 m (by omega)]
  have eA : kAct U (V 9 4).toNat us = rAct W1 (V 9 4).toNat us := by
    funext k
    unfold kAct rAct
    rw [eC, eH]
  have eM : kMay U us = rMay W1 us := by
    funext k m
    unfold kMay rMay
    rw [eH]
  rw [eC, eA, eM] at s1
  rw [eA] at s2
  have un := sBest_unique s1 t1
  have E : ∀ c, c < 27 → V2 c = U c := fun c hc => s3 c (by omega) (by omega)
  have F : ∀ c, c ≠ 0 → c < 13 → W2 c = W c := fun c h0 hc => by rw [t3 c (by omega) (by omega), i6 c h0 (by omega) (by omega)]
  have F0 : ∀ j, j ≠ 0 → j ≠ 18 → W2 0 j = W 0 j := fun j h0 h18 => by rw [t3 0 (by omega) (by omega), i5 j h0 h18]
  refine ⟨okC_congr okU E, ?_, ?_, ?_, ?_, fun k hk => ?_, fun k hk => ?_, fun m hm => by omega, fun m _ hm => ?_⟩
  · unfold base
    rw [F0 1 (by omega) (by omega), F0 2 (by omega) (by omega), F0 3 (by omega) (by omega), F0 10 (by omega) (by omega), F0 15 (by omega) (by omega), show W2 0 18 = (us : Int) by rw [t3 0 (by omega) (by omega), i4], F 1 (by omega) (by omega), F 2 (by omega) (by omega), F 3 (by omega) (by omega), F 4 (by omega) (by omega), F 5 (by omega) (by omega), F 6 (by omega) (by omega), F 7 (by omega) (by omega), F 8 (by omega) (by omega), F 9 (by omega) (by omega), F 10 (by omega) (by omega), F 11 (by omega) (by omega), F 12 (by omega) (by omega)]
    rw [E 0 (by omega), E 1 (by omega), E 2 (by omega), E 3 (by omega), E 4 (by omega), E 5 (by omega), E 6 (by omega), E 7 (by omega), E 8 (by omega), E 9 (by omega), E 10 (by omega), E 11 (by omega), E 12 (by omega), E 13 (by omega)]
    rw [u0 0 (by omega), u0 8 (by omega), u9, uo 1 (by omega), uo 2 (by omega), uo 3 (by omega), uo 4 (by omega), uo 5 (by omega), uo 6 (by omega), uo 7 (by omega), uo 8 (by omega), uo 9 (by omega), uo 10 (by omega), uo 11 (by omega), uo 12 (by omega), uo 13 (by omega)]
    refine ⟨r1, r2, r3, r4, r5, rfl, ⟨k1, k2, k3, k4, k5, k6⟩, ⟨p1, p2, p3, p4⟩, fun q hq => ?_, fun q hq => ?_⟩
    · rw [E _ (by omega), uo _ (by omega)]; exact m1 q hq
    · rw [E _ (by omega), uo _ (by omega)]; exact m3 q hq
  · rw [E 0 (by omega), E 2 (by omega), uo 2 (by omega), u9]; exact ⟨rfl, by omega⟩
  · rw [E 0 (by omega), E 2 (by omega), E 3 (by omega), E 5 (by omega), uo 2 (by omega), uo 3 (by omega), uo 5 (by omega), u0 0 (by omega)]; exact hf
  · rw [E 2 (by omega), E 7 (by omega), uo 2 (by omega), uo 7 (by omega)]; exact hz
  · rw [t2 k hk, s2 k (by omega)]
    by_cases c : rAct W1 (V 9 4).toNat us k = true
    · rw [if_pos c, if_pos ⟨hk, c⟩, un k hk c]
    · rw [if_neg c, if_neg (fun q => c q.2)]
  · rw [s2 k hk]
    by_cases c : k < (V 2 6).toNat ∧ rAct W1 (V 9 4).toNat us k = true
    · rw [if_pos c]
      have := (rMay_iff.mp (s1.1 k c.1 c.2).2).1
      omega
    · rw [if_neg c]; omega
  · rw [t3 14 (by omega) (by omega), t3 13 (by omega) (by omega)]
    exact ⟨i2 m hm, fun k hk => i1 _ (by omega)⟩
theorem tm_rel {V W : Mem} {m kc : Nat} (h : inv V W) (hm : (m : Int) < V 0 8) (hkc : V 2 6 = (kc : Int)) : rTm W m (W 12 m).toNat (W 14 m).toNat kc (fun i => W 15 (40 * m + i)) = V (15 + 4 * m) 6 + sup (V (15 + 4 * m + 3)) (V 8) (V 7) (V 6) kc := by
  obtain ⟨⟨hok, hxt, h0, hf, hz⟩, hrel⟩ := h
  have hrel' := hrel
  obtain ⟨r1, r2, r3, r4, r5, r6, ⟨k1, k2, k3, k4, k5, k6⟩, ⟨p1, p2, p3, p4⟩, m1, m2, m3, m4, m5⟩ := hrel'
  have c2 := hok.2.1
  have c4 := hok.2.2.2.1
  have hm3 : m < 3 := by omega
  obtain ⟨x1, x2, x3⟩ := hxt m hm3
  have rowI : ∀ i, i < (V (15 + 4 * m) 5).toNat → W 15 (40 * m + i) = V (15 + 4 * m + 1) i := fun i hi => m5 m hm3 i (by omega)
  rw [rTm_eq hrel, m2 m hm3, m3 m hm, x2]
  congr 1
  · exact moveT_congr (P := fun _ => True) (fun _ _ _ _ => rfl) trivial (fun _ _ => trivial) rowI (fun i hi => by rw [rowI i hi])
  · exact sup_congr (fun k hk => by rw [x3 k (by omega)]; exact cnt_congr (fun i hi => by rw [rowI i hi]))
theorem run_rel {V W V' W' : Mem} {st us : Nat} {z z' : Int} (h : inv V W) (hus : (us : Int) ≤ V 0 8) (hC : ∃ V2 V3 y, shR (up V 0 9 (us : Int)) V2 ∧ suSeq V2 3 V3 ∧ exs V3 st y V' ∧ okC V' ∧ z = mxF (fun m => V' (15 + 4 * m) 6 + sup (V' (15 + 4 * m + 3)) (V' 8) (V' 7) (V' 6) (V' 2 6).toNat) us) (hR : ∃ V1 V2 V3 y, rIn W V1 us ∧ rSh V1 V2 ∧ rsSeq V2 us V3 ∧ rxs V3 (W 0 3).toNat st y W' ∧ okR W' ∧ W' 0 0 = 0 ∧ z' = mxF (fun m => rTm W' m (W' 12 m).toNat (W' 14 m).toNat (W 0 3).toNat (fun i => W' 15 (40 * m + i))) us) : z = z' ∧ inv V' W' ∧ W' 0 0 = 0 ∧ 0 ≤ z ∧ z ≤ 2147483647 := by
  obtain ⟨V2, V3, y, a1, a2, a3, a4, a5⟩ := hC
  obtain ⟨W1, W2, W3, y', b1, b2, b3, b4, b5, b6, b7⟩ := hR
  have c2 := h.1.1.2.1
  have c4 := h.1.1.2.2.2.1
  have r3 := h.2.2.2.1
  have hus3 : us ≤ 3 := by omega
  have s0 := stg_0 h hus a1 b1 b2
  have s3 := stg_seq2 (V := V2) (W' := W3) hus3 (fun U hU => stg_seq hus3 s0 (Nat.le_refl _) hU b3) (d := 3 - us) (V' := V3) (by omega) (by rw [show us + (3 - us) = 3 by omega]; exact a2)
  rw [show us + (3 - us) = 3 by omega] at s3
  have i3 := stg_inv s3
  obtain ⟨_, i4⟩ := ex_all i3 a3 b4
  have fx := (exs_ok i3.1.1 a3).2.1
  have e0 := fx 0 (by omega) (by omega) (fun m hm => ⟨by omega, by omega⟩)
  have e2 := fx 2 (by omega) (by omega) (fun m hm => ⟨by omega, by omega⟩)
  have eu : V' 0 9 = (us : Int) := by rw [e0]; exact s3.2.2.1.1
  have ek : V' 2 6 = ((V 2 6).toNat : Int) := by rw [e2]; exact s3.2.2.1.2
  have c3 := i4.1.1.2.2.1
  refine ⟨?_, i4, b6, ?_⟩
  · rw [a5, b7, r3, ek, Int.toNat_natCast]
    exact mxF_congr (fun m hm => (tm_rel i4 (by omega) ek).symm)
  · rw [a5, ek, Int.toNat_natCast]
    obtain ⟨c1, c2', c3', c4', c5, c6, c7, c8, c9, c10, c11, c12, c13, c14, c15, c16, c17, c18, c19, c20, c21, c22, c23, c24⟩ := i4.1.1
    have := mxF_in (t := fun m => V' (15 + 4 * m) 6 + sup (V' (15 + 4 * m + 3)) (V' 8) (V' 7) (V' 6) (V 2 6).toNat) (B := 200000000) (n := us) (by omega) (fun m hm => by
      have q1 := c21 m (by omega)
      have q2 := sup_in (am := V' (15 + 4 * m + 3)) (be := V' 8) (ab := V' 7) (rf := V' 6) (n := (V 2 6).toNat) (fun k hk => (c24 m (by omega) k (by omega)).2) (fun k hk => c12 k (by omega)) (fun k hk => c11 k (by omega))
      omega)
    omega
