theorem known_K {args : Array Value} {s : State} (hts : ∀ w ∈ gw, w.before args s = true) (h3 : aov (.object RX2) s) (h4 : aov (.array .int) s) (h5 : aov (.array .long) s) : ∃ (D : va_G) (τ : Nat → ClassId), va_K D vwCl (tysL τ) s := by
  obtain ⟨d0, i0, K0⟩ := u_known hts inX0 (hts _ (tm_1 (List.mem_of_getElem? (i := 193) rfl) rfl))
  obtain ⟨d1, i1, K1⟩ := u_known hts inX1 (hts _ (tm_1 (List.mem_of_getElem? (i := 27) rfl) rfl))
  obtain ⟨d2, i2, K2⟩ := u_known hts inX2 (hts _ (tm_1 (List.mem_of_getElem? (i := 90) rfl) rfl))
  obtain ⟨d3, i3, K3⟩ := u_known hts inX3 (hts _ (tm_1 (List.mem_of_getElem? (i := 63) rfl) rfl))
  obtain ⟨d4, i4, K4⟩ := u_known hts inX4 (hts _ (tm_1 (List.mem_of_getElem? (i := 131) rfl) rfl))
  obtain ⟨d5, i5, K5⟩ := u_known hts inX5 (hts _ (tm_1 (List.mem_of_getElem? (i := 163) rfl) rfl))
  obtain ⟨d6, i6, K6⟩ := u_known hts inX6 (hts _ (tm_1 (List.mem_of_getElem? (i := 19) rfl) rfl))
  obtain ⟨d7, i7, K7⟩ := u_known hts inX7 (hts _ (tm_3 (List.mem_of_getElem? (i := 209) rfl) rfl))
  obtain ⟨t0, kA0, cm0, f0, g0, h0_⟩ := Cond.arrayClass_spec (hts _ (tm_1 (List.mem_of_getElem? (i := 61) rfl) rfl))
  obtain ⟨t1, kA1, cm1, f1, g1, h1_⟩ := Cond.arrayClass_spec (hts _ (tm_1 (List.mem_of_getElem? (i := 161) rfl) rfl))
  obtain ⟨t2, kA2, cm2, f2, g2, h2_⟩ := Cond.arrayClass_spec (hts _ (tm_4 (List.mem_of_getElem? (i := 62) rfl) rfl))
  obtain ⟨cm3, t3, kA3, f3, -, g3, h3_, j3⟩ := Cond.arrayOver_spec h3
  obtain ⟨cm4, t4, kA4, f4, -, g4, h4_, j4⟩ := arrayOver_specB h4
  obtain ⟨cm5, t5, kA5, f5, -, g5, h5_, j5⟩ := arrayOver_specB h5
  refine ⟨(fun c => if c = 0 then d0 else if c = 1 then d1 else if c = 2 then d2 else if c = 3 then d3 else if c = 4 then d4 else if c = 5 then d5 else if c = 6 then d6 else d7, fun c => if c = 0 then i0 else if c = 1 then i1 else if c = 2 then i2 else if c = 3 then i3 else if c = 4 then i4 else if c = 5 then i5 else if c = 6 then i6 else i7), (fun k => if k = 0 then t0 else if k = 1 then t1 else if k = 2 then t2 else if k = 3 then t3 else if k = 4 then t4 else t5), fun c q hq => ?_, fun k q hq => ?_⟩
  · match c, hq with
    | 0, hq => cases hq; exact K0
    | 1, hq => cases hq; exact K1
    | 2, hq => cases hq; exact K2
    | 3, hq => cases hq; exact K3
    | 4, hq => cases hq; exact K4
    | 5, hq => cases hq; exact K5
    | 6, hq => cases hq; exact K6
    | 7, hq => cases hq; exact K7
    | c + 8, hq => cases hq
  · match k, hq with
    | 0, hq => cases hq; exact ⟨fun n z => ⟨(fun k h => by cases h), kA0, g0, cm0, h0_⟩, f0⟩
    | 1, hq => cases hq; exact ⟨fun n z => ⟨(fun k h => by cases h), kA1, g1, cm1, h1_⟩, f1⟩
    | 2, hq => cases hq; exact ⟨fun n z => ⟨(fun k h => by cases h), kA2, g2, cm2, h2_⟩, f2⟩
    | 3, hq => cases hq; exact ⟨fun n z => ⟨(fun k h => by cases h), kA3, g3, cm3, h3_⟩, kA3, cm3, g3, h3_, f3, j3⟩
    | 4, hq => cases hq; exact ⟨fun n z => ⟨(fun k h => by cases h), kA4, g4, cm4, h4_⟩, j4⟩
    | 5, hq => cases hq; exact ⟨fun n z => ⟨(fun k h => by cases h), kA5, g5, cm5, h5_⟩, j5⟩
    | k + 6, hq => cases hq
theorem known_NC {args : Array Value} {s : State} (h1 : (Cond.castable xIA xIA).before args s = true) (h2 : (Cond.castable xIO xIO).before args s = true) (h3 : (Cond.not (.castable xIA xIO)).before args s = true) : NC s := by
  obtain ⟨c1, t1, a1, a2, a3⟩ := Cond.castable_spec h1
  obtain ⟨c2, t2, b1, b2, b3⟩ := Cond.castable_spec h2
  cases a1.symm.trans a2
  cases b1.symm.trans b2
  refine ⟨⟨c1, a1, a3⟩, ⟨c2, b1, b3⟩, fun x y hx hy => ?_⟩
  have hv := Cond.holds_not_iff.mp h3
  simp only [Cond.value, hx, hy] at hv
  exact Option.some.inj hv
set_option maxHeartbeats 8000000 in
/-- from the entry, for every script of at most 4098 ints, the law comes to its end with true -/
theorem whole_start {p : Program} {e : Env} {s : State} {m : MethodId} {below : List Frame} {meth : Method} {c : Code} (l : Launch) (hl : l.stackTraces = false) {b L : Nat} {xs : Nat → Int32} (hL : L ≤ 4098) (C0 : lw_At p s m meth c b L xs) : W p l e room_1 s m #[Value.ref b] below meth c s.heap [] 0 0 (lw_Z below #[Value.ref b] s) (entryFrame m ([Value.ref b] : List Value).toArray 7) := by
  obtain ⟨hx, hb, hr, hml, hown, hts, hX, hbl, hlk, hgv⟩ := C0
  have hg : ∀ w ∈ gw, w.before #[Value.ref b] s = true := fun w hw => hts w (gw_in hw)
  have hfl := flat_of_before _ hgv
  have h3 : aov (.object RX2) s := hts (.arrayOver (.object RX2)) (by decide +kernel)
  have h4 : aov (.array .int) s := hts (.arrayOver (.array .int)) (by decide +kernel)
  have h5 : aov (.array .long) s := hts (.arrayOver (.array .long)) (by decide +kernel)
  obtain ⟨D, τ, hK⟩ := known_K hg h3 h4 h5
  have hN : Nst s := ⟨⟨va_Nw.of rfl (hts (.methodLinkNest RX6 9 yX1_init RX6) (by decide +kernel)), va_Nw.of rfl (hts (.methodLinkNest RX6 18 yX3_init RX6) (by decide +kernel)), va_Nw.of rfl (hts (.methodLinkNest RX6 32 yX4_init RX6) (by decide +kernel)), va_Nw.of rfl (hts (.methodLinkNest RX6 39 yX5_init RX6) (by decide +kernel))⟩, h3, h4, h5⟩
  have hNC : NC s := known_NC (hts (.castable xIA xIA) (by decide +kernel)) (hts (.castable xIO xIO) (by decide +kernel)) (hfl (.not (.castable xIA xIO)) (by decide +kernel))
  have hini : (Cond.initialized Bundle.tN).before #[Value.ref b] s = true := hts (.initialized Bundle.tN) (by decide +kernel)
  have w1 : sw1.before #[Value.ref b] s = true := hts sw1 (by decide +kernel)
  have w2 : sw2.before #[Value.ref b] s = true := hts sw2 (by decide +kernel)
  have hA : ∀ a : Nat, a < s.heap.size → ¬ (fun q => s.heap.size ≤ q) a := fun a ha h => absurd h (by show ¬ s.heap.size ≤ a; omega)
  have q1 : va_Zq Bundle.tN "UNASSIGNED_STACK" Bundle.steD (fun q => s.heap.size ≤ q) s s.heap := va_Zqof w1 hini (hfl sw3 (by decide +kernel)) hA
  have q2 : va_Zq Bundle.tN "SUPPRESSED_SENTINEL" Bundle.listD (fun q => s.heap.size ≤ q) s s.heap := va_Zqof w2 hini (hfl sw4 (by decide +kernel)) hA
  have hTR : TR (fun q => s.heap.size ≤ q) s := ⟨fun w hw ht => tW_keep ht (State.WarmedH.refl s) (hts w (List.mem_append_right _ hw)), q1, q2, ls_keep q1 (State.WarmedH.refl s) (fun q _ _ => rfl) w1, ls_keep q2 (State.WarmedH.refl s) (fun q _ _ => rfl) w2⟩
  have hl' := lv_entry [.ref b] (n := 7) (Nat.le_of_ble_eq_true rfl)
  rw [lg_entry_eq]
  exact law_begin (D := D) (τ := τ) (a0 := fun _ => 0) (E0 := fun _ _ => .inr (0, [])) (x := (p, e, s, m, #[Value.ref b], below, meth, c, 0, 0, lw_Z below #[Value.ref b] s, fun q => s.heap.size ≤ q)) (b := b) (N := L) (xs := xs) hl ⟨hX, hbl, hA b hbl⟩ ⟨rfl, rfl⟩ hN ⟨hTR, hNC⟩ ⟨rfl, rfl, fun q h => h⟩ hL ⟨hx, hb, hml, hown, hg, hK, fun i j hi => absurd hi (Nat.not_lt_zero _), fun i hi => absurd hi (Nat.not_lt_zero _), fun q h => h, hr, hlk, Nat.zero_le _, Nat.zero_le _⟩ _ s.heap [] hl' (by
    rw [wsP]
    intro k hk
    exact absurd hk (Nat.not_lt_zero _)) va_S.rf
