/-! calls that set something keep the relation -/
theorem up_row {V : Mem} {k i : Nat} {v : Int} : up V k i v k = up1 (V k) i v := funext fun j => by
  unfold up up1
  by_cases e : j = i
  · rw [if_pos ⟨rfl, e⟩, if_pos e]
  · rw [if_neg (fun q => e q.2), if_neg e]
theorem up1_ne {r : Nat → Int} {j i : Nat} {v : Int} (h : i ≠ j) : up1 r j v i = r i := if_neg h
theorem up1_eq {r : Nat → Int} {j : Nat} {v : Int} : up1 r j v j = v := if_pos rfl
theorem up_same {V : Mem} {k i : Nat} {v : Int} (h : V k i = v) : up V k i v = V := funext fun c => funext fun j => by
  unfold up
  by_cases e : c = k ∧ j = i
  · rw [if_pos e, e.1, e.2, h]
  · rw [if_neg e]
macro "cl" : tactic => `(tactic| repeat (first | rw [up_ne1 (by omega)] | rw [up_row] | rw [up1_ne (by omega)] | rw [up1_eq]))
set_option maxHeartbeats 4000000 in
/-- kind(w, z) -/
theorem inv_kind {V W : Mem} (w0 z0 : Int) (hw : 1 ≤ w0 ∧ w0 ≤ 4) (hz0 : 0 ≤ z0 ∧ z0 ≤ 7) (hlt : V 2 6 < 10) (h : inv V W) : inv (up (up (up (up (up V 3 (V 2 6).toNat w0) 4 (V 2 6).toNat z0) 5 (V 2 6).toNat (-1)) 8 (V 2 6).toNat 1) 2 6 (V 2 6 + 1)) (up (up (up (up (up (up W 0 0 0) 1 (W 0 3).toNat w0) 2 (W 0 3).toNat z0) 3 (W 0 3).toNat (-1)) 6 (W 0 3).toNat 1) 0 3 (W 0 3 + 1)) := by
  obtain ⟨⟨hok, hxt, h0, hf, hz⟩, hr⟩ := h
  have hok2 := hok
  obtain ⟨c1, c2, c3, c4, c5, c6, c7, c8, c9, c10, c11, c12, c13, c14, c15, c16, c17, c18, c19, c20, c21, c22, c23, c24⟩ := hok2
  obtain ⟨r1, r2, r3, r4, r5, r6, ⟨k1, k2, k3, k4, k5, k6⟩, ⟨p1, p2, p3, p4⟩, m1, m2, m3, m4, m5⟩ := hr
  rw [r3]
  refine ⟨⟨⟨?_, ?_, ?_, ?_, ?_, ?_, ?_, ?_, ?_, ?_, ?_, ?_, ?_, ?_, ?_, ?_, ?_, ?_, ?_, ?_, ?_, ?_, ?_, ?_⟩, fun m hm => xtra_gen hm hok (hxt m hm) (fun p hp => by
      have q := c14 p hp
      have q2 := c13 p (by omega)
      cl
      exact ⟨rfl, rfl, rfl, rfl, rfl⟩) (by cl; omega) (by cl) (by cl) (Or.inl (by cl)) (fun i _ => by cl) (fun k hk => by cl), ?_, ?_, ?_⟩, ⟨?_, ?_, ?_, ?_, ?_, ?_, ⟨?_, ?_, ?_, ?_, ?_, ?_⟩, ⟨?_, ?_, ?_, ?_⟩, ?_, ?_, ?_, ?_, ?_⟩⟩
  · exact by cl; exact c1
  · exact by cl; exact c2
  · exact by cl; exact c3
  · exact by cl; omega
  · exact by cl; exact c5
  · exact fun k hk => by cl; have := c6 k hk; unfold up1; split <;> omega
  · exact fun k hk => by
      revert hk; cl; intro hk; unfold up1; split
      · omega
      · exact c7 k (by omega)
  · exact fun k hk => by cl; have := c8 k hk; unfold up1; split <;> omega
  · exact fun k hk => by cl; have := c9 k hk; unfold up1; split <;> omega
  · exact fun k hk => by cl; exact c10 k hk
  · exact fun k hk => by
      revert hk; cl; intro hk; unfold up1; split
      · have := hz k (by omega) (by omega); omega
      · exact c11 k (by omega)
  · exact fun k hk => by
      revert hk; cl; intro hk; unfold up1; split
      · omega
      · exact c12 k (by omega)
  · exact fun p hp => by cl; exact c13 p hp
  · exact fun p hp => by revert hp; cl; intro hp; have := c14 p hp; omega
  · exact fun p hp => by cl; exact c15 p hp
  · exact fun p hp => by cl; exact c16 p hp
  · exact fun p hp => by cl; exact c17 p hp
  · exact fun m hm => by cl; exact c18 m hm
  · exact fun m hm => by cl; exact c19 m hm
  · exact fun m hm => by cl; exact c20 m hm
  · exact fun m hm => by cl; exact c21 m hm
  · exact fun m hm i => by cl; exact c22 m hm i
  · exact fun m hm k hk => by cl; exact c23 m hm k hk
  · exact fun m hm k hk => by cl; exact c24 m hm k hk
  · exact fun m => by cl; exact h0 m
  · exact fun k => by
      cl
      intro hk
      unfold up1
      by_cases e : k = (V 2 6).toNat
      · rw [if_pos e, if_pos e]; omega
      · rw [if_neg e, if_neg e]; exact hf k (by omega)
  · exact fun k hk => by
      cl
      intro hk2
      exact hz k hk (by omega)
  · exact by cl; exact r1
  · exact by cl; exact r2
  · exact by cl
  · exact by cl; exact r4
  · exact by cl; exact r5
  · exact by cl; exact r6
  · exact by cl; rw [k1]
  · exact by cl; rw [k2]
  · exact by cl; rw [k3]
  · exact by cl; exact k4
  · exact by cl; exact k5
  · exact by cl; rw [k6]
  · exact by cl; exact p1
  · exact by cl; exact p2
  · exact by cl; exact p3
  · exact by cl; exact p4
  · exact fun m hm => by cl; exact m1 m hm
  · exact fun m hm => by cl; exact m2 m hm
  · exact fun m => by cl; exact m3 m
  · exact fun m hm k hk => by cl; exact m4 m hm k hk
  · exact fun m hm i => by cl; exact m5 m hm i
set_option maxHeartbeats 4000000 in
/-- part(k, x, y, h) -/
theorem inv_part {V W : Mem} (k x0 y0 z0 : Int) (hk : 0 ≤ k ∧ k < V 2 6) (hx0 : 0 ≤ x0 ∧ x0 ≤ 100000) (hy0 : 0 ≤ y0 ∧ y0 ≤ 100000) (hz0 : 0 ≤ z0 ∧ z0 ≤ 10000) (hlt : V 9 4 < 40) (h : inv V W) : inv (up (up (up (up (up V 10 (V 9 4).toNat k) 11 (V 9 4).toNat x0) 12 (V 9 4).toNat y0) 13 (V 9 4).toNat z0) 9 4 (V 9 4 + 1)) (up (up (up (up (up (up W 0 0 0) 7 (W 0 10).toNat k) 8 (W 0 10).toNat x0) 9 (W 0 10).toNat y0) 10 (W 0 10).toNat z0) 0 10 (W 0 10 + 1)) := by
  obtain ⟨⟨hok, hxt, h0, hf, hz⟩, hr⟩ := h
  have hok2 := hok
  obtain ⟨c1, c2, c3, c4, c5, c6, c7, c8, c9, c10, c11, c12, c13, c14, c15, c16, c17, c18, c19, c20, c21, c22, c23, c24⟩ := hok2
  obtain ⟨r1, r2, r3, r4, r5, r6, ⟨k1, k2, k3, k4, k5, k6⟩, ⟨p1, p2, p3, p4⟩, m1, m2, m3, m4, m5⟩ := hr
  rw [r4]
  refine ⟨⟨⟨?_, ?_, ?_, ?_, ?_, ?_, ?_, ?_, ?_, ?_, ?_, ?_, ?_, ?_, ?_, ?_, ?_, ?_, ?_, ?_, ?_, ?_, ?_, ?_⟩, fun m hm => xtra_gen hm hok (hxt m hm) (fun p hp => by cl; exact ⟨rfl, rfl, rfl, rfl, rfl⟩) (by cl; omega) (by cl) (by cl) (Or.inl (by cl)) (fun i _ => by cl) (fun k hk => by cl), ?_, ?_, ?_⟩, ⟨?_, ?_, ?_, ?_, ?_, ?_, ⟨?_, ?_, ?_, ?_, ?_, ?_⟩, ⟨?_, ?_, ?_, ?_⟩, ?_, ?_, ?_, ?_, ?_⟩⟩
  · exact by cl; exact c1
  · exact by cl; exact c2
  · exact by cl; exact c3
  · exact by cl; exact c4
  · exact by cl; omega
  · exact fun k hk => by cl; exact c6 k hk
  · exact fun k => by cl; exact c7 k
  · exact fun k hk => by cl; exact c8 k hk
  · exact fun k hk => by cl; exact c9 k hk
  · exact fun k hk => by cl; exact c10 k hk
  · exact fun k => by cl; exact c11 k
  · exact fun k => by cl; exact c12 k
  · exact fun p hp => by cl; have := c13 p hp; unfold up1; split <;> omega
  · exact fun p hp => by
      revert hp; cl; intro hp; unfold up1; split
      · omega
      · exact c14 p (by omega)
  · exact fun p hp => by cl; have := c15 p hp; unfold up1; split <;> omega
  · exact fun p hp => by cl; have := c16 p hp; unfold up1; split <;> omega
  · exact fun p hp => by cl; have := c17 p hp; unfold up1; split <;> omega
  · exact fun m hm => by cl; exact c18 m hm
  · exact fun m hm => by cl; exact c19 m hm
  · exact fun m hm => by cl; exact c20 m hm
  · exact fun m hm => by cl; exact c21 m hm
  · exact fun m hm i => by
      cl
      intro hi
      have := c22 m hm i hi
      omega
  · exact fun m hm k hk => by cl; exact c23 m hm k hk
  · exact fun m hm k hk => by cl; exact c24 m hm k hk
  · exact fun m => by cl; exact h0 m
  · exact fun k => by cl; exact hf k
  · exact fun k => by cl; exact hz k
  · exact by cl; exact r1
  · exact by cl; exact r2
  · exact by cl; exact r3
  · exact by cl
  · exact by cl; exact r5
  · exact by cl; exact r6
  · exact by cl; exact k1
  · exact by cl; exact k2
  · exact by cl; exact k3
  · exact by cl; exact k4
  · exact by cl; exact k5
  · exact by cl; exact k6
  · exact by cl; rw [p1]
  · exact by cl; rw [p2]
  · exact by cl; rw [p3]
  · exact by cl; rw [p4]
  · exact fun m hm => by cl; exact m1 m hm
  · exact fun m hm => by cl; exact m2 m hm
  · exact fun m => by cl; exact m3 m
  · exact fun m hm k hk => by cl; exact m4 m hm k hk
  · exact fun m hm i => by cl; exact m5 m hm i
set_option maxHeartbeats 4000000 in
/-- fixed(k, s) -/
theorem inv_fixed {V W : Mem} (k : Nat) (s0 : Int) (hk : (k : Int) < V 2 6) (hs : 0 ≤ s0 ∧ s0 + V 3 k ≤ V 0 0) (h : inv V W) : inv (up V 5 k s0) (up (up W 0 0 0) 3 k s0) := by
  obtain ⟨⟨hok, hxt, h0, hf, hz⟩, hr⟩ := h
  have hok2 := hok
  obtain ⟨c1, c2, c3, c4, c5, c6, c7, c8, c9, c10, c11, c12, c13, c14, c15, c16, c17, c18, c19, c20, c21, c22, c23, c24⟩ := hok2
  obtain ⟨r1, r2, r3, r4, r5, r6, ⟨k1, k2, k3, k4, k5, k6⟩, ⟨p1, p2, p3, p4⟩, m1, m2, m3, m4, m5⟩ := hr
  refine ⟨⟨⟨?_, ?_, ?_, ?_, ?_, ?_, ?_, ?_, ?_, ?_, ?_, ?_, ?_, ?_, ?_, ?_, ?_, ?_, ?_, ?_, ?_, ?_, ?_, ?_⟩, fun m hm => xtra_gen hm hok (hxt m hm) (fun p hp => by cl; exact ⟨rfl, rfl, rfl, rfl, rfl⟩) (by cl; omega) (by cl) (by cl) (Or.inl (by cl)) (fun i _ => by cl) (fun k hk => by cl), ?_, ?_, ?_⟩, ⟨?_, ?_, ?_, ?_, ?_, ?_, ⟨?_, ?_, ?_, ?_, ?_, ?_⟩, ⟨?_, ?_, ?_, ?_⟩, ?_, ?_, ?_, ?_, ?_⟩⟩
  · exact by cl; exact c1
  · exact by cl; exact c2
  · exact by cl; exact c3
  · exact by cl; exact c4
  · exact by cl; exact c5
  · exact fun k hk => by cl; exact c6 k hk
  · exact fun k => by cl; exact c7 k
  · exact fun k hk => by cl; exact c8 k hk
  · exact fun j hj => by cl; have := c9 j hj; have := c7 k hk; unfold up1; split <;> omega
  · exact fun k hk => by cl; exact c10 k hk
  · exact fun k => by cl; exact c11 k
  · exact fun k => by cl; exact c12 k
  · exact fun p hp => by cl; exact c13 p hp
  · exact fun p => by cl; exact c14 p
  · exact fun p hp => by cl; exact c15 p hp
  · exact fun p hp => by cl; exact c16 p hp
  · exact fun p hp => by cl; exact c17 p hp
  · exact fun m hm => by cl; exact c18 m hm
  · exact fun m hm => by cl; exact c19 m hm
  · exact fun m hm => by cl; exact c20 m hm
  · exact fun m hm => by cl; exact c21 m hm
  · exact fun m hm i => by cl; exact c22 m hm i
  · exact fun m hm k hk => by cl; exact c23 m hm k hk
  · exact fun m hm k hk => by cl; exact c24 m hm k hk
  · exact fun m => by cl; exact h0 m
  · exact fun j => by
      cl
      intro hj
      unfold up1
      by_cases e : j = k
      · rw [if_pos e, e]; omega
      · rw [if_neg e]; exact hf j hj
  · exact fun k => by cl; exact hz k
  · exact by cl; exact r1
  · exact by cl; exact r2
  · exact by cl; exact r3
  · exact by cl; exact r4
  · exact by cl; exact r5
  · exact by cl; exact r6
  · exact by cl; exact k1
  · exact by cl; exact k2
  · exact by cl; rw [k3]
  · exact by cl; exact k4
  · exact by cl; exact k5
  · exact by cl; exact k6
  · exact by cl; exact p1
  · exact by cl; exact p2
  · exact by cl; exact p3
  · exact by cl; exact p4
  · exact fun m hm => by cl; exact m1 m hm
  · exact fun m hm => by cl; exact m2 m hm
  · exact fun m => by cl; exact m3 m
  · exact fun m hm k hk => by cl; exact m4 m hm k hk
  · exact fun m hm i => by cl; exact m5 m hm i
set_option maxHeartbeats 4000000 in
/-- refill(k, n) -/
theorem inv_refill {V W : Mem} (k : Nat) (n : Int) (hk : (k : Int) < V 2 6) (hn : 0 ≤ n ∧ n ≤ 2147483647) (h : inv V W) : inv (up V 6 k n) (up (up W 0 0 0) 4 k n) := by
  obtain ⟨⟨hok, hxt, h0, hf, hz⟩, hr⟩ := h
  have hok2 := hok
  obtain ⟨c1, c2, c3, c4, c5, c6, c7, c8, c9, c10, c11, c12, c13, c14, c15, c16, c17, c18, c19, c20, c21, c22, c23, c24⟩ := hok2
  obtain ⟨r1, r2, r3, r4, r5, r6, ⟨k1, k2, k3, k4, k5, k6⟩, ⟨p1, p2, p3, p4⟩, m1, m2, m3, m4, m5⟩ := hr
  refine ⟨⟨⟨?_, ?_, ?_, ?_, ?_, ?_, ?_, ?_, ?_, ?_, ?_, ?_, ?_, ?_, ?_, ?_, ?_, ?_, ?_, ?_, ?_, ?_, ?_, ?_⟩, fun m hm => xtra_gen hm hok (hxt m hm) (fun p hp => by cl; exact ⟨rfl, rfl, rfl, rfl, rfl⟩) (by cl; omega) (by cl) (by cl) (Or.inl (by cl)) (fun i _ => by cl) (fun k hk => by cl), ?_, ?_, ?_⟩, ⟨?_, ?_, ?_, ?_, ?_, ?_, ⟨?_, ?_, ?_, ?_, ?_, ?_⟩, ⟨?_, ?_, ?_, ?_⟩, ?_, ?_, ?_, ?_, ?_⟩⟩
  · exact by cl; exact c1
  · exact by cl; exact c2
  · exact by cl; exact c3
  · exact by cl; exact c4
  · exact by cl; exact c5
  · exact fun k hk => by cl; exact c6 k hk
  · exact fun k => by cl; exact c7 k
  · exact fun k hk => by cl; exact c8 k hk
  · exact fun k hk => by cl; exact c9 k hk
  · exact fun j hj => by cl; have := c10 j hj; unfold up1; split <;> omega
  · exact fun k => by cl; exact c11 k
  · exact fun k => by cl; exact c12 k
  · exact fun p hp => by cl; exact c13 p hp
  · exact fun p => by cl; exact c14 p
  · exact fun p hp => by cl; exact c15 p hp
  · exact fun p hp => by cl; exact c16 p hp
  · exact fun p hp => by cl; exact c17 p hp
  · exact fun m hm => by cl; exact c18 m hm
  · exact fun m hm => by cl; exact c19 m hm
  · exact fun m hm => by cl; exact c20 m hm
  · exact fun m hm => by cl; exact c21 m hm
  · exact fun m hm i => by cl; exact c22 m hm i
  · exact fun m hm k hk => by cl; exact c23 m hm k hk
  · exact fun m hm k hk => by cl; exact c24 m hm k hk
  · exact fun m => by cl; exact h0 m
  · exact fun k => by cl; exact hf k
  · exact fun k => by cl; exact hz k
  · exact by cl; exact r1
  · exact by cl; exact r2
  · exact by cl; exact r3
  · exact by cl; exact r4
  · exact by cl; exact r5
  · exact by cl; exact r6
  · exact by cl; exact k1
  · exact by cl; exact k2
  · exact by cl; exact k3
  · exact by cl; rw [k4]
  · exact by cl; exact k5
  · exact by cl; exact k6
  · exact by cl; exact p1
  · exact by cl; exact p2
  · exact by cl; exact p3
  · exact by cl; exact p4
  · exact fun m hm => by cl; exact m1 m hm
  · exact fun m hm => by cl; exact m2 m hm
  · exact fun m => by cl; exact m3 m
  · exact fun m hm k hk => by cl; exact m4 m hm k hk
  · exact fun m hm i => by cl; exact m5 m hm i
set_option maxHeartbeats 4000000 in
/-- reject(k, n, d) -/
theorem inv_reject {V W : Mem} (k : Nat) (n d : Int) (hk : (k : Int) < V 2 6) (hd : 1 ≤ d ∧ d ≤ 1000) (hn : 0 ≤ n ∧ n < d) (h : inv V W) : inv (up (up V 7 k n) 8 k d) (up (up (up W 0 0 0) 5 k n) 6 k d) := by
  obtain ⟨⟨hok, hxt, h0, hf, hz⟩, hr⟩ := h
  have hok2 := hok
  obtain ⟨c1, c2, c3, c4, c5, c6, c7, c8, c9, c10, c11, c12, c13, c14, c15, c16, c17, c18, c19, c20, c21, c22, c23, c24⟩ := hok2
  obtain ⟨r1, r2, r3, r4, r5, r6, ⟨k1, k2, k3, k4, k5, k6⟩, ⟨p1, p2, p3, p4⟩, m1, m2, m3, m4, m5⟩ := hr
  refine ⟨⟨⟨?_, ?_, ?_, ?_, ?_, ?_, ?_, ?_, ?_, ?_, ?_, ?_, ?_, ?_, ?_, ?_, ?_, ?_, ?_, ?_, ?_, ?_, ?_, ?_⟩, fun m hm => xtra_gen hm hok (hxt m hm) (fun p hp => by cl; exact ⟨rfl, rfl, rfl, rfl, rfl⟩) (by cl; omega) (by cl) (by cl) (Or.inl (by cl)) (fun i _ => by cl) (fun k hk => by cl), ?_, ?_, ?_⟩, ⟨?_, ?_, ?_, ?_, ?_, ?_, ⟨?_, ?_, ?_, ?_, ?_, ?_⟩, ⟨?_, ?_, ?_, ?_⟩, ?_, ?_, ?_, ?_, ?_⟩⟩
  · exact by cl; exact c1
  · exact by cl; exact c2
  · exact by cl; exact c3
  · exact by cl; exact c4
  · exact by cl; exact c5
  · exact fun k hk => by cl; exact c6 k hk
  · exact fun k => by cl; exact c7 k
  · exact fun k hk => by cl; exact c8 k hk
  · exact fun k hk => by cl; exact c9 k hk
  · exact fun k hk => by cl; exact c10 k hk
  · exact fun j hj => by
      revert hj; cl; intro hj; unfold up1
      by_cases e : j = k
      · rw [if_pos e, if_pos e]; exact hn
      · rw [if_neg e, if_neg e]; exact c11 j hj
  · exact fun j hj => by
      revert hj; cl; intro hj; unfold up1; split
      · exact hd
      · exact c12 j hj
  · exact fun p hp => by cl; exact c13 p hp
  · exact fun p => by cl; exact c14 p
  · exact fun p hp => by cl; exact c15 p hp
  · exact fun p hp => by cl; exact c16 p hp
  · exact fun p hp => by cl; exact c17 p hp
  · exact fun m hm => by cl; exact c18 m hm
  · exact fun m hm => by cl; exact c19 m hm
  · exact fun m hm => by cl; exact c20 m hm
  · exact fun m hm => by cl; exact c21 m hm
  · exact fun m hm i => by cl; exact c22 m hm i
  · exact fun m hm k hk => by cl; exact c23 m hm k hk
  · exact fun m hm k hk => by cl; exact c24 m hm k hk
  · exact fun m => by cl; exact h0 m
  · exact fun k => by cl; exact hf k
  · exact fun j hj => by
      cl
      intro hj2
      rw [up1_ne (by omega)]
      exact hz j hj hj2
  · exact by cl; exact r1
  · exact by cl; exact r2
  · exact by cl; exact r3
  · exact by cl; exact r4
  · exact by cl; exact r5
  · exact by cl; exact r6
  · exact by cl; exact k1
  · exact by cl; exact k2
  · exact by cl; exact k3
  · exact by cl; exact k4
  · exact by cl; rw [k5]
  · exact by cl; rw [k6]
  · exact by cl; exact p1
  · exact by cl; exact p2
  · exact by cl; exact p3
  · exact by cl; exact p4
  · exact fun m hm => by cl; exact m1 m hm
  · exact fun m hm => by cl; exact m2 m hm
  · exact fun m => by cl; exact m3 m
  · exact fun m hm k hk => by cl; exact m4 m hm k hk
  · exact fun m hm i => by cl; exact m5 m hm i
set_option maxHeartbeats 4000000 in
/-- machine(b, t) -/
theorem inv_machine {V W : Mem} (mc : Nat) (b t : Int) (hmc : V 0 8 = (mc : Int)) (hlt : mc < 3) (hb : 0 ≤ b ∧ b ≤ 255) (ht : 1 ≤ t ∧ t ≤ 6) (h : inv V W) : inv (up (up (up V (15 + 4 * mc) 3 b) (15 + 4 * mc) 4 t) 0 8 ((mc : Int) + 1)) (up (up (up (up W 0 0 0) 11 (W 0 15).toNat b) 12 (W 0 15).toNat t) 0 15 (W 0 15 + 1)) := by
  obtain ⟨⟨hok, hxt, h0, hf, hz⟩, hr⟩ := h
  have hok2 := hok
  obtain ⟨c1, c2, c3, c4, c5, c6, c7, c8, c9, c10, c11, c12, c13, c14, c15, c16, c17, c18, c19, c20, c21, c22, c23, c24⟩ := hok2
  obtain ⟨r1, r2, r3, r4, r5, r6, ⟨k1, k2, k3, k4, k5, k6⟩, ⟨p1, p2, p3, p4⟩, m1, m2, m3, m4, m5⟩ := hr
  rw [r5, hmc, show ((mc : Int)).toNat = mc from Int.toNat_natCast mc]
  refine ⟨⟨⟨?_, ?_, ?_, ?_, ?_, ?_, ?_, ?_, ?_, ?_, ?_, ?_, ?_, ?_, ?_, ?_, ?_, ?_, ?_, ?_, ?_, ?_, ?_, ?_⟩, fun m hm => xtra_gen hm hok (hxt m hm) (fun p hp => by cl; exact ⟨rfl, rfl, rfl, rfl, rfl⟩) (by cl; omega) (by
      by_cases e : m = mc
      · subst e; cl
      · cl) (by
      by_cases e : m = mc
      · subst e; cl
      · cl) (by
      by_cases e : m = mc
      · subst e; exact Or.inr (h0 m hm (by omega))
      · exact Or.inl (by cl)) (fun i _ => by cl) (fun k hk => by cl), ?_, ?_, ?_⟩, ⟨?_, ?_, ?_, ?_, ?_, ?_, ⟨?_, ?_, ?_, ?_, ?_, ?_⟩, ⟨?_, ?_, ?_, ?_⟩, ?_, ?_, ?_, ?_, ?_⟩⟩
  · exact by cl; exact c1
  · exact by cl; omega
  · exact by cl; omega
  · exact by cl; exact c4
  · exact by cl; exact c5
  · exact fun k hk => by cl; exact c6 k hk
  · exact fun k => by cl; exact c7 k
  · exact fun k hk => by cl; exact c8 k hk
  · exact fun k hk => by cl; exact c9 k hk
  · exact fun k hk => by cl; exact c10 k hk
  · exact fun k => by cl; exact c11 k
  · exact fun k => by cl; exact c12 k
  · exact fun p hp => by cl; exact c13 p hp
  · exact fun p => by cl; exact c14 p
  · exact fun p hp => by cl; exact c15 p hp
  · exact fun p hp => by cl; exact c16 p hp
  · exact fun p hp => by cl; exact c17 p hp
  · exact fun m hm => by
      by_cases e : m = mc
      · subst e; cl; exact hb
      · cl; exact c18 m hm
  · exact fun m hm => by
      by_cases e : m = mc
      · subst e; cl; exact ht
      · cl; exact c19 m hm
  · exact fun m hm => by
      by_cases e : m = mc
      · subst e; cl; exact c20 m hm
      · cl; exact c20 m hm
  · exact fun m hm => by
      by_cases e : m = mc
      · subst e; cl; exact c21 m hm
      · cl; exact c21 m hm
  · exact fun m hm i => by
      by_cases e : m = mc
      · subst e; cl; exact c22 m hm i
      · cl; exact c22 m hm i
  · exact fun m hm k hk => by cl; exact c23 m hm k hk
  · exact fun m hm k hk => by cl; exact c24 m hm k hk
  · exact fun m hm => by
      by_cases e : m = mc
      · subst e; cl; exact h0 m hm
      · cl; exact h0 m hm
  · exact fun k => by cl; exact hf k
  · exact fun k => by cl; exact hz k
  · exact by cl; exact r1
  · exact by cl; exact r2
  · exact by cl; exact r3
  · exact by cl; exact r4
  · exact by cl
  · exact by cl; exact r6
  · exact by cl; exact k1
  · exact by cl; exact k2
  · exact by cl; exact k3
  · exact by cl; exact k4
  · exact by cl; exact k5
  · exact by cl; exact k6
  · exact by cl; exact p1
  · exact by cl; exact p2
  · exact by cl; exact p3
  · exact by cl; exact p4
  · exact fun m hm => by
      by_cases e : m = mc
      · subst e; cl
      · cl; exact m1 m hm
  · exact fun m hm => by
      by_cases e : m = mc
      · subst e; cl; exact m2 m hm
      · cl; exact m2 m hm
  · exact fun m => by
      by_cases e : m = mc
      · subst e; cl; intro _; rfl
      · cl; intro hm; exact m3 m (by omega)
  · exact fun m hm k hk => by cl; exact m4 m hm k hk
  · exact fun m hm i => by
      by_cases e : m = mc
      · subst e; cl; exact m5 m hm i
      · cl; exact m5 m hm i
