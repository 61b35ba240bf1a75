/-! calls that set something keep the relation -/
theorem up_row {V : Mem} {k i : Nat} {v : Int} : up V k i v k = up1 (V k) i v := funext fun j => by
  unfold up up1
  by_cases e : j = i
  · rw [if_pos ⟨rfl, e⟩, if_pos e]
  · rw [if_neg (fun q => e q.2), if_neg e]
theorem up1_ne {r : Nat → Int} {j i : Nat} {v : Int} (h : i ≠ j) : up1 r j v i = r i := if_neg h
theorem up1_eq {r : Nat → Int} {j : Nat} {v : Int} : up1 r j v j = v := if_pos rfl
theorem up_same {V : Mem} {k i : Nat} {v : Int} (h : V k i = v) : up V k i v = V := funext fun c => funext fun j => by
  unfold up
  by_cases e : c = k ∧ j = i
  · rw [if_pos e, e.1, e.2, h]
  · rw [if_neg e]
set_option maxHeartbeats 4000000 in
/-- kind(w, z) -/
theorem inv_kind {V W : Mem} (w0 z0 : Int) (hw : 1 ≤ w0 ∧ w0 ≤ 4) (hz0 : 0 ≤ z0 ∧ z0 ≤ 7) (hlt : V 2 6 < 10) (h : inv V W) : inv (up (up (up (up (up V 3 (V 2 6).toNat w0) 4 (V 2 6).toNat z0) 5 (V 2 6).toNat (-1)) 8 (V 2 6).toNat 1) 2 6 (V 2 6 + 1)) (up (up (up (up (up (up W 0 0 0) 1 (W 0 3).toNat w0) 2 (W 0 3).toNat z0) 3 (W 0 3).toNat (-1)) 6 (W 0 3).toNat 1) 0 3 (W 0 3 + 1)) := by
  obtain ⟨⟨hok, hxt, h0, hf, hz⟩, hr⟩ := h
  have hok2 := hok
  obtain ⟨c1, c2, c3, c4, c5, c6, c7, c8, c9, c10, c11, c12, c13, c14, c15, c16, c17, c18, c19, c20, c21, c22, c23, c24⟩ := hok2
  obtain ⟨r1, r2, r3, r4, r5, r6, ⟨k1, k2, k3, k4, k5, k6⟩, ⟨p1, p2, p3, p4⟩, m1, m2, m3, m4, m5⟩ := hr
  rw [r3]
  refine ⟨⟨⟨?_, ?_, ?_, ?_, ?_, ?_, ?_, ?_, ?_, ?_, ?_, ?_, ?_, ?_, ?_, ?_, ?_, ?_, ?_, ?_, ?_, ?_, ?_, ?_⟩, fun m hm => xtra_gen hm hok (hxt m hm) (fun p hp => by
      have q := c14 p hp
      have q2 := c13 p (by omega)
      (repeat (first | rw [up_ne1 (by omega)] | rw [up_row] | rw [up1_ne (by omega)] | rw [up1_eq]))
      exact ⟨rfl, rfl, rfl, rfl, rfl⟩) (by (repeat (first | rw [up_ne1 (by omega)] | rw [up_row] | rw [up1_ne (by omega)] | rw [up1_eq])); omega) (by (repeat (first | rw [up_ne1 (by omega)] | rw [up_row] | rw [up1_ne (by omega)] | rw [up1_eq]))) (by (repeat (first | rw [up_ne1 (by omega)] | rw [up_row] | rw [up1_ne (by omega)] | rw [up1_eq]))) (Or.inl (by (repeat (first | rw [up_ne1 (by omega)] | rw [up_row] | rw [up1_ne (by omega)] | rw [up1_eq])))) (fun i _ => by (repeat (first | rw [up_ne1 (by omega)] | rw [up_row] | rw [up1_ne (by omega)] | rw [up1_eq]))) (fun k hk => by (repeat (first | rw [up_ne1 (by omega)] | rw [up_row] | rw [up1_ne (by omega)] | rw [up1_eq]))), ?_, ?_, ?_⟩, ⟨?_, ?_, ?_, ?_, ?_, ?_, ⟨?_, ?_, ?_, ?_, ?_, ?_⟩, ⟨?_, ?_, ?_, ?_⟩, ?_, ?_, ?_, ?_, ?_⟩⟩
  · exact by (repeat (first | rw [up_ne1 (by omega)] | rw [up_row] | rw [up1_ne (by omega)] | rw [up1_eq])); exact c1
  · exact by (repeat (first | rw [up_ne1 (by omega)] | rw [up_row] | rw [up1_ne (by omega)] | rw [up1_eq])); exact c2
  · exact by (repeat (first | rw [up_ne1 (by omega)] | rw [up_row] | rw [up1_ne (by omega)] | rw [up1_eq])); exact c3
  · exact by (repeat (first | rw [up_ne1 (by omega)] | rw [up_row] | rw [up1_ne (by omega)] | rw [up1_eq])); omega
  · exact by (repeat (first | rw [up_ne1 (by omega)] | rw [up_row] | rw [up1_ne (by omega)] | rw [up1_eq])); exact c5
  · exact fun k hk => by (repeat (first | rw [up_ne1 (by omega)] | rw [up_row] | rw [up1_ne (by omega)] | rw [up1_eq])); have := c6 k hk; unfold up1; split <;> omega
  · exact fun k hk => by
      revert hk; (repeat (first | rw [up_ne1 (by omega)] | rw [up_row] | rw [up1_ne (by omega)] | rw [up1_eq])); intro hk; unfold up1; split
      · omega
      · exact c7 k (by omega)
  · exact fun k hk => by (repeat (first | rw [up_ne1 (by omega)] | rw [up_row] | rw [up1_ne (by omega)] | rw [up1_eq])); have := c8 k hk; unfold up1; split <;> omega
  · exact fun k hk => by (repeat (first | rw [up_ne1 (by omega)] | rw [up_row] | rw [up1_ne (by omega)] | rw [up1_eq])); have := c9 k hk; unfold up1; split <;> omega
  · exact fun k hk => by (repeat (first | rw [up_ne1 (by omega)] | rw [up_row] | rw [up1_ne (by omega)] | rw [up1_eq])); exact c10 k hk
  · exact fun k hk => by
      revert hk; (repeat (first | rw [up_ne1 (by omega)] | rw [up_row] | rw [up1_ne (by omega)] | rw [up1_eq])); intro hk; unfold up1; split
      · have := hz k (by omega) (by omega); omega
      · exact c11 k (by omega)
  · exact fun k hk => by
      revert hk; (repeat (first | rw [up_ne1 (by omega)] | rw [up_row] | rw [up1_ne (by omega)] | rw [up1_eq])); intro hk; unfold up1; split
      · omega
      · exact c12 k (by omega)
  · exact fun p hp => by (repeat (first | rw [up_ne1 (by omega)] | rw [up_row] | rw [up1_ne (by omega)] | rw [up1_eq])); exact c13 p hp
  · exact fun p hp => by revert hp; (repeat (first | rw [up_ne1 (by omega)] | rw [up_row] | rw [up1_ne (by omega)] | rw [up1_eq])); intro hp; have := c14 p hp; omega
  · exact fun p hp => by (repeat (first | rw [up_ne1 (by omega)] | rw [up_row] | rw [up1_ne (by omega)] | rw [up1_eq])); exact c15 p hp
  · exact fun p hp => by (repeat (first | rw [up_ne1 (by omega)] | rw [up_row] | rw [up1_ne (by omega)] | rw [up1_eq])); exact c16 p hp
  · exact fun p hp => by (repeat (first | rw [up_ne1 (by omega)] | rw [up_row] | rw [up1_ne (by omega)] | rw [up1_eq])); exact c17 p hp
  · exact fun m hm => by (repeat (first | rw [up_ne1 (by omega)] | rw [up_row] | rw [up1_ne (by omega)] | rw [up1_eq])); exact c18 m hm
  · exact fun m hm => by (repeat (first | rw [up_ne1 (by omega)] | rw [up_row] | rw [up1_ne (by omega)] | rw [up1_eq])); exact c19 m hm
  · exact fun m hm => by (repeat (first | rw [up_ne1 (by omega)] | rw [up_row] | rw [up1_ne (by omega)] | rw [up1_eq])); exact c20 m hm
  · exact fun m hm => by (repeat (first | rw [up_ne1 (by omega)] | rw [up_row] | rw [up1_ne (by omega)] | rw [up1_eq])); exact c21 m hm
  · exact fun m hm i => by (repeat (first | rw [up_ne1 (by omega)] | rw [up_row] | rw [up1_ne (by omega)] | rw [up1_eq])); exact c22 m hm i
  · exact fun m hm k hk => by (repeat (first | rw [up_ne1 (by omega)] | rw [up_row] | rw [up1_ne (by omega)] | rw [up1_eq])); exact c23 m hm k hk
  · exact fun m hm k hk => by (repeat (first | rw [up_ne1 (by omega)] | rw [up_row] | rw [up1_ne (by omega)] | rw [up1_eq])); exact c24 m hm k hk
  · exact fun m => by (repeat (first | rw [up_ne1 (by omega)] | rw [up_row] | rw [up1_ne (by omega)] | rw [up1_eq])); exact h0 m
  · exact fun k => by
      (repeat (first | rw [up_ne1 (by omega)] | rw [up_row] | rw [up1_ne (by omega)] | rw [up1_eq]))
      intro hk
      unfold up1
      by_cases e : k = (V 2 6).toNat
      · rw [if_pos e, if_pos e]; omega
      · rw [if_neg e, if_neg e]; exact hf k (by omega)
  · exact fun k hk => by
      (repeat (first | rw [up_ne1 (by omega)] | rw [up_row] | rw [up1_ne (by omega)] | rw [up1_eq]))
      intro hk2
      exact hz k hk (by omega)
  · exact by (repeat (first | rw [up_ne1 (by omega)] | rw [up_row] | rw [up1_ne (by omega)] | rw [up1_eq])); exact r1
  · exact by (repeat (first | rw [up_ne1 (by omega)] | rw [up_row] | rw [up1_ne (by omega)] | rw [up1_eq])); exact r2
  · exact by (repeat (first | rw [up_ne1 (by omega)] | rw [up_row] | rw [up1_ne (by omega)] | rw [up1_eq]))
  · exact by (repeat (first | rw [up_ne1 (by omega)] | rw [up_row] | rw [up1_ne (by omega)] | rw [up1_eq])); exact r4
  · exact by (repeat (first | rw [up_ne1 (by omega)] | rw [up_row] | rw [up1_ne (by omega)] | rw [up1_eq])); exact r5
  · exact by (repeat (first | rw [up_ne1 (by omega)] | rw [up_row] | rw [up1_ne (by omega)] | rw [up1_eq])); exact r6
  · exact by (repeat (first | rw [up_ne1 (by omega)] | rw [up_row] | rw [up1_ne (by omega)] | rw [up1_eq])); rw [k1]
  · exact by (repeat (first | rw [up_ne1 (by omega)] | rw [up_row] | rw [up1_ne (by omega)] | rw [up1_eq])); rw [k2]
  · exact by (repeat (first | rw [up_ne1 (by omega)] | rw [up_row] | rw [up1_ne (by omega)] | rw [up1_eq])); rw [k3]
  · exact by (repeat (first | rw [up_ne1 (by omega)] | rw [up_row] | rw [up1_ne (by omega)] | rw [up1_eq])); exact k4
  · exact by (repeat (first | rw [up_ne1 (by omega)] | rw [up_row] | rw [up1_ne (by omega)] | rw [up1_eq])); exact k5
  · exact by (repeat (first | rw [up_ne1 (by omega)] | rw [up_row] | rw [up1_ne (by omega)] | rw [up1_eq])); rw [k6]
  · exact by (repeat (first | rw [up_ne1 (by omega)] | rw [up_row] | rw [up1_ne (by omega)] | rw [up1_eq])); exact p1
  · exact by (repeat (first | rw [up_ne1 (by omega)] | rw [up_row] | rw [up1_ne (by omega)] | rw [up1_eq])); exact p2
  · exact by (repeat (first | rw [up_ne1 (by omega)] | rw [up_row] | rw [up1_ne (by omega)] | rw [up1_eq])); exact p3
  · exact by (repeat (first | rw [up_ne1 (by omega)] | rw [up_row] | rw [up1_ne (by omega)] | rw [up1_eq])); exact p4
  · exact fun m hm => by (repeat (first | rw [up_ne1 (by omega)] | rw [up_row] | rw [up1_ne (by omega)] | rw [up1_eq])); exact m1 m hm
  · exact fun m hm => by (repeat (first | rw [up_ne1 (by omega)] | rw [up_row] | rw [up1_ne (by omega)] | rw [up1_eq])); exact m2 m hm
  · exact fun m => by (repeat (first | rw [up_ne1 (by omega)] | rw [up_row] | rw [up1_ne (by omega)] | rw [up1_eq])); exact m3 m
  · exact fun m hm k hk => by (repeat (first | rw [up_ne1 (by omega)] | rw [up_row] | rw [up1_ne (by omega)] | rw [up1_eq])); exact m4 m hm k hk
  · exact fun m hm i => by (repeat (first | rw [up_ne1 (by omega)] | rw [up_row] | rw [up1_ne (by omega)] | rw [up1_eq])); exact m5 m hm i
set_option maxHeartbeats 4000000 in
/-- part(k, x, y, h) -/
theorem inv_part {V W : Mem} (k x0 y0 z0 : Int) (hk : 0 ≤ k ∧ k < V 2 6) (hx0 : 0 ≤ x0 ∧ x0 ≤ 100000) (hy0 : 0 ≤ y0 ∧ y0 ≤ 100000) (hz0 : 0 ≤ z0 ∧ z0 ≤ 10000) (hlt : V 9 4 < 40) (h : inv V W) : inv (up (up (up (up (up V 10 (V 9 4).toNat k) 11 (V 9 4).toNat x0) 12 (V 9 4).toNat y0) 13 (V 9 4).toNat z0) 9 4 (V 9 4 + 1)) (up (up (up (up (up (up W 0 0 0) 7 (W 0 10).toNat k) 8 (W 0 10).toNat x0) 9 (W 0 10).toNat y0) 10 (W 0 10).toNat z0) 0 10 (W 0 10 + 1)) := by
  obtain ⟨⟨hok, hxt, h0, hf, hz⟩, hr⟩ := h
  have hok2 := hok
  obtain ⟨c1, c2, c3, c4, c5, c6, c7, c8, c9, c10, c11, c12, c13, c14, c15, c16, c17, c18, c19, c20, c21, c22, c23, c24⟩ := hok2
  obtain ⟨r1, r2, r3, r4, r5, r6, ⟨k1, k2, k3, k4, k5, k6⟩, ⟨p1, p2, p3, p4⟩, m1, m2, m3, m4, m5⟩ := hr
  rw [r4]
  refine ⟨⟨⟨?_, ?_, ?_, ?_, ?_, ?_, ?_, ?_, ?_, ?_, ?_, ?_, ?_, ?_, ?_, ?_, ?_, ?_, ?_, ?_, ?_, ?_, ?_, ?_⟩, fun m hm => xtra_gen hm hok (hxt m hm) (fun p hp => by (repeat (first | rw [up_ne1 (by omega)] | rw [up_row] | rw [up1_ne (by omega)] | rw [up1_eq])); exact ⟨rfl, rfl, rfl, rfl, rfl⟩) (by (repeat (first | rw [up_ne1 (by omega)] | rw [up_row] | rw [up1_ne (by omega)] | rw [up1_eq])); omega) (by (repeat (first | rw [up_ne1 (by omega)] | rw [up_row] | rw [up1_ne (by omega)] | rw [up1_eq]))) (by (repeat (first | rw [up_ne1 (by omega)] | rw [up_row] | rw [up1_ne (by omega)] | rw [up1_eq]))) (Or.inl (by (repeat (first | rw [up_ne1 (by omega)] | rw [up_row] | rw [up1_ne (by omega)] | rw [up1_eq])))) (fun i _ => by (repeat (first | rw [up_ne1 (by omega)] | rw [up_row] | rw [up1_ne (by omega)] | rw [up1_eq]))) (fun k hk => by (repeat (first | rw [up_ne1 (by omega)] | rw [up_row] | rw [up1_ne (by omega)] | rw [up1_eq]))), ?_, ?_, ?_⟩, ⟨?_, ?_, ?_, ?_, ?_, ?_, ⟨?_, ?_, ?_, ?_, ?_, ?_⟩, ⟨?_, ?_, ?_, ?_⟩, ?_, ?_, ?_, ?_, ?_⟩⟩
  · exact by (repeat (first | rw [up_ne1 (by omega)] | rw [up_row] | rw [up1_ne (by omega)] | rw [up1_eq])); exact c1
  · exact by (repeat (first | rw [up_ne1 (by omega)] | rw [up_row] | rw [up1_ne (by omega)] | rw [up1_eq])); exact c2
  · exact by (repeat (first | rw [up_ne1 (by omega)] | rw [up_row] | rw [up1_ne (by omega)] | rw [up1_eq])); exact c3
  · exact by (repeat (first | rw [up_ne1 (by omega)] | rw [up_row] | rw [up1_ne (by omega)] | rw [up1_eq])); exact c4
  · exact by (repeat (first | rw [up_ne1 (by omega)] | rw [up_row] | rw [up1_ne (by omega)] | rw [up1_eq])); omega
  · exact fun k hk => by (repeat (first | rw [up_ne1 (by omega)] | rw [up_row] | rw [up1_ne (by omega)] | rw [up1_eq])); exact c6 k hk
  · exact fun k => by (repeat (first | rw [up_ne1 (by omega)] | rw [up_row] | rw [up1_ne (by omega)] | rw [up1_eq])); exact c7 k
  · exact fun k hk => by (repeat (first | rw [up_ne1 (by omega)] | rw [up_row] | rw [up1_ne (by omega)] | rw [up1_eq])); exact c8 k hk
  · exact fun k hk => by (repeat (first | rw [up_ne1 (by omega)] | rw [up_row] | rw [up1_ne (by omega)] | rw [up1_eq])); exact c9 k hk
  · exact fun k hk => by (repeat (first | rw [up_ne1 (by omega)] | rw [up_row] | rw [up1_ne (by omega)] | rw [up1_eq])); exact c10 k hk
  · exact fun k => by (repeat (first | rw [up_ne1 (by omega)] | rw [up_row] | rw [up1_ne (by omega)] | rw [up1_eq])); exact c11 k
  · exact fun k => by (repeat (first | rw [up_ne1 (by omega)] | rw [up_row] | rw [up1_ne (by omega)] | rw [up1_eq])); exact c12 k
  · exact fun p hp => by (repeat (first | rw [up_ne1 (by omega)] | rw [up_row] | rw [up1_ne (by omega)] | rw [up1_eq])); have := c13 p hp; unfold up1; split <;> omega
  · exact fun p hp => by
      revert hp; (repeat (first | rw [up_ne1 (by omega)] | rw [up_row] | rw [up1_ne (by omega)] | rw [up1_eq])); intro hp; unfold up1; split
      · omega
      · exact c14 p (by omega)
  · exact fun p hp => by (repeat (first | rw [up_ne1 (by omega)] | rw [up_row] | rw [up1_ne (by omega)] | rw [up1_eq])); have := c15 p hp; unfold up1; split <;> omega
  · exact fun p hp => by (repeat (first | rw [up_ne1 (by omega)] | rw [up_row] | rw [up1_ne (by omega)] | rw [up1_eq])); have := c16 p hp; unfold up1; split <;> omega
  · exact fun p hp => by (repeat (first | rw [up_ne1 (by omega)] | rw [up_row] | rw [up1_ne (by omega)] | rw [up1_eq])); have := c17 p hp; unfold up1; split <;> omega
  · exact fun m hm => by (repeat (first | rw [up_ne1 (by omega)] | rw [up_row] | rw [up1_ne (by omega)] | rw [up1_eq])); exact c18 m hm
  · exact fun m hm => by (repeat (first | rw [up_ne1 (by omega)] | rw [up_row] | rw [up1_ne (by omega)] | rw [up1_eq])); exact c19 m hm
  · exact fun m hm => by (repeat (first | rw [up_ne1 (by omega)] | rw [up_row] | rw [up1_ne (by omega)] | rw [up1_eq])); exact c20 m hm
  · exact fun m hm => by (repeat (first | rw [up_ne1 (by omega)] | rw [up_row] | rw [up1_ne (by omega)] | rw [up1_eq])); exact c21 m hm
  · exact fun m hm i => by
      (repeat (first | rw [up_ne1 (by omega)] | rw [up_row] | rw [up1_ne (by omega)] | rw [up1_eq]))
      intro hi
      have := c22 m hm i hi
      omega
  · exact fun m hm k hk => by (repeat (first | rw [up_ne1 (by omega)] | rw [up_row] | rw [up1_ne (by omega)] | rw [up1_eq])); exact c23 m hm k hk
  · exact fun m hm k hk => by (repeat (first | rw [up_ne1 (by omega)] | rw [up_row] | rw [up1_ne (by omega)] | rw [up1_eq])); exact c24 m hm k hk
  · exact fun m => by (repeat (first | rw [up_ne1 (by omega)] | rw [up_row] | rw [up1_ne (by omega)] | rw [up1_eq])); exact h0 m
  · exact fun k => by (repeat (first | rw [up_ne1 (by omega)] | rw [up_row] | rw [up1_ne (by omega)] | rw [up1_eq])); exact hf k
  · exact fun k => by (repeat (first | rw [up_ne1 (by omega)] | rw [up_row] | rw [up1_ne (by omega)] | rw [up1_eq])); exact hz k
  · exact by (repeat (first | rw [up_ne1 (by omega)] | rw [up_row] | rw [up1_ne (by omega)] | rw [up1_eq])); exact r1
  · exact by (repeat (first | rw [up_ne1 (by omega)] | rw [up_row] | rw [up1_ne (by omega)] | rw [up1_eq])); exact r2
  · exact by (repeat (first | rw [up_ne1 (by omega)] | rw [up_row] | rw [up1_ne (by omega)] | rw [up1_eq])); exact r3
  · exact by (repeat (first | rw [up_ne1 (by omega)] | rw [up_row] | rw [up1_ne (by omega)] | rw [up1_eq]))
  · exact by (repeat (first | rw [up_ne1 (by omega)] | rw [up_row] | rw [up1_ne (by omega)] | rw [up1_eq])); exact r5
  · exact by (repeat (first | rw [up_ne1 (by omega)] | rw [up_row] | rw [up1_ne (by omega)] | rw [up1_eq])); exact r6
  · exact by (repeat (first | rw [up_ne1 (by omega)] | rw [up_row] | rw [up1_ne (by omega)] | rw [up1_eq])); exact k1
  · exact by (repeat (first | rw [up_ne1 (by omega)] | rw [up_row] | rw [up1_ne (by omega)] | rw [up1_eq])); exact k2
  · exact by (repeat (first | rw [up_ne1 (by omega)] | rw [up_row] | rw [up1_ne (by omega)] | rw [up1_eq])); exact k3
  · exact by (repeat (first | rw [up_ne1 (by omega)] | rw [up_row] | rw [up1_ne (by omega)] | rw [up1_eq])); exact k4
  · exact by (repeat (first | rw [up_ne1 (by omega)] | rw [up_row] | rw [up1_ne (by omega)] | rw [up1_eq])); exact k5
  · exact by (repeat (first | rw [up_ne1 (by omega)] | rw [up_row] | rw [up1_ne (by omega)] | rw [up1_eq])); exact k6
  · exact by (repeat (first | rw [up_ne1 (by omega)] | rw [up_row] | rw [up1_ne (by omega)] | rw [up1_eq])); rw [p1]
  · exact by (repeat (first | rw [up_ne1 (by omega)] | rw [up_row] | rw [up1_ne (by omega)] | rw [up1_eq])); rw [p2]
  · exact by (repeat (first | rw [up_ne1 (by omega)] | rw [up_row] | rw [up1_ne (by omega)] | rw [up1_eq])); rw [p3]
  · exact by (repeat (first | rw [up_ne1 (by omega)] | rw [up_row] | rw [up1_ne (by omega)] | rw [up1_eq])); rw [p4]
  · exact fun m hm => by (repeat (first | rw [up_ne1 (by omega)] | rw [up_row] | rw [up1_ne (by omega)] | rw [up1_eq])); exact m1 m hm
  · exact fun m hm => by (repeat (first | rw [up_ne1 (by omega)] | rw [up_row] | rw [up1_ne (by omega)] | rw [up1_eq])); exact m2 m hm
  · exact fun m => by (repeat (first | rw [up_ne1 (by omega)] | rw [up_row] | rw [up1_ne (by omega)] | rw [up1_eq])); exact m3 m
  · exact fun m hm k hk => by (repeat (first | rw [up_ne1 (by omega)] | rw [up_row] | rw [up1_ne (by omega)] | rw [up1_eq])); exact m4 m hm k hk
  · exact fun m hm i => by (repeat (first | rw [up_ne1 (by omega)] | rw [up_row] | rw [up1_ne (by omega)] | rw [up1_eq])); exact m5 m hm i
set_option maxHeartbeats 4000000 in
/-- fixed(k, s) -/
theorem inv_fixed {V W : Mem} (k : Nat) (s0 : Int) (hk : (k : Int) < V 2 6) (hs : 0 ≤ s0 ∧ s0 + V 3 k ≤ V 0 0) (h : inv V W) : inv (up V 5 k s0) (up (up W 0 0 0) 3 k s0) := by
  obtain ⟨⟨hok, hxt, h0, hf, hz⟩, hr⟩ := h
  have hok2 := hok
  obtain ⟨c1, c2, c3, c4, c5, c6, c7, c8, c9, c10, c11, c12, c13, c14, c15, c16, c17, c18, c19, c20, c21, c22, c23, c24⟩ := hok2
  obtain ⟨r1, r2, r3, r4, r5, r6, ⟨k1, k2, k3, k4, k5, k6⟩, ⟨p1, p2, p3, p4⟩, m1, m2, m3, m4, m5⟩ := hr
  refine ⟨⟨⟨?_, ?_, ?_, ?_, ?_, ?_, ?_, ?_, ?_, ?_, ?_, ?_, ?_, ?_, ?_, ?_, ?_, ?_, ?_, ?_, ?_, ?_, ?_, ?_⟩, fun m hm => xtra_gen hm hok (hxt m hm) (fun p hp => by (repeat (first | rw [up_ne1 (by omega)] | rw [up_row] | rw [up1_ne (by omega)] | rw [up1_eq])); exact ⟨rfl, rfl, rfl, rfl, rfl⟩) (by (repeat (first | rw [up_ne1 (by omega)] | rw [up_row] | rw [up1_ne (by omega)] | rw [up1_eq])); omega) (by (repeat (first | rw [up_ne1 (by omega)] | rw [up_row] | rw [up1_ne (by omega)] | rw [up1_eq]))) (by (repeat (first | rw [up_ne1 (by omega)] | rw [up_row] | rw [up1_ne (by omega)] | rw [up1_eq]))) (Or.inl (by (repeat (first | rw [up_ne1 (by omega)] | rw [up_row] | rw [up1_ne (by omega)] | rw [up1_eq])))) (fun i _ => by (repeat (first | rw [up_ne1 (by omega)] | rw [up_row] | rw [up1_ne (by omega)] | rw [up1_eq]))) (fun k hk => by (repeat (first | rw [up_ne1 (by omega)] | rw [up_row] | rw [up1_ne (by omega)] | rw [up1_eq]))), ?_, ?_, ?_⟩, ⟨?_, ?_, ?_, ?_, ?_, ?_, ⟨?_, ?_, ?_, ?_, ?_, ?_⟩, ⟨?_, ?_, ?_, ?_⟩, ?_, ?_, ?_, ?_, ?_⟩⟩
  · exact by (repeat (first | rw [up_ne1 (by omega)] | rw [up_row] | rw [up1_ne (by omega)] | rw [up1_eq])); exact c1
  · exact by (repeat (first | rw [up_ne1 (by omega)] | rw [up_row] | rw [up1_ne (by omega)] | rw [up1_eq])); exact c2
  · exact by (repeat (first | rw [up_ne1 (by omega)] | rw [up_row] | rw [up1_ne (by omega)] | rw [up1_eq])); exact c3
  · exact by (repeat (first | rw [up_ne1 (by omega)] | rw [up_row] | rw [up1_ne (by omega)] | rw [up1_eq])); exact c4
  · exact by (repeat (first | rw [up_ne1 (by omega)] | rw [up_row] | rw [up1_ne (by omega)] | rw [up1_eq])); exact c5
  · exact fun k hk => by (repeat (first | rw [up_ne1 (by omega)] | rw [up_row] | rw [up1_ne (by omega)] | rw [up1_eq])); exact c6 k hk
  · exact fun k => by (repeat (first | rw [up_ne1 (by omega)] | rw [up_row] | rw [up1_ne (by omega)] | rw [up1_eq])); exact c7 k
  · exact fun k hk => by (repeat (first | rw [up_ne1 (by omega)] | rw [up_row] | rw [up1_ne (by omega)] | rw [up1_eq])); exact c8 k hk
  · exact fun j hj => by (repeat (first | rw [up_ne1 (by omega)] | rw [up_row] | rw [up1_ne (by omega)] | rw [up1_eq])); have := c9 j hj; have := c7 k hk; unfold up1; split <;> omega
  · exact fun k hk => by (repeat (first | rw [up_ne1 (by omega)] | rw [up_row] | rw [up1_ne (by omega)] | rw [up1_eq])); exact c10 k hk
  · exact fun k => by (repeat (first | rw [up_ne1 (by omega)] | rw [up_row] | rw [up1_ne (by omega)] | rw [up1_eq])); exact c11 k
  · exact fun k => by (repeat (first | rw [up_ne1 (by omega)] | rw [up_row] | rw [up1_ne (by omega)] | rw [up1_eq])); exact c12 k
  · exact fun p hp => by (repeat (first | rw [up_ne1 (by omega)] | rw [up_row] | rw [up1_ne (by omega)] | rw [up1_eq])); exact c13 p hp
  · exact fun p => by (repeat (first | rw [up_ne1 (by omega)] | rw [up_row] | rw [up1_ne (by omega)] | rw [up1_eq])); exact c14 p
  · exact fun p hp => by (repeat (first | rw [up_ne1 (by omega)] | rw [up_row] | rw [up1_ne (by omega)] | rw [up1_eq])); exact c15 p hp
  · exact fun p hp => by (repeat (first | rw [up_ne1 (by omega)] | rw [up_row] | rw [up1_ne (by omega)] | rw [up1_eq])); exact c16 p hp
  · exact fun p hp => by (repeat (first | rw [up_ne1 (by omega)] | rw [up_row] | rw [up1_ne (by omega)] | rw [up1_eq])); exact c17 p hp
  · exact fun m hm => by (repeat (first | rw [up_ne1 (by omega)] | rw [up_row] | rw [up1_ne (by omega)] | rw [up1_eq])); exact c18 m hm
  · exact fun m hm => by (repeat (first | rw [up_ne1 (by omega)] | rw [up_row] | rw [up1_ne (by omega)] | rw [up1_eq])); exact c19 m hm
  · exact fun m hm => by (repeat (first | rw [up_ne1 (by omega)] | rw [up_row] | rw [up1_ne (by omega)] | rw [up1_eq])); exact c20 m hm
  · exact fun m hm => by (repeat (first | rw [up_ne1 (by omega)] | rw [up_row] | rw [up1_ne (by omega)] | rw [up1_eq])); exact c21 m hm
  · exact fun m hm i => by (repeat (first | rw [up_ne1 (by omega)] | rw [up_row] | rw [up1_ne (by omega)] | rw [up1_eq])); exact c22 m hm i
  · exact fun m hm k hk => by (repeat (first | rw [up_ne1 (by omega)] | rw [up_row] | rw [up1_ne (by omega)] | rw [up1_eq])); exact c23 m hm k hk
  · exact fun m hm k hk => by (repeat (first | rw [up_ne1 (by omega)] | rw [up_row] | rw [up1_ne (by omega)] | rw [up1_eq])); exact c24 m hm k hk
  · exact fun m => by (repeat (first | rw [up_ne1 (by omega)] | rw [up_row] | rw [up1_ne (by omega)] | rw [up1_eq])); exact h0 m
  · exact fun j => by
      (repeat (first | rw [up_ne1 (by omega)] | rw [up_row] | rw [up1_ne (by omega)] | rw [up1_eq]))
      intro hj
      unfold up1
      by_cases e : j = k
      · rw [if_pos e, e]; omega
      · rw [if_neg e]; exact hf j hj
  · exact fun k => by (repeat (first | rw [up_ne1 (by omega)] | rw [up_row] | rw [up1_ne (by omega)] | rw [up1_eq])); exact hz k
  · exact by (repeat (first | rw [up_ne1 (by omega)] | rw [up_row] | rw [up1_ne (by omega)] | rw [up1_eq])); exact r1
  · exact by (repeat (first | rw [up_ne1 (by omega)] | rw [up_row] | rw [up1_ne (by omega)] | rw [up1_eq])); exact r2
  · exact by (repeat (first | rw [up_ne1 (by omega)] | rw [up_row] | rw [up1_ne (by omega)] | rw [up1_eq])); exact r3
  · exact by (repeat (first | rw [up_ne1 (by omega)] | rw [up_row] | rw [up1_ne (by omega)] | rw [up1_eq])); exact r4
  · exact by (repeat (first | rw [up_ne1 (by omega)] | rw [up_row] | rw [up1_ne (by omega)] | rw [up1_eq])); exact r5
  · exact by (repeat (first | rw [up_ne1 (by omega)] | rw [up_row] | rw [up1_ne (by omega)] | rw [up1_eq])); exact r6
  · exact by (repeat (first | rw [up_ne1 (by omega)] | rw [up_row] | rw [up1_ne (by omega)] | rw [up1_eq])); exact k1
  · exact by (repeat (first | rw [up_ne1 (by omega)] | rw [up_row] | rw [up1_ne (by omega)] | rw [up1_eq])); exact k2
  · exact by (repeat (first | rw [up_ne1 (by omega)] | rw [up_row] | rw [up1_ne (by omega)] | rw [up1_eq])); rw [k3]
  · exact by (repeat (first | rw [up_ne1 (by omega)] | rw [up_row] | rw [up1_ne (by omega)] | rw [up1_eq])); exact k4
  · exact by (repeat (first | rw [up_ne1 (by omega)] | rw [up_row] | rw [up1_ne (by omega)] | rw [up1_eq])); exact k5
  · exact by (repeat (first | rw [up_ne1 (by omega)] | rw [up_row] | rw [up1_ne (by omega)] | rw [up1_eq])); exact k6
  · exact by (repeat (first | rw [up_ne1 (by omega)] | rw [up_row] | rw [up1_ne (by omega)] | rw [up1_eq])); exact p1
  · exact by (repeat (first | rw [up_ne1 (by omega)] | rw [up_row] | rw [up1_ne (by omega)] | rw [up1_eq])); exact p2
  · exact by (repeat (first | rw [up_ne1 (by omega)] | rw [up_row] | rw [up1_ne (by omega)] | rw [up1_eq])); exact p3
  · exact by (repeat (first | rw [up_ne1 (by omega)] | rw [up_row] | rw [up1_ne (by omega)] | rw [up1_eq])); exact p4
  · exact fun m hm => by (repeat (first | rw [up_ne1 (by omega)] | rw [up_row] | rw [up1_ne (by omega)] | rw [up1_eq])); exact m1 m hm
  · exact fun m hm => by (repeat (first | rw [up_ne1 (by omega)] | rw [up_row] | rw [up1_ne (by omega)] | rw [up1_eq])); exact m2 m hm
  · exact fun m => by (repeat (first | rw [up_ne1 (by omega)] | rw [up_row] | rw [up1_ne (by omega)] | rw [up1_eq])); exact m3 m
  · exact fun m hm k hk => by (repeat (first | rw [up_ne1 (by omega)] | rw [up_row] | rw [up1_ne (by omega)] | rw [up1_eq])); exact m4 m hm k hk
  · exact fun m hm i => by (repeat (first | rw [up_ne1 (by omega)] | rw [up_row] | rw [up1_ne (by omega)] | rw [up1_eq])); exact m5 m hm i
set_option maxHeartbeats 4000000 in
/-- refill(k, n) -/
theorem inv_refill {V W : Mem} (k : Nat) (n : Int) (hk : (k : Int) < V 2 6) (hn : 0 ≤ n ∧ n ≤ 2147483647) (h : inv V W) : inv (up V 6 k n) (up (up W 0 0 0) 4 k n) := by
  obtain ⟨⟨hok, hxt, h0, hf, hz⟩, hr⟩ := h
  have hok2 := hok
  obtain ⟨c1, c2, c3, c4, c5, c6, c7, c8, c9, c10, c11, c12, c13, c14, c15, c16, c17, c18, c19, c20, c21, c22, c23, c24⟩ := hok2
  obtain ⟨r1, r2, r3, r4, r5, r6, ⟨k1, k2, k3, k4, k5, k6⟩, ⟨p1, p2, p3, p4⟩, m1, m2, m3, m4, m5⟩ := hr
  refine ⟨⟨⟨?_, ?_, ?_, ?_, ?_, ?_, ?_, ?_, ?_, ?_, ?_, ?_, ?_, ?_, ?_, ?_, ?_, ?_, ?_, ?_, ?_, ?_, ?_, ?_⟩, fun m hm => xtra_gen hm hok (hxt m hm) (fun p hp => by (repeat (first | rw [up_ne1 (by omega)] | rw [up_row] | rw [up1_ne (by omega)] | rw [up1_eq])); exact ⟨rfl, rfl, rfl, rfl, rfl⟩) (by (repeat (first | rw [up_ne1 (by omega)] | rw [up_row] | rw [up1_ne (by omega)] | rw [up1_eq])); omega) (by (repeat (first | rw [up_ne1 (by omega)] | rw [up_row] | rw [up1_ne (by omega)] | rw [up1_eq]))) (by (repeat (first | rw [up_ne1 (by omega)] | rw [up_row] | rw [up1_ne (by omega)] | rw [up1_eq]))) (Or.inl (by (repeat (first | rw [up_ne1 (by omega)] | rw [up_row] | rw [up1_ne (by omega)] | rw [up1_eq])))) (fun i _ => by (repeat (first | rw [up_ne1 (by omega)] | rw [up_row] | rw [up1_ne (by omega)] | rw [up1_eq]))) (fun k hk => by (repeat (first | rw [up_ne1 (by omega)] | rw [up_row] | rw [up1_ne (by omega)] | rw [up1_eq]))), ?_, ?_, ?_⟩, ⟨?_, ?_, ?_, ?_, ?_, ?_, ⟨?_, ?_, ?_, ?_, ?_, ?_⟩, ⟨?_, ?_, ?_, ?_⟩, ?_, ?_, ?_, ?_, ?_⟩⟩
  · exact by (repeat (first | rw [up_ne1 (by omega)] | rw [up_row] | rw [up1_ne (by omega)] | rw [up1_eq])); exact c1
  · exact by (repeat (first | rw [up_ne1 (by omega)] | rw [up_row] | rw [up1_ne (by omega)] | rw [up1_eq])); exact c2
  · exact by (repeat (first | rw [up_ne1 (by omega)] | rw [up_row] | rw [up1_ne (by omega)] | rw [up1_eq])); exact c3
  · exact by (repeat (first | rw [up_ne1 (by omega)] | rw [up_row] | rw [up1_ne (by omega)] | rw [up1_eq])); exact c4
  · exact by (repeat (first | rw [up_ne1 (by omega)] | rw [up_row] | rw [up1_ne (by omega)] | rw [up1_eq])); exact c5
  · exact fun k hk => by (repeat (first | rw [up_ne1 (by omega)] | rw [up_row] | rw [up1_ne (by omega)] | rw [up1_eq])); exact c6 k hk
  · exact fun k => by (repeat (first | rw [up_ne1 (by omega)] | rw [up_row] | rw [up1_ne (by omega)] | rw [up1_eq])); exact c7 k
  · exact fun k hk => by (repeat (first | rw [up_ne1 (by omega)] | rw [up_row] | rw [up1_ne (by omega)] | rw [up1_eq])); exact c8 k hk
  · exact fun k hk => by (repeat (first | rw [up_ne1 (by omega)] | rw [up_row] | rw [up1_ne (by omega)] | rw [up1_eq])); exact c9 k hk
  · exact fun j hj => by (repeat (first | rw [up_ne1 (by omega)] | rw [up_row] | rw [up1_ne (by omega)] | rw [up1_eq])); have := c10 j hj; unfold up1; split <;> omega
  · exact fun k => by (repeat (first | rw [up_ne1 (by omega)] | rw [up_row] | rw [up1_ne (by omega)] | rw [up1_eq])); exact c11 k
  · exact fun k => by (repeat (first | rw [up_ne1 (by omega)] | rw [up_row] | rw [up1_ne (by omega)] | rw [up1_eq])); exact c12 k
  · exact fun p hp => by (repeat (first | rw [up_ne1 (by omega)] | rw [up_row] | rw [up1_ne (by omega)] | rw [up1_eq])); exact c13 p hp
  · exact fun p => by (repeat (first | rw [up_ne1 (by omega)] | rw [up_row] | rw [up1_ne (by omega)] | rw [up1_eq])); exact c14 p
  · exact fun p hp => by (repeat (first | rw [up_ne1 (by omega)] | rw [up_row] | rw [up1_ne (by omega)] | rw [up1_eq])); exact c15 p hp
  · exact fun p hp => by (repeat (first | rw [up_ne1 (by omega)] | rw [up_row] | rw [up1_ne (by omega)] | rw [up1_eq])); exact c16 p hp
  · exact fun p hp => by (repeat (first | rw [up_ne1 (by omega)] | rw [up_row] | rw [up1_ne (by omega)] | rw [up1_eq])); exact c17 p hp
  · exact fun m hm => by (repeat (first | rw [up_ne1 (by omega)] | rw [up_row] | rw [up1_ne (by omega)] | rw [up1_eq])); exact c18 m hm
  · exact fun m hm => by (repeat (first | rw [up_ne1 (by omega)] | rw [up_row] | rw [up1_ne (by omega)] | rw [up1_eq])); exact c19 m hm
  · exact fun m hm => by (repeat (first | rw [up_ne1 (by omega)] | rw [up_row] | rw [up1_ne (by omega)] | rw [up1_eq])); exact c20 m hm
  · exact fun m hm => by (repeat (first | rw [up_ne1 (by omega)] | rw [up_row] | rw [up1_ne (by omega)] | rw [up1_eq])); exact c21 m hm
  · exact fun m hm i => by (repeat (first | rw [up_ne1 (by omega)] | rw [up_row] | rw [up1_ne (by omega)] | rw [up1_eq])); exact c22 m hm i
  · exact fun m hm k hk => by (repeat (first | rw [up_ne1 (by omega)] | rw [up_row] | rw [up1_ne (by omega)] | rw [up1_eq])); exact c23 m hm k hk
  · exact fun m hm k hk => by (repeat (first | rw [up_ne1 (by omega)] | rw [up_row] | rw [up1_ne (by omega)] | rw [up1_eq])); exact c24 m hm k hk
  · exact fun m => by (repeat (first | rw [up_ne1 (by omega)] | rw [up_row] | rw [up1_ne (by omega)] | rw [up1_eq])); exact h0 m
  · exact fun k => by (repeat (first | rw [up_ne1 (by omega)] | rw [up_row] | rw [up1_ne (by omega)] | rw [up1_eq])); exact hf k
  · exact fun k => by (repeat (first | rw [up_ne1 (by omega)] | rw [up_row] | rw [up1_ne (by omega)] | rw [up1_eq])); exact hz k
  · exact by (repeat (first | rw [up_ne1 (by omega)] | rw [up_row] | rw [up1_ne (by omega)] | rw [up1_eq])); exact r1
  · exact by (repeat (first | rw [up_ne1 (by omega)] | rw [up_row] | rw [up1_ne (by omega)] | rw [up1_eq])); exact r2
  · exact by (repeat (first | rw [up_ne1 (by omega)] | rw [up_row] | rw [up1_ne (by omega)] | rw [up1_eq])); exact r3
  · exact by (repeat (first | rw [up_ne1 (by omega)] | rw [up_row] | rw [up1_ne (by omega)] | rw [up1_eq])); exact r4
  · exact by (repeat (first | rw [up_ne1 (by omega)] | rw [up_row] | rw [up1_ne (by omega)] | rw [up1_eq])); exact r5
  · exact by (repeat (first | rw [up_ne1 (by omega)] | rw [up_row] | rw [up1_ne (by omega)] | rw [up1_eq])); exact r6
  · exact by (repeat (first | rw [up_ne1 (by omega)] | rw [up_row] | rw [up1_ne (by omega)] | rw [up1_eq])); exact k1
  · exact by (repeat (first | rw [up_ne1 (by omega)] | rw [up_row] | rw [up1_ne (by omega)] | rw [up1_eq])); exact k2
  · exact by (repeat (first | rw [up_ne1 (by omega)] | rw [up_row] | rw [up1_ne (by omega)] | rw [up1_eq])); exact k3
  · exact by (repeat (first | rw [up_ne1 (by omega)] | rw [up_row] | rw [up1_ne (by omega)] | rw [up1_eq])); rw [k4]
  · exact by (repeat (first | rw [up_ne1 (by omega)] | rw [up_row] | rw [up1_ne (by omega)] | rw [up1_eq])); exact k5
  · exact by (repeat (first | rw [up_ne1 (by omega)] | rw [up_row] | rw [up1_ne (by omega)] | rw [up1_eq])); exact k6
  · exact by (repeat (first | rw [up_ne1 (by omega)] | rw [up_row] | rw [up1_ne (by omega)] | rw [up1_eq])); exact p1
  · exact by (repeat (first | rw [up_ne1 (by omega)] | rw [up_row] | rw [up1_ne (by omega)] | rw [up1_eq])); exact p2
  · exact by (repeat (first | rw [up_ne1 (by omega)] | rw [up_row] | rw [up1_ne (by omega)] | rw [up1_eq])); exact p3
  · exact by (repeat (first | rw [up_ne1 (by omega)] | rw [up_row] | rw [up1_ne (by omega)] | rw [up1_eq])); exact p4
  · exact fun m hm => by (repeat (first | rw [up_ne1 (by omega)] | rw [up_row] | rw [up1_ne (by omega)] | rw [up1_eq])); exact m1 m hm
  · exact fun m hm => by (repeat (first | rw [up_ne1 (by omega)] | rw [up_row] | rw [up1_ne (by omega)] | rw [up1_eq])); exact m2 m hm
  · exact fun m => by (repeat (first | rw [up_ne1 (by omega)] | rw [up_row] | rw [up1_ne (by omega)] | rw [up1_eq])); exact m3 m
  · exact fun m hm k hk => by (repeat (first | rw [up_ne1 (by omega)] | rw [up_row] | rw [up1_ne (by omega)] | rw [up1_eq])); exact m4 m hm k hk
  · exact fun m hm i => by (repeat (first | rw [up_ne1 (by omega)] | rw [up_row] | rw [up1_ne (by omega)] | rw [up1_eq])); exact m5 m hm i
set_option maxHeartbeats 4000000 in
/-- reject(k, n, d) -/
theorem inv_reject {V W : Mem} (k : Nat) (n d : Int) (hk : (k : Int) < V 2 6) (hd : 1 ≤ d ∧ d ≤ 1000) (hn : 0 ≤ n ∧ n < d) (h : inv V W) : inv (up (up V 7 k n) 8 k d) (up (up (up W 0 0 0) 5 k n) 6 k d) := by
  obtain ⟨⟨hok, hxt, h0, hf, hz⟩, hr⟩ := h
  have hok2 := hok
  obtain ⟨c1, c2, c3, c4, c5, c6, c7, c8, c9, c10, c11, c12, c13, c14, c15, c16, c17, c18, c19, c20, c21, c22, c23, c24⟩ := hok2
  obtain ⟨r1, r2, r3, r4, r5, r6, ⟨k1, k2, k3, k4, k5, k6⟩, ⟨p1, p2, p3, p4⟩, m1, m2, m3, m4, m5⟩ := hr
  refine ⟨⟨⟨?_, ?_, ?_, ?_, ?_, ?_, ?_, ?_, ?_, ?_, ?_, ?_, ?_, ?_, ?_, ?_, ?_, ?_, ?_, ?_, ?_, ?_, ?_, ?_⟩, fun m hm => xtra_gen hm hok (hxt m hm) (fun p hp => by (repeat (first | rw [up_ne1 (by omega)] | rw [up_row] | rw [up1_ne (by omega)] | rw [up1_eq])); exact ⟨rfl, rfl, rfl, rfl, rfl⟩) (by (repeat (first | rw [up_ne1 (by omega)] | rw [up_row] | rw [up1_ne (by omega)] | rw [up1_eq])); omega) (by (repeat (first | rw [up_ne1 (by omega)] | rw [up_row] | rw [up1_ne (by omega)] | rw [up1_eq]))) (by (repeat (first | rw [up_ne1 (by omega)] | rw [up_row] | rw [up1_ne (by omega)] | rw [up1_eq]))) (Or.inl (by (repeat (first | rw [up_ne1 (by omega)] | rw [up_row] | rw [up1_ne (by omega)] | rw [up1_eq])))) (fun i _ => by (repeat (first | rw [up_ne1 (by omega)] | rw [up_row] | rw [up1_ne (by omega)] | rw [up1_eq]))) (fun k hk => by (repeat (first | rw [up_ne1 (by omega)] | rw [up_row] | rw [up1_ne (by omega)] | rw [up1_eq]))), ?_, ?_, ?_⟩, ⟨?_, ?_, ?_, ?_, ?_, ?_, ⟨?_, ?_, ?_, ?_, ?_, ?_⟩, ⟨?_, ?_, ?_, ?_⟩, ?_, ?_, ?_, ?_, ?_⟩⟩
  · exact by (repeat (first | rw [up_ne1 (by omega)] | rw [up_row] | rw [up1_ne (by omega)] | rw [up1_eq])); exact c1
  · exact by (repeat (first | rw [up_ne1 (by omega)] | rw [up_row] | rw [up1_ne (by omega)] | rw [up1_eq])); exact c2
  · exact by (repeat (first | rw [up_ne1 (by omega)] | rw [up_row] | rw [up1_ne (by omega)] | rw [up1_eq])); exact c3
  · exact by (repeat (first | rw [up_ne1 (by omega)] | rw [up_row] | rw [up1_ne (by omega)] | rw [up1_eq])); exact c4
  · exact by (repeat (first | rw [up_ne1 (by omega)] | rw [up_row] | rw [up1_ne (by omega)] | rw [up1_eq])); exact c5
  · exact fun k hk => by (repeat (first | rw [up_ne1 (by omega)] | rw [up_row] | rw [up1_ne (by omega)] | rw [up1_eq])); exact c6 k hk
  · exact fun k => by (repeat (first | rw [up_ne1 (by omega)] | rw [up_row] | rw [up1_ne (by omega)] | rw [up1_eq])); exact c7 k
  · exact fun k hk => by (repeat (first | rw [up_ne1 (by omega)] | rw [up_row] | rw [up1_ne (by omega)] | rw [up1_eq])); exact c8 k hk
  · exact fun k hk => by (repeat (first | rw [up_ne1 (by omega)] | rw [up_row] | rw [up1_ne (by omega)] | rw [up1_eq])); exact c9 k hk
  · exact fun k hk => by (repeat (first | rw [up_ne1 (by omega)] | rw [up_row] | rw [up1_ne (by omega)] | rw [up1_eq])); exact c10 k hk
  · exact fun j hj => by
      revert hj; (repeat (first | rw [up_ne1 (by omega)] | rw [up_row] | rw [up1_ne (by omega)] | rw [up1_eq])); intro hj; unfold up1
      by_cases e : j = k
      · rw [if_pos e, if_pos e]; exact hn
      · rw [if_neg e, if_neg e]; exact c11 j hj
  · exact fun j hj => by
      revert hj; (repeat (first | rw [up_ne1 (by omega)] | rw [up_row] | rw [up1_ne (by omega)] | rw [up1_eq])); intro hj; unfold up1; split
      · exact hd
      · exact c12 j hj
  · exact fun p hp => by (repeat (first | rw [up_ne1 (by omega)] | rw [up_row] | rw [up1_ne (by omega)] | rw [up1_eq])); exact c13 p hp
  · exact fun p => by (repeat (first | rw [up_ne1 (by omega)] | rw [up_row] | rw [up1_ne (by omega)] | rw [up1_eq])); exact c14 p
  · exact fun p hp => by (repeat (first | rw [up_ne1 (by omega)] | rw [up_row] | rw [up1_ne (by omega)] | rw [up1_eq])); exact c15 p hp
  · exact fun p hp => by (repeat (first | rw [up_ne1 (by omega)] | rw [up_row] | rw [up1_ne (by omega)] | rw [up1_eq])); exact c16 p hp
  · exact fun p hp => by (repeat (first | rw [up_ne1 (by omega)] | rw [up_row] | rw [up1_ne (by omega)] | rw [up1_eq])); exact c17 p hp
  · exact fun m hm => by (repeat (first | rw [up_ne1 (by omega)] | rw [up_row] | rw [up1_ne (by omega)] | rw [up1_eq])); exact c18 m hm
  · exact fun m hm => by (repeat (first | rw [up_ne1 (by omega)] | rw [up_row] | rw [up1_ne (by omega)] | rw [up1_eq])); exact c19 m hm
  · exact fun m hm => by (repeat (first | rw [up_ne1 (by omega)] | rw [up_row] | rw [up1_ne (by omega)] | rw [up1_eq])); exact c20 m hm
  · exact fun m hm => by (repeat (first | rw [up_ne1 (by omega)] | rw [up_row] | rw [up1_ne (by omega)] | rw [up1_eq])); exact c21 m hm
  · exact fun m hm i => by (repeat (first | rw [up_ne1 (by omega)] | rw [up_row] | rw [up1_ne (by omega)] | rw [up1_eq])); exact c22 m hm i
  · exact fun m hm k hk => by (repeat (first | rw [up_ne1 (by omega)] | rw [up_row] | rw [up1_ne (by omega)] | rw [up1_eq])); exact c23 m hm k hk
  · exact fun m hm k hk => by (repeat (first | rw [up_ne1 (by omega)] | rw [up_row] | rw [up1_ne (by omega)] | rw [up1_eq])); exact c24 m hm k hk
  · exact fun m => by (repeat (first | rw [up_ne1 (by omega)] | rw [up_row] | rw [up1_ne (by omega)] | rw [up1_eq])); exact h0 m
  · exact fun k => by (repeat (first | rw [up_ne1 (by omega)] | rw [up_row] | rw [up1_ne (by omega)] | rw [up1_eq])); exact hf k
  · exact fun j hj => by
      (repeat (first | rw [up_ne1 (by omega)] | rw [up_row] | rw [up1_ne (by omega)] | rw [up1_eq]))
      intro hj2
      rw [up1_ne (by omega)]
      exact hz j hj hj2
  · exact by (repeat (first | rw [up_ne1 (by omega)] | rw [up_row] | rw [up1_ne (by omega)] | rw [up1_eq])); exact r1
  · exact by (repeat (first | rw [up_ne1 (by omega)] | rw [up_row] | rw [up1_ne (by omega)] | rw [up1_eq])); exact r2
  · exact by (repeat (first | rw [up_ne1 (by omega)] | rw [up_row] | rw [up1_ne (by omega)] | rw [up1_eq])); exact r3
  · exact by (repeat (first | rw [up_ne1 (by omega)] | rw [up_row] | rw [up1_ne (by omega)] | rw [up1_eq])); exact r4
  · exact by (repeat (first | rw [up_ne1 (by omega)] | rw [up_row] | rw [up1_ne (by omega)] | rw [up1_eq])); exact r5
  · exact by (repeat (first | rw [up_ne1 (by omega)] | rw [up_row] | rw [up1_ne (by omega)] | rw [up1_eq])); exact r6
  · exact by (repeat (first | rw [up_ne1 (by omega)] | rw [up_row] | rw [up1_ne (by omega)] | rw [up1_eq])); exact k1
  · exact by (repeat (first | rw [up_ne1 (by omega)] | rw [up_row] | rw [up1_ne (by omega)] | rw [up1_eq])); exact k2
  · exact by (repeat (first | rw [up_ne1 (by omega)] | rw [up_row] | rw [up1_ne (by omega)] | rw [up1_eq])); exact k3
  · exact by (repeat (first | rw [up_ne1 (by omega)] | rw [up_row] | rw [up1_ne (by omega)] | rw [up1_eq])); exact k4
  · exact by (repeat (first | rw [up_ne1 (by omega)] | rw [up_row] | rw [up1_ne (by omega)] | rw [up1_eq])); rw [k5]
  · exact by (repeat (first | rw [up_ne1 (by omega)] | rw [up_row] | rw [up1_ne (by omega)] | rw [up1_eq])); rw [k6]
  · exact by (repeat (first | rw [up_ne1 (by omega)] | rw [up_row] | rw [up1_ne (by omega)] | rw [up1_eq])); exact p1
  · exact by (repeat (first | rw [up_ne1 (by omega)] | rw [up_row] | rw [up1_ne (by omega)] | rw [up1_eq])); exact p2
  · exact by (repeat (first | rw [up_ne1 (by omega)] | rw [up_row] | rw [up1_ne (by omega)] | rw [up1_eq])); exact p3
  · exact by (repeat (first | rw [up_ne1 (by omega)] | rw [up_row] | rw [up1_ne (by omega)] | rw [up1_eq])); exact p4
  · exact fun m hm => by (repeat (first | rw [up_ne1 (by omega)] | rw [up_row] | rw [up1_ne (by omega)] | rw [up1_eq])); exact m1 m hm
  · exact fun m hm => by (repeat (first | rw [up_ne1 (by omega)] | rw [up_row] | rw [up1_ne (by omega)] | rw [up1_eq])); exact m2 m hm
  · exact fun m => by (repeat (first | rw [up_ne1 (by omega)] | rw [up_row] | rw [up1_ne (by omega)] | rw [up1_eq])); exact m3 m
  · exact fun m hm k hk => by (repeat (first | rw [up_ne1 (by omega)] | rw [up_row] | rw [up1_ne (by omega)] | rw [up1_eq])); exact m4 m hm k hk
  · exact fun m hm i => by (repeat (first | rw [up_ne1 (by omega)] | rw [up_row] | rw [up1_ne (by omega)] | rw [up1_eq])); exact m5 m hm i
set_option maxHeartbeats 4000000 in
/-- machine(b, t) -/
theorem inv_machine {V W : Mem} (mc : Nat) (b t : Int) (hmc : V 0 8 = (mc : Int)) (hlt : mc < 3) (hb : 0 ≤ b ∧ b ≤ 255) (ht : 1 ≤ t ∧ t ≤ 6) (h : inv V W) : inv (up (up (up V (15 + 4 * mc) 3 b) (15 + 4 * mc) 4 t) 0 8 ((mc : Int) + 1)) (up (up (up (up W 0 0 0) 11 (W 0 15).toNat b) 12 (W 0 15).toNat t) 0 15 (W 0 15 + 1)) := by
  obtain ⟨⟨hok, hxt, h0, hf, hz⟩, hr⟩ := h
  have hok2 := hok
  obtain ⟨c1, c2, c3, c4, c5, c6, c7, c8, c9, c10, c11, c12, c13, c14, c15, c16, c17, c18, c19, c20, c21, c22, c23, c24⟩ := hok2
  obtain ⟨r1, r2, r3, r4, r5, r6, ⟨k1, k2, k3, k4, k5, k6⟩, ⟨p1, p2, p3, p4⟩, m1, m2, m3, m4, m5⟩ := hr
  rw [r5, hmc, show ((mc : Int)).toNat = mc from Int.toNat_natCast mc]
  refine ⟨⟨⟨?_, ?_, ?_, ?_, ?_, ?_, ?_, ?_, ?_, ?_, ?_, ?_, ?_, ?_, ?_, ?_, ?_, ?_, ?_, ?_, ?_, ?_, ?_, ?_⟩, fun m hm => xtra_gen hm hok (hxt m hm) (fun p hp => by (repeat (first | rw [up_ne1 (by omega)] | rw [up_row] | rw [up1_ne (by omega)] | rw [up1_eq])); exact ⟨rfl, rfl, rfl, rfl, rfl⟩) (by (repeat (first | rw [up_ne1 (by omega)] | rw [up_row] | rw [up1_ne (by omega)] | rw [up1_eq])); omega) (by
      by_cases e : m = mc
      · subst e; (repeat (first | rw [up_ne1 (by omega)] | rw [up_row] | rw [up1_ne (by omega)] | rw [up1_eq]))
      · (repeat (first | rw [up_ne1 (by omega)] | rw [up_row] | rw [up1_ne (by omega)] | rw [up1_eq]))) (by
      by_cases e : m = mc
      · subst e; (repeat (first | rw [up_ne1 (by omega)] | rw [up_row] | rw [up1_ne (by omega)] | rw [up1_eq]))
      · (repeat (first | rw [up_ne1 (by omega)] | rw [up_row] | rw [up1_ne (by omega)] | rw [up1_eq]))) (by
      by_cases e : m = mc
      · subst e; exact Or.inr (h0 m hm (by omega))
      · exact Or.inl (by (repeat (first | rw [up_ne1 (by omega)] | rw [up_row] | rw [up1_ne (by omega)] | rw [up1_eq])))) (fun i _ => by (repeat (first | rw [up_ne1 (by omega)] | rw [up_row] | rw [up1_ne (by omega)] | rw [up1_eq]))) (fun k hk => by (repeat (first | rw [up_ne1 (by omega)] | rw [up_row] | rw [up1_ne (by omega)] | rw [up1_eq]))), ?_, ?_, ?_⟩, ⟨?_, ?_, ?_, ?_, ?_, ?_, ⟨?_, ?_, ?_, ?_, ?_, ?_⟩, ⟨?_, ?_, ?_, ?_⟩, ?_, ?_, ?_, ?_, ?_⟩⟩
  · exact by (repeat (first | rw [up_ne1 (by omega)] | rw [up_row] | rw [up1_ne (by omega)] | rw [up1_eq])); exact c1
  · exact by (repeat (first | rw [up_ne1 (by omega)] | rw [up_row] | rw [up1_ne (by omega)] | rw [up1_eq])); omega
  · exact by (repeat (first | rw [up_ne1 (by omega)] | rw [up_row] | rw [up1_ne (by omega)] | rw [up1_eq])); omega
  · exact by (repeat (first | rw [up_ne1 (by omega)] | rw [up_row] | rw [up1_ne (by omega)] | rw [up1_eq])); exact c4
  · exact by (repeat (first | rw [up_ne1 (by omega)] | rw [up_row] | rw [up1_ne (by omega)] | rw [up1_eq])); exact c5
  · exact fun k hk => by (repeat (first | rw [up_ne1 (by omega)] | rw [up_row] | rw [up1_ne (by omega)] | rw [up1_eq])); exact c6 k hk
  · exact fun k => by (repeat (first | rw [up_ne1 (by omega)] | rw [up_row] | rw [up1_ne (by omega)] | rw [up1_eq])); exact c7 k
  · exact fun k hk => by (repeat (first | rw [up_ne1 (by omega)] | rw [up_row] | rw [up1_ne (by omega)] | rw [up1_eq])); exact c8 k hk
  · exact fun k hk => by (repeat (first | rw [up_ne1 (by omega)] | rw [up_row] | rw [up1_ne (by omega)] | rw [up1_eq])); exact c9 k hk
  · exact fun k hk => by (repeat (first | rw [up_ne1 (by omega)] | rw [up_row] | rw [up1_ne (by omega)] | rw [up1_eq])); exact c10 k hk
  · exact fun k => by (repeat (first | rw [up_ne1 (by omega)] | rw [up_row] | rw [up1_ne (by omega)] | rw [up1_eq])); exact c11 k
  · exact fun k => by (repeat (first | rw [up_ne1 (by omega)] | rw [up_row] | rw [up1_ne (by omega)] | rw [up1_eq])); exact c12 k
  · exact fun p hp => by (repeat (first | rw [up_ne1 (by omega)] | rw [up_row] | rw [up1_ne (by omega)] | rw [up1_eq])); exact c13 p hp
  · exact fun p => by (repeat (first | rw [up_ne1 (by omega)] | rw [up_row] | rw [up1_ne (by omega)] | rw [up1_eq])); exact c14 p
  · exact fun p hp => by (repeat (first | rw [up_ne1 (by omega)] | rw [up_row] | rw [up1_ne (by omega)] | rw [up1_eq])); exact c15 p hp
  · exact fun p hp => by (repeat (first | rw [up_ne1 (by omega)] | rw [up_row] | rw [up1_ne (by omega)] | rw [up1_eq])); exact c16 p hp
  · exact fun p hp => by (repeat (first | rw [up_ne1 (by omega)] | rw [up_row] | rw [up1_ne (by omega)] | rw [up1_eq])); exact c17 p hp
  · exact fun m hm => by
      by_cases e : m = mc
      · subst e; (repeat (first | rw [up_ne1 (by omega)] | rw [up_row] | rw [up1_ne (by omega)] | rw [up1_eq])); exact hb
      · (repeat (first | rw [up_ne1 (by omega)] | rw [up_row] | rw [up1_ne (by omega)] | rw [up1_eq])); exact c18 m hm
  · exact fun m hm => by
      by_cases e : m = mc
      · subst e; (repeat (first | rw [up_ne1 (by omega)] | rw [up_row] | rw [up1_ne (by omega)] | rw [up1_eq])); exact ht
      · (repeat (first | rw [up_ne1 (by omega)] | rw [up_row] | rw [up1_ne (by omega)] | rw [up1_eq])); exact c19 m hm
  · exact fun m hm => by
      by_cases e : m = mc
      · subst e; (repeat (first | rw [up_ne1 (by omega)] | rw [up_row] | rw [up1_ne (by omega)] | rw [up1_eq])); exact c20 m hm
      · (repeat (first | rw [up_ne1 (by omega)] | rw [up_row] | rw [up1_ne (by omega)] | rw [up1_eq])); exact c20 m hm
  · exact fun m hm => by
      by_cases e : m = mc
      · subst e; (repeat (first | rw [up_ne1 (by omega)] | rw [up_row] | rw [up1_ne (by omega)] | rw [up1_eq])); exact c21 m hm
      · (repeat (first | rw [up_ne1 (by omega)] | rw [up_row] | rw [up1_ne (by omega)] | rw [up1_eq])); exact c21 m hm
  · exact fun m hm i => by
      by_cases e : m = mc
      · subst e; (repeat (first | rw [up_ne1 (by omega)] | rw [up_row] | rw [up1_ne (by omega)] | rw [up1_eq])); exact c22 m hm i
      · (repeat (first | rw [up_ne1 (by omega)] | rw [up_row] | rw [up1_ne (by omega)] | rw [up1_eq])); exact c22 m hm i
  · exact fun m hm k hk => by (repeat (first | rw [up_ne1 (by omega)] | rw [up_row] | rw [up1_ne (by omega)] | rw [up1_eq])); exact c23 m hm k hk
  · exact fun m hm k hk => by (repeat (first | rw [up_ne1 (by omega)] | rw [up_row] | rw [up1_ne (by omega)] | rw [up1_eq])); exact c24 m hm k hk
  · exact fun m hm => by
      by_cases e : m = mc
      · subst e; (repeat (first | rw [up_ne1 (by omega)] | rw [up_row] | rw [up1_ne (by omega)] | rw [up1_eq])); exact h0 m hm
      · (repeat (first | rw [up_ne1 (by omega)] | rw [up_row] | rw [up1_ne (by omega)] | rw [up1_eq])); exact h0 m hm
  · exact fun k => by (repeat (first | rw [up_ne1 (by omega)] | rw [up_row] | rw [up1_ne (by omega)] | rw [up1_eq])); exact hf k
  · exact fun k => by (repeat (first | rw [up_ne1 (by omega)] | rw [up_row] | rw [up1_ne (by omega)] | rw [up1_eq])); exact hz k
  · exact by (repeat (first | rw [up_ne1 (by omega)] | rw [up_row] | rw [up1_ne (by omega)] | rw [up1_eq])); exact r1
  · exact by (repeat (first | rw [up_ne1 (by omega)] | rw [up_row] | rw [up1_ne (by omega)] | rw [up1_eq])); exact r2
  · exact by (repeat (first | rw [up_ne1 (by omega)] | rw [up_row] | rw [up1_ne (by omega)] | rw [up1_eq])); exact r3
  · exact by (repeat (first | rw [up_ne1 (by omega)] | rw [up_row] | rw [up1_ne (by omega)] | rw [up1_eq])); exact r4
  · exact by (repeat (first | rw [up_ne1 (by omega)] | rw [up_row] | rw [up1_ne (by omega)] | rw [up1_eq]))
  · exact by (repeat (first | rw [up_ne1 (by omega)] | rw [up_row] | rw [up1_ne (by omega)] | rw [up1_eq])); exact r6
  · exact by (repeat (first | rw [up_ne1 (by omega)] | rw [up_row] | rw [up1_ne (by omega)] | rw [up1_eq])); exact k1
  · exact by (repeat (first | rw [up_ne1 (by omega)] | rw [up_row] | rw [up1_ne (by omega)] | rw [up1_eq])); exact k2
  · exact by (repeat (first | rw [up_ne1 (by omega)] | rw [up_row] | rw [up1_ne (by omega)] | rw [up1_eq])); exact k3
  · exact by (repeat (first | rw [up_ne1 (by omega)] | rw [up_row] | rw [up1_ne (by omega)] | rw [up1_eq])); exact k4
  · exact by (repeat (first | rw [up_ne1 (by omega)] | rw [up_row] | rw [up1_ne (by omega)] | rw [up1_eq])); exact k5
  · exact by (repeat (first | rw [up_ne1 (by omega)] | rw [up_row] | rw [up1_ne (by omega)] | rw [up1_eq])); exact k6
  · exact by (repeat (first | rw [up_ne1 (by omega)] | rw [up_row] | rw [up1_ne (by omega)] | rw [up1_eq])); exact p1
  · exact by (repeat (first | rw [up_ne1 (by omega)] | rw [up_row] | rw [up1_ne (by omega)] | rw [up1_eq])); exact p2
  · exact by (repeat (first | rw [up_ne1 (by omega)] | rw [up_row] | rw [up1_ne (by omega)] | rw [up1_eq])); exact p3
  · exact by (repeat (first | rw [up_ne1 (by omega)] | rw [up_row] | rw [up1_ne (by omega)] | rw [up1_eq])); exact p4
  · exact fun m hm => by
      by_cases e : m = mc
      · subst e; (repeat (first | rw [up_ne1 (by omega)] | rw [up_row] | rw [up1_ne (by omega)] | rw [up1_eq]))
      · (repeat (first | rw [up_ne1 (by omega)] | rw [up_row] | rw [up1_ne (by omega)] | rw [up1_eq])); exact m1 m hm
  · exact fun m hm => by
      by_cases e : m = mc
      · subst e; (repeat (first | rw [up_ne1 (by omega)] | rw [up_row] | rw [up1_ne (by omega)] | rw [up1_eq])); exact m2 m hm
      · (repeat (first | rw [up_ne1 (by omega)] | rw [up_row] | rw [up1_ne (by omega)] | rw [up1_eq])); exact m2 m hm
  · exact fun m => by
      by_cases e : m = mc
      · subst e; (repeat (first | rw [up_ne1 (by omega)] | rw [up_row] | rw [up1_ne (by omega)] | rw [up1_eq])); intro _; rfl
      · (repeat (first | rw [up_ne1 (by omega)] | rw [up_row] | rw [up1_ne (by omega)] | rw [up1_eq])); intro hm; exact m3 m (by omega)
  · exact fun m hm k hk => by (repeat (first | rw [up_ne1 (by omega)] | rw [up_row] | rw [up1_ne (by omega)] | rw [up1_eq])); exact m4 m hm k hk
  · exact fun m hm i => by
      by_cases e : m = mc
      · subst e; (repeat (first | rw [up_ne1 (by omega)] | rw [up_row] | rw [up1_ne (by omega)] | rw [up1_eq])); exact m5 m hm i
      · (repeat (first | rw [up_ne1 (by omega)] | rw [up_row] | rw [up1_ne (by omega)] | rw [up1_eq])); exact m5 m hm i
