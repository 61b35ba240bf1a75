/-! the answers, side by side -/
set_option maxHeartbeats 4000000 in
theorem ans_kind {V W V' W' : Mem} {z z' : Int} (w0 z0 : Int) (hw : 1 ≤ w0 ∧ w0 ≤ 4) (hz0 : 0 ≤ z0 ∧ z0 ≤ 7) (h : inv V W) (hC : (10 ≤ V 2 6 ∧ z = -1 ∧ V' = V) ∨ (V 2 6 < 10 ∧ z = V 2 6 ∧ V' = up (up (up (up (up V 3 (V 2 6).toNat w0) 4 (V 2 6).toNat z0) 5 (V 2 6).toNat (-1)) 8 (V 2 6).toNat 1) 2 6 (V 2 6 + 1))) (hR : (W 0 3 = 10 ∧ z' = -1 ∧ W' = up W 0 0 0) ∨ (W 0 3 < 10 ∧ z' = W 0 3 ∧ W' = up (up (up (up (up (up W 0 0 0) 1 (W 0 3).toNat w0) 2 (W 0 3).toNat z0) 3 (W 0 3).toNat (-1)) 6 (W 0 3).toNat 1) 0 3 (W 0 3 + 1))) : z = z' ∧ inv V' W' ∧ W' 0 0 = 0 ∧ (-2147483648 ≤ z ∧ z ≤ 2147483647) := by
  have h' := h
  obtain ⟨⟨hok, hxt, h0, hf, hz⟩, hrel⟩ := h'
  obtain ⟨r1, r2, r3, r4, r5, r6, ⟨k1, k2, k3, k4, k5, k6⟩, ⟨p1, p2, p3, p4⟩, m1, m2, m3, m4, m5⟩ := hrel
  obtain ⟨c1, c2, c3, c4, c5, c6, c7, c8, c9, c10, c11, c12, c13, c14, c15, c16, c17, c18, c19, c20, c21, c22, c23, c24⟩ := hok
  rcases hC with ⟨a1, a2, a3⟩ | ⟨a1, a2, a3⟩
  · rcases hR with ⟨b1, b2, b3⟩ | ⟨b1, b2, b3⟩
    · rw [a2, b2, a3, b3]; exact ⟨rfl, inv_thr h, up_eq, by omega⟩
    · omega
  · rcases hR with ⟨b1, b2, b3⟩ | ⟨b1, b2, b3⟩
    · omega
    · rw [a2, b2, a3, b3]
      exact ⟨r3.symm, inv_kind w0 z0 hw hz0 a1 h, rfl, by omega⟩
set_option maxHeartbeats 4000000 in
theorem ans_part {V W V' W' : Mem} {z z' : Int} (k x0 y0 h0 : Int) (hk : 0 ≤ k ∧ k < V 2 6) (hx : 0 ≤ x0 ∧ x0 ≤ 100000) (hy : 0 ≤ y0 ∧ y0 ≤ 100000) (hh : 0 ≤ h0 ∧ h0 ≤ 10000) (h : inv V W) (hC : (40 ≤ V 9 4 ∧ z = -1 ∧ V' = V) ∨ (V 9 4 < 40 ∧ z = V 9 4 ∧ V' = up (up (up (up (up V 10 (V 9 4).toNat k) 11 (V 9 4).toNat x0) 12 (V 9 4).toNat y0) 13 (V 9 4).toNat h0) 9 4 (V 9 4 + 1))) (hR : (W 0 10 = 40 ∧ z' = -1 ∧ W' = up W 0 0 0) ∨ (W 0 10 < 40 ∧ z' = W 0 10 ∧ W' = up (up (up (up (up (up W 0 0 0) 7 (W 0 10).toNat k) 8 (W 0 10).toNat x0) 9 (W 0 10).toNat y0) 10 (W 0 10).toNat h0) 0 10 (W 0 10 + 1))) : z = z' ∧ inv V' W' ∧ W' 0 0 = 0 ∧ (-2147483648 ≤ z ∧ z ≤ 2147483647) := by
  have h' := h
  obtain ⟨⟨hok, hxt, h0q, hf, hz⟩, hrel⟩ := h'
  obtain ⟨r1, r2, r3, r4, r5, r6, ⟨k1, k2, k3, k4, k5, k6⟩, ⟨p1, p2, p3, p4⟩, m1, m2, m3, m4, m5⟩ := hrel
  obtain ⟨c1, c2, c3, c4, c5, c6, c7, c8, c9, c10, c11, c12, c13, c14, c15, c16, c17, c18, c19, c20, c21, c22, c23, c24⟩ := hok
  rcases hC with ⟨a1, a2, a3⟩ | ⟨a1, a2, a3⟩
  · rcases hR with ⟨b1, b2, b3⟩ | ⟨b1, b2, b3⟩
    · rw [a2, b2, a3, b3]; exact ⟨rfl, inv_thr h, up_eq, by omega⟩
    · omega
  · rcases hR with ⟨b1, b2, b3⟩ | ⟨b1, b2, b3⟩
    · omega
    · rw [a2, b2, a3, b3]
      exact ⟨r4.symm, inv_part k x0 y0 h0 hk hx hy hh a1 h, rfl, by omega⟩
set_option maxHeartbeats 4000000 in
theorem ans_machine {V W V' W' : Mem} {z z' : Int} (b t : Int) (mc : Nat) (hmc : V 0 8 = (mc : Int)) (hb : 0 ≤ b ∧ b ≤ 255) (ht : 1 ≤ t ∧ t ≤ 6) (h : inv V W) (hC : (3 ≤ mc ∧ z = -1 ∧ V' = V) ∨ (mc < 3 ∧ z = (mc : Int) ∧ V' = up (up (up V (15 + 4 * mc) 3 b) (15 + 4 * mc) 4 t) 0 8 ((mc : Int) + 1))) (hR : (W 0 15 = 3 ∧ z' = -1 ∧ W' = up W 0 0 0) ∨ (W 0 15 < 3 ∧ z' = W 0 15 ∧ W' = up (up (up (up W 0 0 0) 11 (W 0 15).toNat b) 12 (W 0 15).toNat t) 0 15 (W 0 15 + 1))) : z = z' ∧ inv V' W' ∧ W' 0 0 = 0 ∧ (-2147483648 ≤ z ∧ z ≤ 2147483647) := by
  have h' := h
  obtain ⟨⟨hok, hxt, h0, hf, hz⟩, hrel⟩ := h'
  obtain ⟨r1, r2, r3, r4, r5, r6, ⟨k1, k2, k3, k4, k5, k6⟩, ⟨p1, p2, p3, p4⟩, m1, m2, m3, m4, m5⟩ := hrel
  obtain ⟨c1, c2, c3, c4, c5, c6, c7, c8, c9, c10, c11, c12, c13, c14, c15, c16, c17, c18, c19, c20, c21, c22, c23, c24⟩ := hok
  rcases hC with ⟨a1, a2, a3⟩ | ⟨a1, a2, a3⟩
  · rcases hR with ⟨b1, b2, b3⟩ | ⟨b1, b2, b3⟩
    · rw [a2, b2, a3, b3]; exact ⟨rfl, inv_thr h, up_eq, by omega⟩
    · omega
  · rcases hR with ⟨b1, b2, b3⟩ | ⟨b1, b2, b3⟩
    · omega
    · rw [a2, b2, a3, b3]
      exact ⟨by omega, inv_machine mc b t hmc a1 hb ht h, rfl, by omega⟩
set_option maxHeartbeats 4000000 in
theorem ans_fixed {V W V' W' : Mem} {z z' : Int} (k : Nat) (s0 : Int) (hk : (k : Int) < V 2 6) (hs : 0 ≤ s0 ∧ s0 < V 0 0) (h : inv V W) (hC : (z = 1 ∧ (V 5 k = -1 ∧ s0 + V 3 k ≤ V 0 0 ∧ free (V 5) (V 3) (V 2 6).toNat s0 (V 3 k)) ∧ V' = up V 5 k s0) ∨ (z = 0 ∧ ¬ (V 5 k = -1 ∧ s0 + V 3 k ≤ V 0 0 ∧ free (V 5) (V 3) (V 2 6).toNat s0 (V 3 k)) ∧ V' = V)) (hR : (z' = 1 ∧ (W 3 k = -1 ∧ s0 + W 1 k ≤ W 0 2 ∧ free (W 3) (W 1) (W 0 3).toNat s0 (W 1 k)) ∧ W' = up (up W 0 0 0) 3 k s0) ∨ (z' = 0 ∧ ¬ (W 3 k = -1 ∧ s0 + W 1 k ≤ W 0 2 ∧ free (W 3) (W 1) (W 0 3).toNat s0 (W 1 k)) ∧ W' = up W 0 0 0)) : z = z' ∧ inv V' W' ∧ W' 0 0 = 0 ∧ (-2147483648 ≤ z ∧ z ≤ 2147483647) := by
  have h' := h
  obtain ⟨⟨hok, hxt, h0, hf, hz⟩, hrel⟩ := h'
  obtain ⟨r1, r2, r3, r4, r5, r6, ⟨k1, k2, k3, k4, k5, k6⟩, ⟨p1, p2, p3, p4⟩, m1, m2, m3, m4, m5⟩ := hrel
  obtain ⟨c1, c2, c3, c4, c5, c6, c7, c8, c9, c10, c11, c12, c13, c14, c15, c16, c17, c18, c19, c20, c21, c22, c23, c24⟩ := hok
  rw [k1, k3, r2, r3] at hR
  rcases hC with ⟨a1, a2, a3⟩ | ⟨a1, a2, a3⟩
  · rcases hR with ⟨b1, b2, b3⟩ | ⟨b1, b2, b3⟩
    · rw [a1, b1, a3, b3]; exact ⟨rfl, inv_fixed k s0 hk ⟨hs.1, a2.2.1⟩ h, rfl, by omega⟩
    · exact absurd a2 b2
  · rcases hR with ⟨b1, b2, b3⟩ | ⟨b1, b2, b3⟩
    · exact absurd b2 a2
    · rw [a1, b1, a3, b3]; exact ⟨rfl, inv_thr h, up_eq, by omega⟩
set_option maxHeartbeats 4000000 in
theorem ans_slot {V W V' W' : Mem} {z z' : Int} (m k : Nat) (hm : (m : Int) < V 0 8) (hk : (k : Int) < V 2 6) (h : inv V W) (hC : z = V (15 + 4 * m + 2) k ∧ V' = V) (hR : z' = W 13 (10 * m + k) ∧ W' = up W 0 0 0) : z = z' ∧ inv V' W' ∧ W' 0 0 = 0 ∧ (-2147483648 ≤ z ∧ z ≤ 2147483647) := by
  have h' := h
  obtain ⟨⟨hok, hxt, h0, hf, hz⟩, hrel⟩ := h'
  obtain ⟨r1, r2, r3, r4, r5, r6, ⟨k1, k2, k3, k4, k5, k6⟩, ⟨p1, p2, p3, p4⟩, m1, m2, m3, m4, m5⟩ := hrel
  obtain ⟨c1, c2, c3, c4, c5, c6, c7, c8, c9, c10, c11, c12, c13, c14, c15, c16, c17, c18, c19, c20, c21, c22, c23, c24⟩ := hok
  have q := c23 m (by omega) k (by omega)
  rw [hC.1, hR.1, hC.2, hR.2, m4 m (by omega) k (by omega)]
  exact ⟨rfl, inv_thr h, up_eq, by omega⟩
set_option maxHeartbeats 4000000 in
theorem ans_order {V W V' W' : Mem} {z z' : Int} (m : Nat) (i : Int) (hm : (m : Int) < V 0 8) (h : inv V W) (hC : z = (if 0 ≤ i ∧ i < V (15 + 4 * m) 5 then V (15 + 4 * m + 1) i.toNat else -1) ∧ V' = V) (hR : z' = (if 0 ≤ i ∧ i < W 14 m then W 15 (40 * m + i.toNat) else -1) ∧ W' = up W 0 0 0) : z = z' ∧ inv V' W' ∧ W' 0 0 = 0 ∧ (-2147483648 ≤ z ∧ z ≤ 2147483647) := by
  have h' := h
  obtain ⟨⟨hok, hxt, h0, hf, hz⟩, hrel⟩ := h'
  obtain ⟨r1, r2, r3, r4, r5, r6, ⟨k1, k2, k3, k4, k5, k6⟩, ⟨p1, p2, p3, p4⟩, m1, m2, m3, m4, m5⟩ := hrel
  obtain ⟨c1, c2, c3, c4, c5, c6, c7, c8, c9, c10, c11, c12, c13, c14, c15, c16, c17, c18, c19, c20, c21, c22, c23, c24⟩ := hok
  have hm3 : m < 3 := by omega
  have q20 := c20 m hm3
  rw [m2 m hm3] at hR
  rw [hC.2, hR.2]
  by_cases c : 0 ≤ i ∧ i < V (15 + 4 * m) 5
  · rw [if_pos c] at hC hR
    have q := c22 m hm3 i.toNat (by omega)
    rw [hC.1, hR.1, m5 m hm3 i.toNat (by omega)]
    exact ⟨rfl, inv_thr h, up_eq, by omega⟩
  · rw [if_neg c] at hC hR
    rw [hC.1, hR.1]
    exact ⟨rfl, inv_thr h, up_eq, by omega⟩
set_option maxHeartbeats 4000000 in
theorem ans_trip {V W V' W' : Mem} {z z' : Int} (m : Nat) (p : Int) (hm : (m : Int) < V 0 8) (h : inv V W) (hC : z = (if plc (V (15 + 4 * m + 1)) p (V (15 + 4 * m) 5).toNat = -1 then -1 else plc (V (15 + 4 * m + 1)) p (V (15 + 4 * m) 5).toNat / V (15 + 4 * m) 4) ∧ V' = V) (hR : z' = (if plc (fun i => W 15 (40 * m + i)) p (W 14 m).toNat = -1 then -1 else plc (fun i => W 15 (40 * m + i)) p (W 14 m).toNat / W 12 m) ∧ W' = up W 0 0 0) : z = z' ∧ inv V' W' ∧ W' 0 0 = 0 ∧ (-2147483648 ≤ z ∧ z ≤ 2147483647) := by
  have h' := h
  obtain ⟨⟨hok, hxt, h0, hf, hz⟩, hrel⟩ := h'
  obtain ⟨r1, r2, r3, r4, r5, r6, ⟨k1, k2, k3, k4, k5, k6⟩, ⟨p1, p2, p3, p4⟩, m1, m2, m3, m4, m5⟩ := hrel
  obtain ⟨c1, c2, c3, c4, c5, c6, c7, c8, c9, c10, c11, c12, c13, c14, c15, c16, c17, c18, c19, c20, c21, c22, c23, c24⟩ := hok
  have hm3 : m < 3 := by omega
  have q20 := c20 m hm3
  have q19 := c19 m hm3
  rw [m2 m hm3, m3 m hm, plc_congr (f' := V (15 + 4 * m + 1)) (fun i hi => m5 m hm3 i (by omega))] at hR
  rw [hC.1, hR.1, hC.2, hR.2]
  refine ⟨rfl, inv_thr h, up_eq, ?_⟩
  have q := @plc_in (V (15 + 4 * m + 1)) p (V (15 + 4 * m) 5).toNat
  by_cases c : plc (V (15 + 4 * m + 1)) p (V (15 + 4 * m) 5).toNat = -1
  · rw [if_pos c]; omega
  · rw [if_neg c]
    have q1 := Int.ediv_nonneg (a := plc (V (15 + 4 * m + 1)) p (V (15 + 4 * m) 5).toNat) (b := V (15 + 4 * m) 4) (by omega) (by omega)
    have q2 := Int.ediv_le_self (a := plc (V (15 + 4 * m + 1)) p (V (15 + 4 * m) 5).toNat) (V (15 + 4 * m) 4) (by omega)
    omega
set_option maxHeartbeats 4000000 in
theorem ans_proved {V W V' W' : Mem} {z z' : Int} (us : Nat) (hus : V 0 9 = (us : Int)) (h : inv V W) (hC : ((z = 1 ∧ ∀ m, m < us → V (15 + 4 * m) 5 ≤ V (15 + 4 * m) 4) ∨ (z = 0 ∧ ¬ ∀ m, m < us → V (15 + 4 * m) 5 ≤ V (15 + 4 * m) 4)) ∧ V' = V) (hR : ((z' = 1 ∧ ∀ m, m < us → W 14 m ≤ W 12 m) ∨ (z' = 0 ∧ ¬ (∀ m, m < us → W 14 m ≤ W 12 m))) ∧ W' = up W 0 0 0) : z = z' ∧ inv V' W' ∧ W' 0 0 = 0 ∧ (-2147483648 ≤ z ∧ z ≤ 2147483647) := by
  have h' := h
  obtain ⟨⟨hok, hxt, h0, hf, hz⟩, hrel⟩ := h'
  obtain ⟨r1, r2, r3, r4, r5, r6, ⟨k1, k2, k3, k4, k5, k6⟩, ⟨p1, p2, p3, p4⟩, m1, m2, m3, m4, m5⟩ := hrel
  obtain ⟨c1, c2, c3, c4, c5, c6, c7, c8, c9, c10, c11, c12, c13, c14, c15, c16, c17, c18, c19, c20, c21, c22, c23, c24⟩ := hok
  have e : (∀ m, m < us → W 14 m ≤ W 12 m) ↔ (∀ m, m < us → V (15 + 4 * m) 5 ≤ V (15 + 4 * m) 4) := by
    constructor
    · intro q m hm
      have := q m hm
      rw [m2 m (by omega), m3 m (by omega)] at this
      exact this
    · intro q m hm
      rw [m2 m (by omega), m3 m (by omega)]
      exact q m hm
  rw [e] at hR
  rw [hC.2, hR.2]
  refine ⟨?_, inv_thr h, up_eq, ?_⟩
  · rcases hC.1 with ⟨a1, a2⟩ | ⟨a1, a2⟩ <;> rcases hR.1 with ⟨b1, b2⟩ | ⟨b1, b2⟩
    · omega
    · exact absurd a2 b2
    · exact absurd b2 a2
    · omega
  · rcases hC.1 with ⟨a1, a2⟩ | ⟨a1, a2⟩ <;> omega
set_option maxHeartbeats 4000000 in
theorem ans_machineOf {V W V' W' : Mem} {z z' : Int} (p : Int) (us : Nat) (hus : V 0 9 = (us : Int)) (h : inv V W) (hC : z = hst (fun m => plc (V (15 + 4 * m + 1)) p (V (15 + 4 * m) 5).toNat) us ∧ V' = V) (hR : z' = hst (fun m => plc (fun i => W 15 (40 * m + i)) p (W 14 m).toNat) us ∧ W' = up W 0 0 0) : z = z' ∧ inv V' W' ∧ W' 0 0 = 0 ∧ (-2147483648 ≤ z ∧ z ≤ 2147483647) := by
  have h' := h
  obtain ⟨⟨hok, hxt, h0, hf, hz⟩, hrel⟩ := h'
  obtain ⟨r1, r2, r3, r4, r5, r6, ⟨k1, k2, k3, k4, k5, k6⟩, ⟨p1, p2, p3, p4⟩, m1, m2, m3, m4, m5⟩ := hrel
  obtain ⟨c1, c2, c3, c4, c5, c6, c7, c8, c9, c10, c11, c12, c13, c14, c15, c16, c17, c18, c19, c20, c21, c22, c23, c24⟩ := hok
  have H : ∀ b : Int, hst (fun m => plc (fun i => W 15 (40 * m + i)) b (W 14 m).toNat) us = hst (fun m => plc (V (15 + 4 * m + 1)) b (V (15 + 4 * m) 5).toNat) us := fun b => hst_congr (fun m hm => by
    show plc (fun i => W 15 (40 * m + i)) b (W 14 m).toNat = plc (V (15 + 4 * m + 1)) b (V (15 + 4 * m) 5).toNat
    rw [m2 m (by omega)]
    exact plc_congr (fun i hi => m5 m (by omega) i (by omega)))
  rw [H] at hR
  rw [hC.1, hR.1, hC.2, hR.2]
  have := @hst_in (fun m => plc (V (15 + 4 * m + 1)) p (V (15 + 4 * m) 5).toNat) us
  exact ⟨rfl, inv_thr h, up_eq, by omega⟩
set_option maxHeartbeats 4000000 in
theorem ans_lower {V W V' W' : Mem} {z z' : Int} (b1 b2 : Int) (us : Nat) (hus : V 0 9 = (us : Int)) (h : inv V W) (hC : ((z = 1 ∧ (¬ hst (fun m => plc (V (15 + 4 * m + 1)) b1 (V (15 + 4 * m) 5).toNat) us = -1 ∧ ¬ hst (fun m => plc (V (15 + 4 * m + 1)) b2 (V (15 + 4 * m) 5).toNat) us = -1 ∧ ((hst (fun m => plc (V (15 + 4 * m + 1)) b1 (V (15 + 4 * m) 5).toNat) us ≠ hst (fun m => plc (V (15 + 4 * m + 1)) b2 (V (15 + 4 * m) 5).toNat) us ∧ hst (fun m => plc (V (15 + 4 * m + 1)) b1 (V (15 + 4 * m) 5).toNat) us < hst (fun m => plc (V (15 + 4 * m + 1)) b2 (V (15 + 4 * m) 5).toNat) us) ∨ (hst (fun m => plc (V (15 + 4 * m + 1)) b1 (V (15 + 4 * m) 5).toNat) us = hst (fun m => plc (V (15 + 4 * m + 1)) b2 (V (15 + 4 * m) 5).toNat) us ∧ plc (V (15 + 4 * (hst (fun m => plc (V (15 + 4 * m + 1)) b1 (V (15 + 4 * m) 5).toNat) us).toNat + 1)) b1 (V (15 + 4 * (hst (fun m => plc (V (15 + 4 * m + 1)) b1 (V (15 + 4 * m) 5).toNat) us).toNat) 5).toNat < plc (V (15 + 4 * (hst (fun m => plc (V (15 + 4 * m + 1)) b1 (V (15 + 4 * m) 5).toNat) us).toNat + 1)) b2 (V (15 + 4 * (hst (fun m => plc (V (15 + 4 * m + 1)) b1 (V (15 + 4 * m) 5).toNat) us).toNat) 5).toNat)))) ∨ (z = 0 ∧ ¬ (¬ hst (fun m => plc (V (15 + 4 * m + 1)) b1 (V (15 + 4 * m) 5).toNat) us = -1 ∧ ¬ hst (fun m => plc (V (15 + 4 * m + 1)) b2 (V (15 + 4 * m) 5).toNat) us = -1 ∧ ((hst (fun m => plc (V (15 + 4 * m + 1)) b1 (V (15 + 4 * m) 5).toNat) us ≠ hst (fun m => plc (V (15 + 4 * m + 1)) b2 (V (15 + 4 * m) 5).toNat) us ∧ hst (fun m => plc (V (15 + 4 * m + 1)) b1 (V (15 + 4 * m) 5).toNat) us < hst (fun m => plc (V (15 + 4 * m + 1)) b2 (V (15 + 4 * m) 5).toNat) us) ∨ (hst (fun m => plc (V (15 + 4 * m + 1)) b1 (V (15 + 4 * m) 5).toNat) us = hst (fun m => plc (V (15 + 4 * m + 1)) b2 (V (15 + 4 * m) 5).toNat) us ∧ plc (V (15 + 4 * (hst (fun m => plc (V (15 + 4 * m + 1)) b1 (V (15 + 4 * m) 5).toNat) us).toNat + 1)) b1 (V (15 + 4 * (hst (fun m => plc (V (15 + 4 * m + 1)) b1 (V (15 + 4 * m) 5).toNat) us).toNat) 5).toNat < plc (V (15 + 4 * (hst (fun m => plc (V (15 + 4 * m + 1)) b1 (V (15 + 4 * m) 5).toNat) us).toNat + 1)) b2 (V (15 + 4 * (hst (fun m => plc (V (15 + 4 * m + 1)) b1 (V (15 + 4 * m) 5).toNat) us).toNat) 5).toNat))))) ∧ V' = V) (hR : ((z' = 1 ∧ (¬ hst (fun m => plc (fun i => W 15 (40 * m + i)) b1 (W 14 m).toNat) us = -1 ∧ ¬ hst (fun m => plc (fun i => W 15 (40 * m + i)) b2 (W 14 m).toNat) us = -1 ∧ ((hst (fun m => plc (fun i => W 15 (40 * m + i)) b1 (W 14 m).toNat) us ≠ hst (fun m => plc (fun i => W 15 (40 * m + i)) b2 (W 14 m).toNat) us ∧ hst (fun m => plc (fun i => W 15 (40 * m + i)) b1 (W 14 m).toNat) us < hst (fun m => plc (fun i => W 15 (40 * m + i)) b2 (W 14 m).toNat) us) ∨ (hst (fun m => plc (fun i => W 15 (40 * m + i)) b1 (W 14 m).toNat) us = hst (fun m => plc (fun i => W 15 (40 * m + i)) b2 (W 14 m).toNat) us ∧ plc (fun i => W 15 (40 * (hst (fun m => plc (fun i => W 15 (40 * m + i)) b1 (W 14 m).toNat) us).toNat + i)) b1 (W 14 (hst (fun m => plc (fun i => W 15 (40 * m + i)) b1 (W 14 m).toNat) us).toNat).toNat < plc (fun i => W 15 (40 * (hst (fun m => plc (fun i => W 15 (40 * m + i)) b1 (W 14 m).toNat) us).toNat + i)) b2 (W 14 (hst (fun m => plc (fun i => W 15 (40 * m + i)) b1 (W 14 m).toNat) us).toNat).toNat)))) ∨ (z' = 0 ∧ ¬ (¬ hst (fun m => plc (fun i => W 15 (40 * m + i)) b1 (W 14 m).toNat) us = -1 ∧ ¬ hst (fun m => plc (fun i => W 15 (40 * m + i)) b2 (W 14 m).toNat) us = -1 ∧ ((hst (fun m => plc (fun i => W 15 (40 * m + i)) b1 (W 14 m).toNat) us ≠ hst (fun m => plc (fun i => W 15 (40 * m + i)) b2 (W 14 m).toNat) us ∧ hst (fun m => plc (fun i => W 15 (40 * m + i)) b1 (W 14 m).toNat) us < hst (fun m => plc (fun i => W 15 (40 * m + i)) b2 (W 14 m).toNat) us) ∨ (hst (fun m => plc (fun i => W 15 (40 * m + i)) b1 (W 14 m).toNat) us = hst (fun m => plc (fun i => W 15 (40 * m + i)) b2 (W 14 m).toNat) us ∧ plc (fun i => W 15 (40 * (hst (fun m => plc (fun i => W 15 (40 * m + i)) b1 (W 14 m).toNat) us).toNat + i)) b1 (W 14 (hst (fun m => plc (fun i => W 15 (40 * m + i)) b1 (W 14 m).toNat) us).toNat).toNat < plc (fun i => W 15 (40 * (hst (fun m => plc (fun i => W 15 (40 * m + i)) b1 (W 14 m).toNat) us).toNat + i)) b2 (W 14 (hst (fun m => plc (fun i => W 15 (40 * m + i)) b1 (W 14 m).toNat) us).toNat).toNat))))) ∧ W' = up W 0 0 0) : z = z' ∧ inv V' W' ∧ W' 0 0 = 0 ∧ (-2147483648 ≤ z ∧ z ≤ 2147483647) := by
  have h' := h
  obtain ⟨⟨hok, hxt, h0, hf, hz⟩, hrel⟩ := h'
  obtain ⟨r1, r2, r3, r4, r5, r6, ⟨k1, k2, k3, k4, k5, k6⟩, ⟨p1, p2, p3, p4⟩, m1, m2, m3, m4, m5⟩ := hrel
  obtain ⟨c1, c2, c3, c4, c5, c6, c7, c8, c9, c10, c11, c12, c13, c14, c15, c16, c17, c18, c19, c20, c21, c22, c23, c24⟩ := hok
  have H : ∀ b : Int, hst (fun m => plc (fun i => W 15 (40 * m + i)) b (W 14 m).toNat) us = hst (fun m => plc (V (15 + 4 * m + 1)) b (V (15 + 4 * m) 5).toNat) us := fun b => hst_congr (fun m hm => by
    show plc (fun i => W 15 (40 * m + i)) b (W 14 m).toNat = plc (V (15 + 4 * m + 1)) b (V (15 + 4 * m) 5).toNat
    rw [m2 m (by omega)]
    exact plc_congr (fun i hi => m5 m (by omega) i (by omega)))
  rw [H b1, H b2] at hR
  rw [hC.2, hR.2]
  have q := @hst_in (fun m => plc (V (15 + 4 * m + 1)) b1 (V (15 + 4 * m) 5).toNat) us
  have hC1 := hC.1
  have hR1 := hR.1
  clear hC hR
  generalize hst (fun m => plc (V (15 + 4 * m + 1)) b1 (V (15 + 4 * m) 5).toNat) us = t1 at *
  generalize hst (fun m => plc (V (15 + 4 * m + 1)) b2 (V (15 + 4 * m) 5).toNat) us = t2 at *
  by_cases c : t1 = -1
  · refine ⟨?_, inv_thr h, up_eq, ?_⟩
    · rcases hC1 with ⟨a1, a2⟩ | ⟨a1, a2⟩
      · exact absurd c a2.1
      · rcases hR1 with ⟨d1, d2⟩ | ⟨d1, d2⟩
        · exact absurd c d2.1
        · omega
    · rcases hC1 with ⟨a1, a2⟩ | ⟨a1, a2⟩ <;> omega
  · have hm3 : t1.toNat < 3 := by omega
    rw [m2 _ hm3, plc_congr (p := b1) (f' := V (15 + 4 * t1.toNat + 1)) (fun i hi => m5 _ hm3 i (by omega)), plc_congr (p := b2) (f' := V (15 + 4 * t1.toNat + 1)) (fun i hi => m5 _ hm3 i (by omega))] at hR1
    refine ⟨?_, inv_thr h, up_eq, ?_⟩
    · rcases hC1 with ⟨a1, a2⟩ | ⟨a1, a2⟩
      · rcases hR1 with ⟨d1, d2⟩ | ⟨d1, d2⟩
        · omega
        · exact absurd a2 d2
      · rcases hR1 with ⟨d1, d2⟩ | ⟨d1, d2⟩
        · exact absurd d2 a2
        · omega
    · rcases hC1 with ⟨a1, a2⟩ | ⟨a1, a2⟩ <;> omega
set_option maxHeartbeats 4000000 in
theorem ans_refill {V W V' W' : Mem} {z z' : Int} (k : Nat) (n : Int) (hk : (k : Int) < V 2 6) (hn : 0 ≤ n ∧ n ≤ 2147483647) (h : inv V W) (hC : ((z = 1 ∧ V 6 k ≠ n) ∨ (z = 0 ∧ V 6 k = n)) ∧ V' = up V 6 k n) (hR : (z' = 1 ∧ W 4 k ≠ n ∧ W' = up (up W 0 0 0) 4 k n) ∨ (z' = 0 ∧ W 4 k = n ∧ W' = up W 0 0 0)) : z = z' ∧ inv V' W' ∧ W' 0 0 = 0 ∧ (-2147483648 ≤ z ∧ z ≤ 2147483647) := by
  have h' := h
  obtain ⟨⟨hok, hxt, h0, hf, hz⟩, hrel⟩ := h'
  obtain ⟨r1, r2, r3, r4, r5, r6, ⟨k1, k2, k3, k4, k5, k6⟩, ⟨p1, p2, p3, p4⟩, m1, m2, m3, m4, m5⟩ := hrel
  obtain ⟨c1, c2, c3, c4, c5, c6, c7, c8, c9, c10, c11, c12, c13, c14, c15, c16, c17, c18, c19, c20, c21, c22, c23, c24⟩ := hok
  rw [k4] at hR
  rw [hC.2]
  rcases hC.1 with ⟨a1, a2⟩ | ⟨a1, a2⟩
  · rcases hR with ⟨b1, b2, b3⟩ | ⟨b1, b2, b3⟩
    · rw [a1, b1, b3]; exact ⟨rfl, inv_refill k n hk hn h, rfl, by omega⟩
    · exact absurd b2 a2
  · rcases hR with ⟨b1, b2, b3⟩ | ⟨b1, b2, b3⟩
    · exact absurd a2 b2
    · rw [a1, b1, b3, up_same a2]; exact ⟨rfl, inv_thr h, up_eq, by omega⟩
set_option maxHeartbeats 4000000 in
theorem ans_reject {V W V' W' : Mem} {z z' : Int} (k : Nat) (n d : Int) (hk : (k : Int) < V 2 6) (hd : 1 ≤ d ∧ d ≤ 1000) (hn : 0 ≤ n ∧ n < d) (h : inv V W) (hC : ((z = 1 ∧ ¬ (V 7 k = n ∧ V 8 k = d)) ∨ (z = 0 ∧ V 7 k = n ∧ V 8 k = d)) ∧ V' = up (up V 7 k n) 8 k d) (hR : (z' = 1 ∧ ¬ (W 5 k = n ∧ W 6 k = d) ∧ W' = up (up (up W 0 0 0) 5 k n) 6 k d) ∨ (z' = 0 ∧ W 5 k = n ∧ W 6 k = d ∧ W' = up W 0 0 0)) : z = z' ∧ inv V' W' ∧ W' 0 0 = 0 ∧ (-2147483648 ≤ z ∧ z ≤ 2147483647) := by
  have h' := h
  obtain ⟨⟨hok, hxt, h0, hf, hz⟩, hrel⟩ := h'
  obtain ⟨r1, r2, r3, r4, r5, r6, ⟨k1, k2, k3, k4, k5, k6⟩, ⟨p1, p2, p3, p4⟩, m1, m2, m3, m4, m5⟩ := hrel
  obtain ⟨c1, c2, c3, c4, c5, c6, c7, c8, c9, c10, c11, c12, c13, c14, c15, c16, c17, c18, c19, c20, c21, c22, c23, c24⟩ := hok
  rw [k5, k6] at hR
  rw [hC.2]
  rcases hC.1 with ⟨a1, a2⟩ | ⟨a1, a2⟩
  · rcases hR with ⟨b1, b2, b3⟩ | ⟨b1, b2, b3⟩
    · rw [a1, b1, b3]; exact ⟨rfl, inv_reject k n d hk hd hn h, rfl, by omega⟩
    · exact absurd ⟨b2, b3.1⟩ a2
  · rcases hR with ⟨b1, b2, b3⟩ | ⟨b1, b2, b3⟩
    · exact absurd a2 b2
    · rw [a1, b1, b3.2, up_same a2.1, up_same a2.2]; exact ⟨rfl, inv_thr h, up_eq, by omega⟩
set_option maxHeartbeats 4000000 in
theorem ans_common {V W V' W' : Mem} {z z' : Int} (m n kc : Nat) (hkc : V 2 6 = (kc : Int)) (hm : (m : Int) < V 0 8) (hn : (n : Int) < V 0 8) (h : inv V W) (hC : ((z = 1 ∧ ∀ k, k < kc → (V (15 + 4 * m + 2) k ≠ -1 ∨ V (15 + 4 * n + 2) k ≠ -1) → ((V (15 + 4 * m) 3).toNat / 2 ^ (V 4 k).toNat % 2 = 1 ∧ (V (15 + 4 * n) 3).toNat / 2 ^ (V 4 k).toNat % 2 = 1)) ∨ (z = 0 ∧ ¬ (∀ k, k < kc → (V (15 + 4 * m + 2) k ≠ -1 ∨ V (15 + 4 * n + 2) k ≠ -1) → ((V (15 + 4 * m) 3).toNat / 2 ^ (V 4 k).toNat % 2 = 1 ∧ (V (15 + 4 * n) 3).toNat / 2 ^ (V 4 k).toNat % 2 = 1)))) ∧ V' = V) (hR : ((z' = 1 ∧ ∀ k, k < kc → (W 13 (10 * m + k) ≠ -1 ∨ W 13 (10 * n + k) ≠ -1) → ((W 11 m).toNat / 2 ^ (W 2 k).toNat % 2 = 1 ∧ (W 11 n).toNat / 2 ^ (W 2 k).toNat % 2 = 1)) ∨ (z' = 0 ∧ ¬ (∀ k, k < kc → (W 13 (10 * m + k) ≠ -1 ∨ W 13 (10 * n + k) ≠ -1) → ((W 11 m).toNat / 2 ^ (W 2 k).toNat % 2 = 1 ∧ (W 11 n).toNat / 2 ^ (W 2 k).toNat % 2 = 1)))) ∧ W' = up W 0 0 0) : z = z' ∧ inv V' W' ∧ W' 0 0 = 0 ∧ (-2147483648 ≤ z ∧ z ≤ 2147483647) := by
  have h' := h
  obtain ⟨⟨hok, hxt, h0, hf, hz⟩, hrel⟩ := h'
  obtain ⟨r1, r2, r3, r4, r5, r6, ⟨k1, k2, k3, k4, k5, k6⟩, ⟨p1, p2, p3, p4⟩, m1, m2, m3, m4, m5⟩ := hrel
  obtain ⟨c1, c2, c3, c4, c5, c6, c7, c8, c9, c10, c11, c12, c13, c14, c15, c16, c17, c18, c19, c20, c21, c22, c23, c24⟩ := hok
  have hm3 : m < 3 := by omega
  have hn3 : n < 3 := by omega
  rw [m1 m hm3, m1 n hn3, k2] at hR
  have e : (∀ k, k < kc → (W 13 (10 * m + k) ≠ -1 ∨ W 13 (10 * n + k) ≠ -1) → ((V (15 + 4 * m) 3).toNat / 2 ^ (V 4 k).toNat % 2 = 1 ∧ (V (15 + 4 * n) 3).toNat / 2 ^ (V 4 k).toNat % 2 = 1)) ↔ (∀ k, k < kc → (V (15 + 4 * m + 2) k ≠ -1 ∨ V (15 + 4 * n + 2) k ≠ -1) → ((V (15 + 4 * m) 3).toNat / 2 ^ (V 4 k).toNat % 2 = 1 ∧ (V (15 + 4 * n) 3).toNat / 2 ^ (V 4 k).toNat % 2 = 1)) := by
    constructor
    · intro q k hk
      have := q k hk
      rw [m4 m hm3 k (by omega), m4 n hn3 k (by omega)] at this
      exact this
    · intro q k hk
      rw [m4 m hm3 k (by omega), m4 n hn3 k (by omega)]
      exact q k hk
  rw [e] at hR
  rw [hC.2, hR.2]
  have hC1 := hC.1
  have hR1 := hR.1
  refine ⟨?_, inv_thr h, up_eq, ?_⟩
  · rcases hC1 with ⟨a1, a2⟩ | ⟨a1, a2⟩ <;> rcases hR1 with ⟨b1, b2⟩ | ⟨b1, b2⟩
    · omega
    · exact absurd a2 b2
    · exact absurd b2 a2
    · omega
  · rcases hC1 with ⟨a1, a2⟩ | ⟨a1, a2⟩ <;> omega
set_option maxHeartbeats 4000000 in
theorem ans_changes {V W V' W' : Mem} {z z' : Int} (m : Nat) (hm : (m : Int) < V 0 8) (h : inv V W) (hC : z = chg (fun i => V 4 (V 10 (V (15 + 4 * m + 1) i).toNat).toNat) (V (15 + 4 * m) 5).toNat ∧ V' = V) (hR : z' = chg (fun i => W 2 (W 7 (W 15 (40 * m + i)).toNat).toNat) (W 14 m).toNat ∧ W' = up W 0 0 0) : z = z' ∧ inv V' W' ∧ W' 0 0 = 0 ∧ (-2147483648 ≤ z ∧ z ≤ 2147483647) := by
  have h' := h
  obtain ⟨⟨hok, hxt, h0, hf, hz⟩, hrel⟩ := h'
  obtain ⟨r1, r2, r3, r4, r5, r6, ⟨k1, k2, k3, k4, k5, k6⟩, ⟨p1, p2, p3, p4⟩, m1, m2, m3, m4, m5⟩ := hrel
  obtain ⟨c1, c2, c3, c4, c5, c6, c7, c8, c9, c10, c11, c12, c13, c14, c15, c16, c17, c18, c19, c20, c21, c22, c23, c24⟩ := hok
  have hm3 : m < 3 := by omega
  have q20 := c20 m hm3
  rw [m2 m hm3, p1, k2, chg_congr (g' := fun i => V 4 (V 10 (V (15 + 4 * m + 1) i).toNat).toNat) (fun i hi => by rw [m5 m hm3 i (by omega)])] at hR
  rw [hC.1, hR.1, hC.2, hR.2]
  have := chg_in (fun i => V 4 (V 10 (V (15 + 4 * m + 1) i).toNat).toNat) (V (15 + 4 * m) 5).toNat
  exact ⟨rfl, inv_thr h, up_eq, by omega⟩
set_option maxHeartbeats 4000000 in
theorem ans_improve {V W V' W' : Mem} {z z' : Int} (kc st : Nat) (h : inv V W) (hC : exs V st z V' ∧ 0 ≤ z ∧ z ≤ 200) (hR : rxs (up W 0 0 0) kc st z' W' ∧ okR W' ∧ rxK (up W 0 0 0) W' ∧ 0 ≤ z' ∧ z' ≤ 200) : z = z' ∧ inv V' W' ∧ W' 0 0 = 0 ∧ (-2147483648 ≤ z ∧ z ≤ 2147483647) := by
  have h' := h
  obtain ⟨⟨hok, hxt, h0, hf, hz⟩, hrel⟩ := h'
  obtain ⟨r1, r2, r3, r4, r5, r6, ⟨k1, k2, k3, k4, k5, k6⟩, ⟨p1, p2, p3, p4⟩, m1, m2, m3, m4, m5⟩ := hrel
  obtain ⟨c1, c2, c3, c4, c5, c6, c7, c8, c9, c10, c11, c12, c13, c14, c15, c16, c17, c18, c19, c20, c21, c22, c23, c24⟩ := hok
  obtain ⟨e1, e2⟩ := ex_all (inv_thr h) hC.1 hR.1
  exact ⟨e1, e2, by rw [hR.2.2.1.2 0 (by omega) (by omega)]; exact up_eq, by omega⟩
theorem nzM_bit {am nz : Nat → Int} {b : Nat} : ∀ {n : Nat}, (nzM am nz n).testBit b = true ↔ ∃ k, k < n ∧ 0 < am k ∧ (nz k).toNat = b
  | 0 => by simp [nzM]
  | n + 1 => by
    have ih := @nzM_bit am nz b n
    simp only [nzM]
    constructor
    · intro q
      by_cases c : 0 < am n
      · rw [if_pos c, tBit] at q
        rcases Bool.or_eq_true_iff.mp q with q | q
        · obtain ⟨k, a, b, c⟩ := ih.mp q
          exact ⟨k, by omega, b, c⟩
        · exact ⟨n, by omega, c, of_decide_eq_true q⟩
      · rw [if_neg c] at q
        obtain ⟨k, a, b, c⟩ := ih.mp q
        exact ⟨k, by omega, b, c⟩
    · intro ⟨k, h1, h2, h3⟩
      by_cases e : k = n
      · subst e
        rw [if_pos h2, tBit, decide_eq_true h3, Bool.or_true]
      · have q := ih.mpr ⟨k, by omega, h2, h3⟩
        split
        · rw [tBit, q, Bool.true_or]
        · exact q
theorem nzR_bit {g : Nat → Nat} {b : Nat} : ∀ {n : Nat}, (nzR g n).testBit b = true ↔ ∃ i, i < n ∧ g i = b
  | 0 => by simp [nzR]
  | n + 1 => by
    have ih := @nzR_bit g b n
    simp only [nzR]
    rw [tBit]
    constructor
    · intro q
      rcases Bool.or_eq_true_iff.mp q with q | q
      · obtain ⟨k, a, b⟩ := ih.mp q
        exact ⟨k, by omega, b⟩
      · exact ⟨n, by omega, of_decide_eq_true q⟩
    · intro ⟨k, h1, h2⟩
      by_cases e : k = n
      · subst e
        rw [decide_eq_true h2, Bool.or_true]
      · rw [ih.mpr ⟨k, by omega, h2⟩, Bool.true_or]
theorem nz_eq {am nz kd : Nat → Int} {n kc : Nat} (hk : ∀ i, i < n → 0 ≤ kd i ∧ kd i < kc) (ham : ∀ k : Nat, k < kc → am k = cnt kd (k : Int) n) : nzR (fun i => (nz (kd i).toNat).toNat) n = nzM am nz kc := by
  apply Nat.eq_of_testBit_eq
  intro b
  rw [Bool.eq_iff_iff, nzR_bit, nzM_bit]
  constructor
  · intro ⟨i, h1, h2⟩
    have q := hk i h1
    refine ⟨(kd i).toNat, by omega, ?_, h2⟩
    rw [ham _ (by omega)]
    have : cnt kd ((kd i).toNat : Int) n ≠ 0 := by
      intro z
      have : ∀ n, i < n → 0 < cnt kd ((kd i).toNat : Int) n := by
        intro n
        induction n with
        | zero => intro q; omega
        | succ n ih =>
          intro q2
          simp only [cnt]
          have p0 := (cnt_in kd ((kd i).toNat : Int) n).1
          by_cases e : i = n
          · subst e
            rw [if_pos (by omega)]; omega
          · have := ih (by omega)
            split <;> omega
      have := this n h1
      omega
    have := (cnt_in kd ((kd i).toNat : Int) n).1
    omega
  · intro ⟨k, h1, h2, h3⟩
    rw [ham k h1] at h2
    obtain ⟨i, a1, a2⟩ := cnt_pos h2
    exact ⟨i, a1, by rw [a2, Int.toNat_natCast]; exact h3⟩
theorem pop8_pos {n : Nat} (h : n < 256) (h0 : n ≠ 0) : 1 ≤ pop8 n := by
  unfold pop8
  by_cases a7 : n / 128 % 2 = 0
  · have : n < 128 := by omega
    by_cases a6 : n / 64 % 2 = 0
    · have : n < 64 := by omega
      by_cases a5 : n / 32 % 2 = 0
      · have : n < 32 := by omega
        by_cases a4 : n / 16 % 2 = 0
        · have : n < 16 := by omega
          by_cases a3 : n / 8 % 2 = 0
          · have : n < 8 := by omega
            by_cases a2 : n / 4 % 2 = 0
            · have : n < 4 := by omega
              by_cases a1 : n / 2 % 2 = 0
              · have : n / 1 % 2 = 1 := by omega
                omega
              · omega
            · omega
          · omega
        · omega
      · omega
    · omega
  · omega
set_option maxHeartbeats 4000000 in
theorem ans_bound {V W V' W' : Mem} {z z' : Int} (us kc : Nat) (hus : V 0 9 = (us : Int)) (hkc : V 2 6 = (kc : Int)) (h : inv V W) (hC : z = mxF (fun m => sup (V (15 + 4 * m + 3)) (V 8) (V 7) (V 6) kc + 20 * max 0 ((pop8 (nzM (V (15 + 4 * m + 3)) (V 4) kc) : Int) - 1)) us ∧ V' = V) (hR : z' = mxF (rBd W kc) us ∧ W' = up W 0 0 0) : z = z' ∧ inv V' W' ∧ W' 0 0 = 0 ∧ (-2147483648 ≤ z ∧ z ≤ 2147483647) := by
  have h' := h
  obtain ⟨⟨hok, hxt, h0, hf, hz⟩, hrel⟩ := h'
  obtain ⟨r1, r2, r3, r4, r5, r6, ⟨k1, k2, k3, k4, k5, k6⟩, ⟨p1, p2, p3, p4⟩, m1, m2, m3, m4, m5⟩ := hrel
  obtain ⟨c1, c2, c3, c4, c5, c6, c7, c8, c9, c10, c11, c12, c13, c14, c15, c16, c17, c18, c19, c20, c21, c22, c23, c24⟩ := hok
  rw [hC.2, hR.2]
  have key : ∀ m, m < us → rBd W kc m = sup (V (15 + 4 * m + 3)) (V 8) (V 7) (V 6) kc + 20 * max 0 ((pop8 (nzM (V (15 + 4 * m + 3)) (V 4) kc) : Int) - 1) := fun m hm => by
    have hm3 : m < 3 := by omega
    obtain ⟨x1, x2, x3⟩ := hxt m hm3
    have rowI : ∀ i, i < (V (15 + 4 * m) 5).toNat → W 15 (40 * m + i) = V (15 + 4 * m + 1) i := fun i hi => m5 m hm3 i (by omega)
    have nzc : ∀ (g g' : Nat → Nat) (n : Nat), (∀ i, i < n → g i = g' i) → nzR g n = nzR g' n := fun g g' n hg => by
      apply Nat.eq_of_testBit_eq
      intro b
      rw [Bool.eq_iff_iff, nzR_bit, nzR_bit]
      exact ⟨fun ⟨i, a, b⟩ => ⟨i, a, by rw [← hg i a]; exact b⟩, fun ⟨i, a, b⟩ => ⟨i, a, by rw [hg i a]; exact b⟩⟩
    unfold rBd
    rw [m2 m hm3, p1, k2, k4, k5, k6]
    rw [nzc _ (fun i => (V 4 (V 10 (V (15 + 4 * m + 1) i).toNat).toNat).toNat) _ (fun i hi => by rw [rowI i hi])]
    rw [sup_congr (am' := V (15 + 4 * m + 3)) (fun k hk => by rw [x3 k (by omega)]; exact cnt_congr (fun i hi => by rw [rowI i hi]))]
    rw [nz_eq (nz := V 4) (kd := fun i => V 10 (V (15 + 4 * m + 1) i).toNat) (kc := kc) (am := V (15 + 4 * m + 3)) (fun i hi => by
      have q := c22 m hm3 i (by omega)
      have q1 := c14 (V (15 + 4 * m + 1) i).toNat (by omega)
      have q2 := c13 (V (15 + 4 * m + 1) i).toNat (by omega)
      exact ⟨q2.1, by omega⟩) (fun k hk => x3 k (by omega))]
    have lt := @nzM_lt (V (15 + 4 * m + 3)) (V 4) kc (fun k hk => c8 k (by omega))
    by_cases c : nzM (V (15 + 4 * m + 3)) (V 4) kc = 0
    · rw [if_pos c, c]
      have z0 : ∀ n, n ≤ kc → sup (V (15 + 4 * m + 3)) (V 8) (V 7) (V 6) n = 0 := by
        intro n
        induction n with
        | zero => intro _; rfl
        | succ n ih =>
          intro hn
          simp only [sup]
          rw [ih (by omega), if_neg (fun q => by
            have := (nzM_bit (am := V (15 + 4 * m + 3)) (nz := V 4) (n := kc)).mpr ⟨n, by omega, q, rfl⟩
            rw [c] at this
            simp at this)]
          rfl
      rw [z0 kc (Nat.le_refl _)]
      rw [show pop8 0 = 0 from rfl]
      rfl
    · rw [if_neg c]
      have := pop8_pos lt c
      omega
  have e : z' = z := by
    rw [hC.1, hR.1]
    exact mxF_congr key
  refine ⟨e.symm, inv_thr h, up_eq, ?_⟩
  rw [hC.1]
  have := mxF_in (t := fun m => sup (V (15 + 4 * m + 3)) (V 8) (V 7) (V 6) kc + 20 * max 0 ((pop8 (nzM (V (15 + 4 * m + 3)) (V 4) kc) : Int) - 1)) (B := 200000000) (n := us) (by omega) (fun m hm => by
    have q2 := sup_in (am := V (15 + 4 * m + 3)) (be := V 8) (ab := V 7) (rf := V 6) (n := kc) (fun k hk => (c24 m (by omega) k (by omega)).2) (fun k hk => c12 k (by omega)) (fun k hk => c11 k (by omega))
    have q3 := @pop8_le (nzM (V (15 + 4 * m + 3)) (V 4) kc)
    omega)
  omega
