set_option maxHeartbeats 4000000 in
/-- Machine.placeOf(p) -/
theorem met_X2_placeOf_c {l : Launch} {D : va_G} {τ : Nat → ClassId} {a : Nat → Nat} (ha : Apart (LX τ) a) {V : Mem} {m : Nat} (hm : m < 3) (p : Int) (hp : -2147483648 ≤ p ∧ p ≤ 2147483647) (hsz : 0 ≤ V (15 + 4 * m) 5 ∧ V (15 + 4 * m) 5 ≤ 40) (hr : ∀ i : Nat, (i : Int) < V (15 + 4 * m) 5 → -2147483648 ≤ V (15 + 4 * m + 1) i ∧ V (15 + 4 * m + 1) i ≤ 2147483647) : CI l D (tysL τ) (LX τ) a yX2_placeOf mX2_placeOf [.ref (a (15 + 4 * m)), .int (iN p)] V (fun z V' => z = plc (V (15 + 4 * m + 1)) p (V (15 + 4 * m) 5).toNat ∧ V' = V) := by
  refine CI.of (by decide +kernel) rfl (Nat.le_of_ble_eq_true rfl) ha (fun x hq => ?_)
  show G l D (tysL τ) (LX τ) a mX2_placeOf x 0 [(0, .ref (a (15 + 4 * m))), (1, .int (iN p))] [] V
  refine g_iconst dX2_placeOf_0 ?_
  refine g_istore_n [(2, .int (iN 0)), (0, .ref (a (15 + 4 * m))), (1, .int (iN p))] dX2_placeOf_1 rfl (by decide) rfl ?_
  have lp_2 : ∀ (fuel : Nat) (i : Nat), ((i : Int) ≤ V (15 + 4 * m) 5) → (plc (V (15 + 4 * m + 1)) p i = -1) → ((V (15 + 4 * m) 5).toNat - i) < fuel → G l D (tysL τ) (LX τ) a mX2_placeOf x 2 [(0, .ref (a (15 + 4 * m))), (1, .int (iN p)), (2, .int (iN (i : Int)))] [] V := by
    intro fuel
    induction fuel with
    | zero => intro i hi hpl hfu; exact absurd hfu (Nat.not_lt_zero _)
    | succ fuel ih_2 =>
      intro i hi hpl hfu
      have hri := hr i
      refine g_iload_n 2 dX2_placeOf_2 rfl rfl ?_
      refine g_aload_n 0 dX2_placeOf_3 rfl rfl ?_
      refine g_getf (15 + 4 * m) (.int (iN (V (15 + 4 * m) 5))) fX2_28 (ox_M (m := m) hm) dX2_placeOf_4 rfl ?_
      refine g_icmp_ge 28 dX2_placeOf_7 (by decide) (fun c_1 => ?_) (fun c_1 => ?_)
      · refine g_iconst dX2_placeOf_28 ?_
        exact g_iret hq rfl rfl dX2_placeOf_29 (⟨by rw [show (V (15 + 4 * m) 5).toNat = i by omega, hpl], rfl⟩)
      · refine g_aload_n 0 dX2_placeOf_10 rfl rfl ?_
        refine g_getf (15 + 4 * m) (.ref (a (15 + 4 * m + 1))) fX2_9 (ox_M (m := m) hm) dX2_placeOf_11 rfl ?_
        refine g_iload_n 2 dX2_placeOf_14 rfl rfl ?_
        refine g_iald (15 + 4 * m + 1) i (ax_R (m := m) (by omega)) dX2_placeOf_15 rfl (by omega) ?_
        refine g_iload_n 1 dX2_placeOf_16 rfl rfl ?_
        refine g_icmp_ne 22 dX2_placeOf_17 (by decide) (fun c_2 => ?_) (fun c_2 => ?_)
        · refine g_iinc 2 [(2, .int (iN ((i : Int) + 1))), (0, .ref (a (15 + 4 * m))), (1, .int (iN p))] dX2_placeOf_22 rfl (by decide) rfl ?_
          refine g_goto 2 dX2_placeOf_25 (by decide) ?_
          refine g_lv [1, 2, 0] rfl ?_
          exact ih_2 (i + 1) (by omega) (plc_s hpl (by omega)) (by omega)
        · refine g_iload_n 2 dX2_placeOf_20 rfl rfl ?_
          exact g_iret hq rfl rfl dX2_placeOf_21 (⟨(plc_at hpl (by omega) (by omega)).symm, rfl⟩)
  refine g_lv [1, 2, 0] rfl ?_
  exact lp_2 _ 0 (by omega) rfl (Nat.lt_succ_self _)

set_option maxHeartbeats 4000000 in
/-- hostOf(p) -/
theorem met_X6_hostOf_c {l : Launch} {D : va_G} {τ : Nat → ClassId} {a : Nat → Nat} (ha : Apart (LX τ) a) {V : Mem} (p : Int) (us : Nat) (hus : V 0 9 = (us : Int)) (hus3 : us ≤ 3) (hp : -2147483648 ≤ p ∧ p ≤ 2147483647) (hsz : ∀ m, m < 3 → 0 ≤ V (15 + 4 * m) 5 ∧ V (15 + 4 * m) 5 ≤ 40) (hrr : ∀ m, m < 3 → ∀ i : Nat, (i : Int) < V (15 + 4 * m) 5 → -2147483648 ≤ V (15 + 4 * m + 1) i ∧ V (15 + 4 * m + 1) i ≤ 2147483647) : CI l D (tysL τ) (LX τ) a yX6_hostOf mX6_hostOf [.ref (a 0), .int (iN p)] V (fun z V' => z = hst (fun m => plc (V (15 + 4 * m + 1)) p (V (15 + 4 * m) 5).toNat) us ∧ V' = V) := by
  refine CI.of (by decide +kernel) rfl (Nat.le_of_ble_eq_true rfl) ha (fun x hq => ?_)
  show G l D (tysL τ) (LX τ) a mX6_hostOf x 0 [(0, .ref (a 0)), (1, .int (iN p))] [] V
  refine g_iconst dX6_hostOf_0 ?_
  refine g_istore_n [(2, .int (iN 0)), (0, .ref (a 0)), (1, .int (iN p))] dX6_hostOf_1 rfl (by decide) rfl ?_
  have lp_2 : ∀ (fuel : Nat) (m : Nat), (m ≤ us) → (hst (fun m => plc (V (15 + 4 * m + 1)) p (V (15 + 4 * m) 5).toNat) m = -1) → (us - m) < fuel → G l D (tysL τ) (LX τ) a mX6_hostOf x 2 [(0, .ref (a 0)), (1, .int (iN p)), (2, .int (iN (m : Int)))] [] V := by
    intro fuel
    induction fuel with
    | zero => intro m hm0 hh hfu; exact absurd hfu (Nat.not_lt_zero _)
    | succ fuel ih_2 =>
      intro m hm0 hh hfu
      refine g_iload_n 2 dX6_hostOf_2 rfl rfl ?_
      refine g_aload_n 0 dX6_hostOf_3 rfl rfl ?_
      refine g_getf 0 (.int (iN (V 0 9))) fX6_52 ox_0 dX6_hostOf_4 rfl ?_
      refine g_top (show V 0 9 = (us : Int) from hus) ?_
      refine g_icmp_ge 32 dX6_hostOf_7 (by decide) (fun c_1 => ?_) (fun c_1 => ?_)
      · refine g_iconst dX6_hostOf_32 ?_
        exact g_iret hq rfl rfl dX6_hostOf_33 (⟨by rw [show us = m by omega, hh], rfl⟩)
      · refine g_aload_n 0 dX6_hostOf_10 rfl rfl ?_
        refine g_getf 0 (.ref (a 14)) fX6_26 ox_0 dX6_hostOf_11 rfl ?_
        refine g_iload_n 2 dX6_hostOf_14 rfl rfl ?_
        refine g_aald 14 m ax_14 dX6_hostOf_15 rfl (by omega) ?_
        refine g_iload_n 1 dX6_hostOf_16 rfl rfl ?_
        have hpi := plc_in (f := V (15 + 4 * m + 1)) (p := p) (V (15 + 4 * m) 5).toNat
        have hs9 := hsz m (by omega)
        refine g_callI (k := 15 + 4 * m) [.int (iN p)] (met_X2_placeOf_c ha (by omega) p hp (hsz m (by omega)) (hrr m (by omega))) vX6_160 (ox_M (m := m) (by omega)) rfl rfl ⟨rfl, rfl, Nat.le_of_ble_eq_true rfl, Nat.le_of_ble_eq_true rfl⟩ rfl (Nat.le_of_ble_eq_true rfl) dX6_hostOf_17 rfl ?_
        rintro z9 V9 ⟨hz9, hV9⟩
        replace hz9 := hz9.symm
        replace hV9 := hV9.symm
        subst hz9
        subst hV9
        refine g_iconst dX6_hostOf_20 ?_
        refine g_icmp_eq 26 dX6_hostOf_21 (by decide) (fun c_2 => ?_) (fun c_2 => ?_)
        · refine g_iinc 2 [(2, .int (iN ((m : Int) + 1))), (0, .ref (a 0)), (1, .int (iN p))] dX6_hostOf_26 rfl (by decide) rfl ?_
          refine g_goto 2 dX6_hostOf_29 (by decide) ?_
          refine g_lv [1, 2, 0] rfl ?_
          exact ih_2 (m + 1) (by omega) (hst_s hh (by omega)) (by omega)
        · refine g_iload_n 2 dX6_hostOf_24 rfl rfl ?_
          exact g_iret hq rfl rfl dX6_hostOf_25 (⟨(hst_at hh (by omega) (by omega)).symm, rfl⟩)
  refine g_lv [1, 2, 0] rfl ?_
  exact lp_2 _ 0 (Nat.zero_le _) rfl (Nat.lt_succ_self _)

theorem hst_in {pl : Nat → Int} : ∀ n : Nat, -1 ≤ hst pl n ∧ hst pl n < n
  | 0 => by simp [hst]
  | n + 1 => by
    have := hst_in (pl := pl) n
    simp only [hst]
    split
    · split <;> omega
    · omega
set_option maxHeartbeats 4000000 in
/-- slot(m, k) -/
theorem met_X6_slot {l : Launch} {D : va_G} {τ : Nat → ClassId} {a : Nat → Nat} (ha : Apart (LX τ) a) {V : Mem} (m k : Nat) (hok : okC V) (hm : (m : Int) < V 0 8) (hk : (k : Int) < V 2 6) : CI l D (tysL τ) (LX τ) a yX6_slot nX6_slot [.ref (a 0), .int (iN (m : Int)), .int (iN (k : Int))] V (fun z V' => z = V (15 + 4 * m + 2) k ∧ V' = V) := by
  refine CI.of (by decide +kernel) rfl (Nat.le_of_ble_eq_true rfl) ha (fun x hq => ?_)
  show G l D (tysL τ) (LX τ) a nX6_slot x 0 [(0, .ref (a 0)), (1, .int (iN (m : Int))), (2, .int (iN (k : Int)))] [] V
  obtain ⟨k00, k08, k09, k26, k94, k3, k3k, k4, k5, k6, k7, k8, k10, k10k, k11, k12, k13, kn, kc0, ks, kt, kr, kf, ka⟩ := id hok
  refine g_aload_n 0 dX6_slot_0 rfl rfl ?_
  refine g_iload_n 1 dX6_slot_1 rfl rfl ?_
  refine g_callV (k := 0) [.int (iN (m : Int))] (met_X6_requireMachine ha (m : Int) hok (by omega)) vX6_148 ox_0 rfl rfl ⟨rfl, rfl, Nat.le_of_ble_eq_true rfl, Nat.le_of_ble_eq_true rfl⟩ rfl (Nat.le_of_ble_eq_true rfl) dX6_slot_2 rfl ?_
  intro V9 hV9
  replace hV9 := hV9.symm
  subst hV9
  refine g_aload_n 0 dX6_slot_5 rfl rfl ?_
  refine g_iload_n 2 dX6_slot_6 rfl rfl ?_
  refine g_callV (k := 0) [.int (iN (k : Int))] (met_X6_requireKind ha (k : Int) hok (by omega)) vX6_88 ox_0 rfl rfl ⟨rfl, rfl, Nat.le_of_ble_eq_true rfl, Nat.le_of_ble_eq_true rfl⟩ rfl (Nat.le_of_ble_eq_true rfl) dX6_slot_7 rfl ?_
  intro V9 hV9
  replace hV9 := hV9.symm
  subst hV9
  refine g_aload_n 0 dX6_slot_10 rfl rfl ?_
  refine g_getf 0 (.ref (a 14)) fX6_26 ox_0 dX6_slot_11 rfl ?_
  refine g_iload_n 1 dX6_slot_14 rfl rfl ?_
  refine g_aald 14 m ax_14 dX6_slot_15 rfl (by omega) ?_
  refine g_getf (15 + 4 * m) (.ref (a (15 + 4 * m + 2))) fX6_151 (ox_M (m := m) (by omega)) dX6_slot_16 rfl ?_
  refine g_iload_n 2 dX6_slot_19 rfl rfl ?_
  refine g_iald (15 + 4 * m + 2) k (ax_F (m := m) (by omega)) dX6_slot_20 rfl (by omega) ?_
  exact g_iret hq rfl rfl dX6_slot_21 (⟨rfl, rfl⟩)

set_option maxHeartbeats 4000000 in
/-- order(m, i) -/
theorem met_X6_order {l : Launch} {D : va_G} {τ : Nat → ClassId} {a : Nat → Nat} (ha : Apart (LX τ) a) {V : Mem} (m : Nat) (i : Int) (hok : okC V) (hm : (m : Int) < V 0 8) (hi : -2147483648 ≤ i ∧ i ≤ 2147483647) : CI l D (tysL τ) (LX τ) a yX6_order nX6_order [.ref (a 0), .int (iN (m : Int)), .int (iN i)] V (fun z V' => z = (if 0 ≤ i ∧ i < V (15 + 4 * m) 5 then V (15 + 4 * m + 1) i.toNat else -1) ∧ V' = V) := by
  refine CI.of (by decide +kernel) rfl (Nat.le_of_ble_eq_true rfl) ha (fun x hq => ?_)
  show G l D (tysL τ) (LX τ) a nX6_order x 0 [(0, .ref (a 0)), (1, .int (iN (m : Int))), (2, .int (iN i))] [] V
  obtain ⟨k00, k08, k09, k26, k94, k3, k3k, k4, k5, k6, k7, k8, k10, k10k, k11, k12, k13, kn, kc0, ks, kt, kr, kf, ka⟩ := id hok
  refine g_aload_n 0 dX6_order_0 rfl rfl ?_
  refine g_iload_n 1 dX6_order_1 rfl rfl ?_
  refine g_callV (k := 0) [.int (iN (m : Int))] (met_X6_requireMachine ha (m : Int) hok (by omega)) vX6_148 ox_0 rfl rfl ⟨rfl, rfl, Nat.le_of_ble_eq_true rfl, Nat.le_of_ble_eq_true rfl⟩ rfl (Nat.le_of_ble_eq_true rfl) dX6_order_2 rfl ?_
  intro V9 hV9
  replace hV9 := hV9.symm
  subst hV9
  refine g_aload_n 0 dX6_order_5 rfl rfl ?_
  refine g_getf 0 (.ref (a 14)) fX6_26 ox_0 dX6_order_6 rfl ?_
  refine g_iload_n 1 dX6_order_9 rfl rfl ?_
  refine g_aald 14 m ax_14 dX6_order_10 rfl (by omega) ?_
  refine g_iload_n 2 dX6_order_11 rfl rfl ?_
  refine g_callI (k := 15 + 4 * m) [.int (iN i)] (met_X2_partAt ha (by omega) i hi (ks m (by omega))) vX6_154 (ox_M (m := m) (by omega)) rfl rfl ⟨rfl, rfl, Nat.le_of_ble_eq_true rfl, Nat.le_of_ble_eq_true rfl⟩ rfl (Nat.le_of_ble_eq_true rfl) dX6_order_12 rfl ?_
  intro z9 V9 hz9
  exact g_iret hq rfl rfl dX6_order_15 (hz9)

set_option maxHeartbeats 4000000 in
/-- trip(m, p) -/
theorem met_X6_trip {l : Launch} {D : va_G} {τ : Nat → ClassId} {a : Nat → Nat} (ha : Apart (LX τ) a) {V : Mem} (m : Nat) (p : Int) (hok : okC V) (hm : (m : Int) < V 0 8) (hp : 0 ≤ p ∧ p < V 9 4) : CI l D (tysL τ) (LX τ) a yX6_trip nX6_trip [.ref (a 0), .int (iN (m : Int)), .int (iN p)] V (fun z V' => z = (if plc (V (15 + 4 * m + 1)) p (V (15 + 4 * m) 5).toNat = -1 then -1 else plc (V (15 + 4 * m + 1)) p (V (15 + 4 * m) 5).toNat / V (15 + 4 * m) 4) ∧ V' = V) := by
  refine CI.of (by decide +kernel) rfl (Nat.le_of_ble_eq_true rfl) ha (fun x hq => ?_)
  show G l D (tysL τ) (LX τ) a nX6_trip x 0 [(0, .ref (a 0)), (1, .int (iN (m : Int))), (2, .int (iN p))] [] V
  obtain ⟨k00, k08, k09, k26, k94, k3, k3k, k4, k5, k6, k7, k8, k10, k10k, k11, k12, k13, kn, kc0, ks, kt, kr, kf, ka⟩ := id hok
  have hpi := plc_in (f := V (15 + 4 * m + 1)) (p := p) (V (15 + 4 * m) 5).toNat
  have qs := ks m (by omega)
  refine g_aload_n 0 dX6_trip_0 rfl rfl ?_
  refine g_iload_n 1 dX6_trip_1 rfl rfl ?_
  refine g_callV (k := 0) [.int (iN (m : Int))] (met_X6_requireMachine ha (m : Int) hok (by omega)) vX6_148 ox_0 rfl rfl ⟨rfl, rfl, Nat.le_of_ble_eq_true rfl, Nat.le_of_ble_eq_true rfl⟩ rfl (Nat.le_of_ble_eq_true rfl) dX6_trip_2 rfl ?_
  intro V9 hV9
  replace hV9 := hV9.symm
  subst hV9
  refine g_aload_n 0 dX6_trip_5 rfl rfl ?_
  refine g_iload_n 2 dX6_trip_6 rfl rfl ?_
  refine g_callV (k := 0) [.int (iN p)] (met_X6_requirePart ha p hok (by omega)) vX6_157 ox_0 rfl rfl ⟨rfl, rfl, Nat.le_of_ble_eq_true rfl, Nat.le_of_ble_eq_true rfl⟩ rfl (Nat.le_of_ble_eq_true rfl) dX6_trip_7 rfl ?_
  intro V9 hV9
  replace hV9 := hV9.symm
  subst hV9
  refine g_aload_n 0 dX6_trip_10 rfl rfl ?_
  refine g_getf 0 (.ref (a 14)) fX6_26 ox_0 dX6_trip_11 rfl ?_
  refine g_iload_n 1 dX6_trip_14 rfl rfl ?_
  refine g_aald 14 m ax_14 dX6_trip_15 rfl (by omega) ?_
  refine g_iload_n 2 dX6_trip_16 rfl rfl ?_
  refine g_callI (k := 15 + 4 * m) [.int (iN p)] (met_X2_placeOf_c ha (show m < 3 by omega) p (by omega) (ks m (by omega)) (fun i hi => by have := kr m (by omega) i hi; omega)) vX6_160 (ox_M (m := m) (by omega)) rfl rfl ⟨rfl, rfl, Nat.le_of_ble_eq_true rfl, Nat.le_of_ble_eq_true rfl⟩ rfl (Nat.le_of_ble_eq_true rfl) dX6_trip_17 rfl ?_
  rintro z9 V9 ⟨hz9, hV9⟩
  replace hz9 := hz9.symm
  replace hV9 := hV9.symm
  subst hz9
  subst hV9
  refine g_istore_n [(3, .int (iN (plc (V (15 + 4 * m + 1)) p (V (15 + 4 * m) 5).toNat))), (0, .ref (a 0)), (1, .int (iN (m : Int))), (2, .int (iN p))] dX6_trip_20 rfl (by decide) rfl ?_
  refine g_iload_n 0 dX6_trip_21 rfl rfl ?_
  refine g_iconst dX6_trip_22 ?_
  refine g_icmp_ne 30 dX6_trip_23 (by decide) (fun c_1 => ?_) (fun c_1 => ?_)
  · refine g_aload_n 1 dX6_trip_30 rfl rfl ?_
    refine g_getf 0 (.ref (a 14)) fX6_26 ox_0 dX6_trip_31 rfl ?_
    refine g_iload_n 2 dX6_trip_34 rfl rfl ?_
    refine g_aald 14 m ax_14 dX6_trip_35 rfl (by omega) ?_
    refine g_iload_n 0 dX6_trip_36 rfl rfl ?_
    refine g_callI (k := 15 + 4 * m) [.int (iN (plc (V (15 + 4 * m + 1)) p (V (15 + 4 * m) 5).toNat))] (met_X2_tripAt ha (show m < 3 by omega) (plc (V (15 + 4 * m + 1)) p (V (15 + 4 * m) 5).toNat) (by omega) (kc0 m (by omega))) vX6_163 (ox_M (m := m) (by omega)) rfl rfl ⟨rfl, rfl, Nat.le_of_ble_eq_true rfl, Nat.le_of_ble_eq_true rfl⟩ rfl (Nat.le_of_ble_eq_true rfl) dX6_trip_37 rfl ?_
    rintro z9 V9 ⟨hz9, hV9⟩
    replace hz9 := hz9.symm
    replace hV9 := hV9.symm
    subst hz9
    subst hV9
    exact g_iret hq rfl rfl dX6_trip_40 (⟨by rw [if_neg (by omega)], rfl⟩)
  · refine g_iconst dX6_trip_26 ?_
    refine g_goto 40 dX6_trip_27 (by decide) ?_
    exact g_iret hq rfl rfl dX6_trip_40 (⟨by rw [if_pos (by omega)], rfl⟩)

theorem tcnt_le {n c : Int} (hn : 0 ≤ n) (hc : 1 ≤ c) : (if 0 < n then (n - 1) / c + 1 else 0) ≤ 1 ↔ n ≤ c := by
  split
  · constructor
    · intro h
      have h1 : (n - 1) / c ≤ 0 := by omega
      have h2 : (n - 1) / c < 1 := by omega
      rw [Int.ediv_lt_iff_lt_mul (by omega)] at h2
      omega
    · intro h
      have h2 : (n - 1) / c < 1 := by
        rw [Int.ediv_lt_iff_lt_mul (by omega)]
        omega
      omega
  · omega
set_option maxHeartbeats 4000000 in
/-- proved() -/
theorem met_X6_proved {l : Launch} {D : va_G} {τ : Nat → ClassId} {a : Nat → Nat} (ha : Apart (LX τ) a) {V : Mem} (us : Nat) (hok : okC V) (hus : V 0 9 = (us : Int)) : CI l D (tysL τ) (LX τ) a yX6_proved mX6_proved [.ref (a 0)] V (fun z V' => ((z = 1 ∧ ∀ m, m < us → V (15 + 4 * m) 5 ≤ V (15 + 4 * m) 4) ∨ (z = 0 ∧ ¬ ∀ m, m < us → V (15 + 4 * m) 5 ≤ V (15 + 4 * m) 4)) ∧ V' = V) := by
  refine CI.of (by decide +kernel) rfl (Nat.le_of_ble_eq_true rfl) ha (fun x hq => ?_)
  show G l D (tysL τ) (LX τ) a mX6_proved x 0 [(0, .ref (a 0))] [] V
  obtain ⟨k00, k08, k09, k26, k94, k3, k3k, k4, k5, k6, k7, k8, k10, k10k, k11, k12, k13, kn, kc0, ks, kt, kr, kf, ka⟩ := id hok
  refine g_iconst dX6_proved_0 ?_
  refine g_istore_n [(1, .int (iN 0)), (0, .ref (a 0))] dX6_proved_1 rfl (by decide) rfl ?_
  have lp_2 : ∀ (fuel : Nat) (m : Nat), (m ≤ us) → (∀ j, j < m → V (15 + 4 * j) 5 ≤ V (15 + 4 * j) 4) → (us - m) < fuel → G l D (tysL τ) (LX τ) a mX6_proved x 2 [(0, .ref (a 0)), (1, .int (iN (m : Int)))] [] V := by
    intro fuel
    induction fuel with
    | zero => intro m hm0 hh hfu; exact absurd hfu (Nat.not_lt_zero _)
    | succ fuel ih_2 =>
      intro m hm0 hh hfu
      refine g_iload_n 1 dX6_proved_2 rfl rfl ?_
      refine g_aload_n 0 dX6_proved_3 rfl rfl ?_
      refine g_getf 0 (.int (iN (V 0 9))) fX6_52 ox_0 dX6_proved_4 rfl ?_
      refine g_top (show V 0 9 = (us : Int) from hus) ?_
      refine g_icmp_ge 31 dX6_proved_7 (by decide) (fun c_1 => ?_) (fun c_1 => ?_)
      · refine g_iconst dX6_proved_31 ?_
        exact g_iret hq rfl rfl dX6_proved_32 (⟨Or.inl ⟨rfl, by rw [show us = m by omega]; exact hh⟩, rfl⟩)
      · refine g_aload_n 0 dX6_proved_10 rfl rfl ?_
        refine g_getf 0 (.ref (a 14)) fX6_26 ox_0 dX6_proved_11 rfl ?_
        refine g_iload_n 1 dX6_proved_14 rfl rfl ?_
        refine g_aald 14 m ax_14 dX6_proved_15 rfl (by omega) ?_
        have qs := ks m (by omega)
        have qc := kc0 m (by omega)
        have qd : 0 ≤ (V (15 + 4 * m) 5 - 1) / V (15 + 4 * m) 4 ∨ V (15 + 4 * m) 5 ≤ 0 := by
          by_cases h : V (15 + 4 * m) 5 ≤ 0
          · exact Or.inr h
          · exact Or.inl (Int.ediv_nonneg (by omega) (by omega))
        have qe : V (15 + 4 * m) 5 ≤ 0 ∨ (V (15 + 4 * m) 5 - 1) / V (15 + 4 * m) 4 ≤ V (15 + 4 * m) 5 - 1 := by
          by_cases h : V (15 + 4 * m) 5 ≤ 0
          · exact Or.inl h
          · exact Or.inr (Int.ediv_le_self _ (by omega))
        have qf : 0 ≤ (if 0 < V (15 + 4 * m) 5 then (V (15 + 4 * m) 5 - 1) / V (15 + 4 * m) 4 + 1 else 0) ∧ (if 0 < V (15 + 4 * m) 5 then (V (15 + 4 * m) 5 - 1) / V (15 + 4 * m) 4 + 1 else 0) ≤ 40 := by split <;> omega
        refine g_callI (k := 15 + 4 * m) [] (met_X2_tripCount ha (show m < 3 by omega) (ks m (by omega)) (kc0 m (by omega))) vX6_166 (ox_M (m := m) (by omega)) rfl rfl ⟨rfl, rfl, Nat.le_of_ble_eq_true rfl, Nat.le_of_ble_eq_true rfl⟩ rfl (Nat.le_of_ble_eq_true rfl) dX6_proved_16 rfl ?_
        rintro z9 V9 ⟨hz9, hV9⟩
        replace hz9 := hz9.symm
        replace hV9 := hV9.symm
        subst hz9
        subst hV9
        refine g_iconst dX6_proved_19 ?_
        refine g_icmp_le 25 dX6_proved_20 (by decide) (fun c_2 => ?_) (fun c_2 => ?_)
        · refine g_iinc 1 [(1, .int (iN ((m : Int) + 1))), (0, .ref (a 0))] dX6_proved_25 rfl (by decide) rfl ?_
          refine g_goto 2 dX6_proved_28 (by decide) ?_
          refine g_lv [1, 0] rfl ?_
          exact ih_2 (m + 1) (by omega) (fun j hj => by
              by_cases e : j = m
              · subst e; exact (tcnt_le qs.1 qc.1).mp (by omega)
              · exact hh j (by omega)) (by omega)
        · refine g_iconst dX6_proved_23 ?_
          exact g_iret hq rfl rfl dX6_proved_24 (⟨Or.inr ⟨rfl, fun h => absurd ((tcnt_le qs.1 qc.1).mpr (h m (by omega))) (by omega)⟩, rfl⟩)
  refine g_lv [1, 0] rfl ?_
  exact lp_2 _ 0 (Nat.zero_le _) (fun j h => absurd h (Nat.not_lt_zero _)) (Nat.lt_succ_self _)

set_option maxHeartbeats 4000000 in
/-- bound() -/
theorem met_X6_bound {l : Launch} {D : va_G} {τ : Nat → ClassId} {a : Nat → Nat} (ha : Apart (LX τ) a) {V : Mem} (us kc : Nat) (hok : okC V) (hus : V 0 9 = (us : Int)) (hkc : V 2 6 = (kc : Int)) : CL l D (tysL τ) (LX τ) a yX6_bound mX6_bound [.ref (a 0)] V (fun z V' => z = mxF (fun m => sup (V (15 + 4 * m + 3)) (V 8) (V 7) (V 6) kc + 20 * max 0 ((pop8 (nzM (V (15 + 4 * m + 3)) (V 4) kc) : Int) - 1)) us ∧ V' = V) := by
  refine CL.of (by decide +kernel) rfl (Nat.le_of_ble_eq_true rfl) ha (fun x hq => ?_)
  show G l D (tysL τ) (LX τ) a mX6_bound x 0 [(0, .ref (a 0))] [] V
  obtain ⟨k00, k08, k09, k26, k94, k3, k3k, k4, k5, k6, k7, k8, k10, k10k, k11, k12, k13, kn, kc0, ks, kt, kr, kf, ka⟩ := id hok
  refine g_lconst 0 dX6_bound_0 rfl ?_
  refine g_lstore_n [(1, .long (jN 0)), (0, .ref (a 0))] dX6_bound_1 rfl (by decide) rfl ?_
  refine g_iconst dX6_bound_2 ?_
  refine g_istore_n [(3, .int (iN 0)), (1, .long (jN 0)), (0, .ref (a 0))] dX6_bound_3 rfl (by decide) rfl ?_
  have lp_4 : ∀ (fuel : Nat) (m : Nat) (t0 : Int), (m ≤ us) → (t0 = mxF (fun m => sup (V (15 + 4 * m + 3)) (V 8) (V 7) (V 6) kc + 20 * max 0 ((pop8 (nzM (V (15 + 4 * m + 3)) (V 4) kc) : Int) - 1)) m) → (0 ≤ t0 ∧ t0 ≤ 200000000) → (us - m) < fuel → G l D (tysL τ) (LX τ) a mX6_bound x 4 [(0, .ref (a 0)), (1, .long (jN t0)), (3, .int (iN (m : Int)))] [] V := by
    intro fuel
    induction fuel with
    | zero => intro m t0 hm0 ht0 htb hfu; exact absurd hfu (Nat.not_lt_zero _)
    | succ fuel ih_4 =>
      intro m t0 hm0 ht0 htb hfu
      refine g_iload_n 2 dX6_bound_4 rfl rfl ?_
      refine g_aload_n 0 dX6_bound_5 rfl rfl ?_
      refine g_getf 0 (.int (iN (V 0 9))) fX6_52 ox_0 dX6_bound_6 rfl ?_
      refine g_top (show V 0 9 = (us : Int) from hus) ?_
      refine g_icmp_ge 45 dX6_bound_9 (by decide) (fun c_1 => ?_) (fun c_1 => ?_)
      · refine g_lload_n 1 dX6_bound_45 rfl rfl ?_
        exact g_lret hq rfl dX6_bound_46 (⟨by rw [ht0, show m = us by omega], rfl⟩)
      · refine g_lload_n 1 dX6_bound_12 rfl rfl ?_
        refine g_aload_n 0 dX6_bound_13 rfl rfl ?_
        refine g_aload_n 0 dX6_bound_14 rfl rfl ?_
        refine g_getf 0 (.ref (a 14)) fX6_26 ox_0 dX6_bound_15 rfl ?_
        refine g_iload_n 2 dX6_bound_18 rfl rfl ?_
        refine g_aald 14 m ax_14 dX6_bound_19 rfl (by omega) ?_
        have hsup := sup_in (am := V (15 + 4 * m + 3)) (be := V 8) (ab := V 7) (rf := V 6) (n := kc) (fun k hk => (ka m (by omega) k (by omega)).2) (fun k hk => k8 k (by omega)) (fun k hk => k7 k (by omega))
        have hp8 := pop8_le (n := nzM (V (15 + 4 * m + 3)) (V 4) kc)
        refine g_callI (k := 0) [.ref (a (15 + 4 * m))] (met_X6_supplyTime ha (show m < 3 by omega) kc hkc (by omega) (fun k hk => ka m (by omega) k (by omega)) (fun k hk => k8 k (by omega)) (fun k hk => k7 k (by omega)) (fun k hk => k6 k (by omega))) vX6_169 ox_0 rfl rfl ⟨rfl, rfl, Nat.le_of_ble_eq_true rfl, Nat.le_of_ble_eq_true rfl⟩ rfl (Nat.le_of_ble_eq_true rfl) dX6_bound_20 rfl ?_
        rintro z9 V9 ⟨hz9, hV9⟩
        replace hz9 := hz9.symm
        replace hV9 := hV9.symm
        subst hz9
        subst hV9
        refine g_aload_n 0 dX6_bound_23 rfl rfl ?_
        refine g_aload_n 0 dX6_bound_24 rfl rfl ?_
        refine g_getf 0 (.ref (a 14)) fX6_26 ox_0 dX6_bound_25 rfl ?_
        refine g_iload_n 2 dX6_bound_28 rfl rfl ?_
        refine g_aald 14 m ax_14 dX6_bound_29 rfl (by omega) ?_
        refine g_callI (k := 0) [.ref (a (15 + 4 * m))] (met_X6_leastChangeTime ha (show m < 3 by omega) kc hkc (by omega) k4 (fun k hk => ka m (by omega) k (by omega))) vX6_173 ox_0 rfl rfl ⟨rfl, rfl, Nat.le_of_ble_eq_true rfl, Nat.le_of_ble_eq_true rfl⟩ rfl (Nat.le_of_ble_eq_true rfl) dX6_bound_30 rfl ?_
        rintro z9 V9 ⟨hz9, hV9⟩
        replace hz9 := hz9.symm
        replace hV9 := hV9.symm
        subst hz9
        subst hV9
        refine g_iadd dX6_bound_33 ?_
        refine g_i2l dX6_bound_34 (by omega) ?_
        refine g_mmaxl jX6_176 ⟨Nat.le_of_ble_eq_true rfl, Nat.le_of_ble_eq_true rfl⟩ (Nat.le_of_ble_eq_true rfl) dX6_bound_35 (by omega) (by omega) ?_
        refine g_lstore_n [(1, .long (jN (max t0 ((sup (V (15 + 4 * m + 3)) (V 8) (V 7) (V 6) kc) + (20 * max 0 ((pop8 (nzM (V (15 + 4 * m + 3)) (V 4) kc) : Int) - 1)))))), (0, .ref (a 0)), (3, .int (iN (m : Int)))] dX6_bound_38 rfl (by decide) rfl ?_
        refine g_iinc 2 [(3, .int (iN ((m : Int) + 1))), (1, .long (jN (max t0 ((sup (V (15 + 4 * m + 3)) (V 8) (V 7) (V 6) kc) + (20 * max 0 ((pop8 (nzM (V (15 + 4 * m + 3)) (V 4) kc) : Int) - 1)))))), (0, .ref (a 0))] dX6_bound_39 rfl (by decide) rfl ?_
        refine g_goto 4 dX6_bound_42 (by decide) ?_
        refine g_lv [2, 1, 0] rfl ?_
        exact ih_4 (m + 1) (max t0 ((sup (V (15 + 4 * m + 3)) (V 8) (V 7) (V 6) kc) + (20 * max 0 ((pop8 (nzM (V (15 + 4 * m + 3)) (V 4) kc) : Int) - 1)))) (by omega) (by rw [ht0]; rfl) (by omega) (by omega)
  refine g_lv [2, 1, 0] rfl ?_
  exact lp_4 _ 0 0 (Nat.zero_le _) rfl (by omega) (Nat.lt_succ_self _)

set_option maxHeartbeats 4000000 in
/-- machineOf(p) -/
theorem met_X6_machineOf {l : Launch} {D : va_G} {τ : Nat → ClassId} {a : Nat → Nat} (ha : Apart (LX τ) a) {V : Mem} (p : Int) (us : Nat) (hok : okC V) (hus : V 0 9 = (us : Int)) (hp : 0 ≤ p ∧ p < V 9 4) : CI l D (tysL τ) (LX τ) a yX6_machineOf nX6_machineOf [.ref (a 0), .int (iN p)] V (fun z V' => z = hst (fun m => plc (V (15 + 4 * m + 1)) p (V (15 + 4 * m) 5).toNat) us ∧ V' = V) := by
  refine CI.of (by decide +kernel) rfl (Nat.le_of_ble_eq_true rfl) ha (fun x hq => ?_)
  show G l D (tysL τ) (LX τ) a nX6_machineOf x 0 [(0, .ref (a 0)), (1, .int (iN p))] [] V
  obtain ⟨k00, k08, k09, k26, k94, k3, k3k, k4, k5, k6, k7, k8, k10, k10k, k11, k12, k13, kn, kc0, ks, kt, kr, kf, ka⟩ := id hok
  refine g_aload_n 0 dX6_machineOf_0 rfl rfl ?_
  refine g_iload_n 1 dX6_machineOf_1 rfl rfl ?_
  refine g_callV (k := 0) [.int (iN p)] (met_X6_requirePart ha p hok (by omega)) vX6_157 ox_0 rfl rfl ⟨rfl, rfl, Nat.le_of_ble_eq_true rfl, Nat.le_of_ble_eq_true rfl⟩ rfl (Nat.le_of_ble_eq_true rfl) dX6_machineOf_2 rfl ?_
  intro V9 hV9
  replace hV9 := hV9.symm
  subst hV9
  refine g_aload_n 0 dX6_machineOf_5 rfl rfl ?_
  refine g_iload_n 1 dX6_machineOf_6 rfl rfl ?_
  have hh_p := hst_in (pl := (fun m => plc (V (15 + 4 * m + 1)) p (V (15 + 4 * m) 5).toNat)) us
  refine g_callI (k := 0) [.int (iN p)] (met_X6_hostOf_c ha p us hus (by omega) (by omega) ks (fun m hm i hi => by have := kr m hm i hi; omega)) vX6_179 ox_0 rfl rfl ⟨rfl, rfl, Nat.le_of_ble_eq_true rfl, Nat.le_of_ble_eq_true rfl⟩ rfl (Nat.le_of_ble_eq_true rfl) dX6_machineOf_7 rfl ?_
  rintro z9 V9 ⟨hz9, hV9⟩
  replace hz9 := hz9.symm
  replace hV9 := hV9.symm
  subst hz9
  subst hV9
  exact g_iret hq rfl rfl dX6_machineOf_10 (⟨rfl, rfl⟩)

set_option maxHeartbeats 4000000 in
/-- lower(b1, b2) -/
theorem met_X6_lower {l : Launch} {D : va_G} {τ : Nat → ClassId} {a : Nat → Nat} (ha : Apart (LX τ) a) {V : Mem} (b1 b2 : Int) (us : Nat) (hok : okC V) (hus : V 0 9 = (us : Int)) (h1 : 0 ≤ b1 ∧ b1 < V 9 4) (h2 : 0 ≤ b2 ∧ b2 < V 9 4) : CI l D (tysL τ) (LX τ) a yX6_lower nX6_lower [.ref (a 0), .int (iN b1), .int (iN b2)] V (fun z V' => ((z = 1 ∧ (¬ hst (fun m => plc (V (15 + 4 * m + 1)) b1 (V (15 + 4 * m) 5).toNat) us = -1 ∧ ¬ hst (fun m => plc (V (15 + 4 * m + 1)) b2 (V (15 + 4 * m) 5).toNat) us = -1 ∧ ((hst (fun m => plc (V (15 + 4 * m + 1)) b1 (V (15 + 4 * m) 5).toNat) us ≠ hst (fun m => plc (V (15 + 4 * m + 1)) b2 (V (15 + 4 * m) 5).toNat) us ∧ hst (fun m => plc (V (15 + 4 * m + 1)) b1 (V (15 + 4 * m) 5).toNat) us < hst (fun m => plc (V (15 + 4 * m + 1)) b2 (V (15 + 4 * m) 5).toNat) us) ∨ (hst (fun m => plc (V (15 + 4 * m + 1)) b1 (V (15 + 4 * m) 5).toNat) us = hst (fun m => plc (V (15 + 4 * m + 1)) b2 (V (15 + 4 * m) 5).toNat) us ∧ plc (V (15 + 4 * (hst (fun m => plc (V (15 + 4 * m + 1)) b1 (V (15 + 4 * m) 5).toNat) us).toNat + 1)) b1 (V (15 + 4 * (hst (fun m => plc (V (15 + 4 * m + 1)) b1 (V (15 + 4 * m) 5).toNat) us).toNat) 5).toNat < plc (V (15 + 4 * (hst (fun m => plc (V (15 + 4 * m + 1)) b1 (V (15 + 4 * m) 5).toNat) us).toNat + 1)) b2 (V (15 + 4 * (hst (fun m => plc (V (15 + 4 * m + 1)) b1 (V (15 + 4 * m) 5).toNat) us).toNat) 5).toNat)))) ∨ (z = 0 ∧ ¬ (¬ hst (fun m => plc (V (15 + 4 * m + 1)) b1 (V (15 + 4 * m) 5).toNat) us = -1 ∧ ¬ hst (fun m => plc (V (15 + 4 * m + 1)) b2 (V (15 + 4 * m) 5).toNat) us = -1 ∧ ((hst (fun m => plc (V (15 + 4 * m + 1)) b1 (V (15 + 4 * m) 5).toNat) us ≠ hst (fun m => plc (V (15 + 4 * m + 1)) b2 (V (15 + 4 * m) 5).toNat) us ∧ hst (fun m => plc (V (15 + 4 * m + 1)) b1 (V (15 + 4 * m) 5).toNat) us < hst (fun m => plc (V (15 + 4 * m + 1)) b2 (V (15 + 4 * m) 5).toNat) us) ∨ (hst (fun m => plc (V (15 + 4 * m + 1)) b1 (V (15 + 4 * m) 5).toNat) us = hst (fun m => plc (V (15 + 4 * m + 1)) b2 (V (15 + 4 * m) 5).toNat) us ∧ plc (V (15 + 4 * (hst (fun m => plc (V (15 + 4 * m + 1)) b1 (V (15 + 4 * m) 5).toNat) us).toNat + 1)) b1 (V (15 + 4 * (hst (fun m => plc (V (15 + 4 * m + 1)) b1 (V (15 + 4 * m) 5).toNat) us).toNat) 5).toNat < plc (V (15 + 4 * (hst (fun m => plc (V (15 + 4 * m + 1)) b1 (V (15 + 4 * m) 5).toNat) us).toNat + 1)) b2 (V (15 + 4 * (hst (fun m => plc (V (15 + 4 * m + 1)) b1 (V (15 + 4 * m) 5).toNat) us).toNat) 5).toNat))))) ∧ V' = V) := by
  refine CI.of (by decide +kernel) rfl (Nat.le_of_ble_eq_true rfl) ha (fun x hq => ?_)
  show G l D (tysL τ) (LX τ) a nX6_lower x 0 [(0, .ref (a 0)), (1, .int (iN b1)), (2, .int (iN b2))] [] V
  obtain ⟨k00, k08, k09, k26, k94, k3, k3k, k4, k5, k6, k7, k8, k10, k10k, k11, k12, k13, kn, kc0, ks, kt, kr, kf, ka⟩ := id hok
  refine g_aload_n 0 dX6_lower_0 rfl rfl ?_
  refine g_iload_n 1 dX6_lower_1 rfl rfl ?_
  refine g_callV (k := 0) [.int (iN b1)] (met_X6_requirePart ha b1 hok (by omega)) vX6_157 ox_0 rfl rfl ⟨rfl, rfl, Nat.le_of_ble_eq_true rfl, Nat.le_of_ble_eq_true rfl⟩ rfl (Nat.le_of_ble_eq_true rfl) dX6_lower_2 rfl ?_
  intro V9 hV9
  replace hV9 := hV9.symm
  subst hV9
  refine g_aload_n 0 dX6_lower_5 rfl rfl ?_
  refine g_iload_n 2 dX6_lower_6 rfl rfl ?_
  refine g_callV (k := 0) [.int (iN b2)] (met_X6_requirePart ha b2 hok (by omega)) vX6_157 ox_0 rfl rfl ⟨rfl, rfl, Nat.le_of_ble_eq_true rfl, Nat.le_of_ble_eq_true rfl⟩ rfl (Nat.le_of_ble_eq_true rfl) dX6_lower_7 rfl ?_
  intro V9 hV9
  replace hV9 := hV9.symm
  subst hV9
  refine g_aload_n 0 dX6_lower_10 rfl rfl ?_
  refine g_iload_n 1 dX6_lower_11 rfl rfl ?_
  have hh_b1 := hst_in (pl := (fun m => plc (V (15 + 4 * m + 1)) b1 (V (15 + 4 * m) 5).toNat)) us
  refine g_callI (k := 0) [.int (iN b1)] (met_X6_hostOf_c ha b1 us hus (by omega) (by omega) ks (fun m hm i hi => by have := kr m hm i hi; omega)) vX6_179 ox_0 rfl rfl ⟨rfl, rfl, Nat.le_of_ble_eq_true rfl, Nat.le_of_ble_eq_true rfl⟩ rfl (Nat.le_of_ble_eq_true rfl) dX6_lower_12 rfl ?_
  rintro z9 V9 ⟨hz9, hV9⟩
  replace hz9 := hz9.symm
  replace hV9 := hV9.symm
  subst hz9
  subst hV9
  refine g_istore_n [(3, .int (iN (hst (fun m => plc (V (15 + 4 * m + 1)) b1 (V (15 + 4 * m) 5).toNat) us))), (0, .ref (a 0)), (1, .int (iN b1)), (2, .int (iN b2))] dX6_lower_15 rfl (by decide) rfl ?_
  refine g_aload_n 1 dX6_lower_16 rfl rfl ?_
  refine g_iload_n 3 dX6_lower_17 rfl rfl ?_
  have hh_b2 := hst_in (pl := (fun m => plc (V (15 + 4 * m + 1)) b2 (V (15 + 4 * m) 5).toNat)) us
  refine g_callI (k := 0) [.int (iN b2)] (met_X6_hostOf_c ha b2 us hus (by omega) (by omega) ks (fun m hm i hi => by have := kr m hm i hi; omega)) vX6_179 ox_0 rfl rfl ⟨rfl, rfl, Nat.le_of_ble_eq_true rfl, Nat.le_of_ble_eq_true rfl⟩ rfl (Nat.le_of_ble_eq_true rfl) dX6_lower_18 rfl ?_
  rintro z9 V9 ⟨hz9, hV9⟩
  replace hz9 := hz9.symm
  replace hV9 := hV9.symm
  subst hz9
  subst hV9
  refine g_istore [(4, .int (iN (hst (fun m => plc (V (15 + 4 * m + 1)) b2 (V (15 + 4 * m) 5).toNat) us))), (3, .int (iN (hst (fun m => plc (V (15 + 4 * m + 1)) b1 (V (15 + 4 * m) 5).toNat) us))), (0, .ref (a 0)), (1, .int (iN b1)), (2, .int (iN b2))] dX6_lower_21 (by decide) rfl ?_
  refine g_iload_n 1 dX6_lower_23 rfl rfl ?_
  refine g_iconst dX6_lower_24 ?_
  refine g_icmp_eq 34 dX6_lower_25 (by decide) (fun c_1 => ?_) (fun c_1 => ?_)
  · refine g_iconst dX6_lower_34 ?_
    exact g_iret hq rfl rfl dX6_lower_35 (⟨Or.inr ⟨rfl, by omega⟩, rfl⟩)
  · refine g_iload 0 dX6_lower_28 rfl ?_
    refine g_iconst dX6_lower_30 ?_
    refine g_icmp_ne 36 dX6_lower_31 (by decide) (fun c_2 => ?_) (fun c_2 => ?_)
    · refine g_iload_n 1 dX6_lower_36 rfl rfl ?_
      refine g_iload 0 dX6_lower_37 rfl ?_
      refine g_icmp_eq 54 dX6_lower_39 (by decide) (fun c_3 => ?_) (fun c_3 => ?_)
      · have hq1 := plc_in (f := V (15 + 4 * (hst (fun m => plc (V (15 + 4 * m + 1)) b1 (V (15 + 4 * m) 5).toNat) us).toNat + 1)) (p := b1) (V (15 + 4 * (hst (fun m => plc (V (15 + 4 * m + 1)) b1 (V (15 + 4 * m) 5).toNat) us).toNat) 5).toNat
        have hq2 := plc_in (f := V (15 + 4 * (hst (fun m => plc (V (15 + 4 * m + 1)) b1 (V (15 + 4 * m) 5).toNat) us).toNat + 1)) (p := b2) (V (15 + 4 * (hst (fun m => plc (V (15 + 4 * m + 1)) b1 (V (15 + 4 * m) 5).toNat) us).toNat) 5).toNat
        have qs := ks (hst (fun m => plc (V (15 + 4 * m + 1)) b1 (V (15 + 4 * m) 5).toNat) us).toNat (by omega)
        refine g_aload_n 2 dX6_lower_54 rfl rfl ?_
        refine g_getf 0 (.ref (a 14)) fX6_26 ox_0 dX6_lower_55 rfl ?_
        refine g_iload_n 1 dX6_lower_58 rfl rfl ?_
        refine g_aald 14 ((hst (fun m => plc (V (15 + 4 * m + 1)) b1 (V (15 + 4 * m) 5).toNat) us).toNat) ax_14 dX6_lower_59 (by omega) (by omega) ?_
        refine g_iload_n 3 dX6_lower_60 rfl rfl ?_
        refine g_callI (k := 15 + 4 * ((hst (fun m => plc (V (15 + 4 * m + 1)) b1 (V (15 + 4 * m) 5).toNat) us).toNat)) [.int (iN b1)] (met_X2_placeOf_c ha (m := (hst (fun m => plc (V (15 + 4 * m + 1)) b1 (V (15 + 4 * m) 5).toNat) us).toNat) (by omega) b1 (by omega) (ks _ (by omega)) (fun i hi => by have := kr _ (by omega) i hi; omega)) vX6_160 (ox_M (m := (hst (fun m => plc (V (15 + 4 * m + 1)) b1 (V (15 + 4 * m) 5).toNat) us).toNat) (by omega)) rfl rfl ⟨rfl, rfl, Nat.le_of_ble_eq_true rfl, Nat.le_of_ble_eq_true rfl⟩ rfl (Nat.le_of_ble_eq_true rfl) dX6_lower_61 rfl ?_
        rintro z9 V9 ⟨hz9, hV9⟩
        replace hz9 := hz9.symm
        replace hV9 := hV9.symm
        subst hz9
        subst hV9
        refine g_aload_n 2 dX6_lower_64 rfl rfl ?_
        refine g_getf 0 (.ref (a 14)) fX6_26 ox_0 dX6_lower_65 rfl ?_
        refine g_iload_n 1 dX6_lower_68 rfl rfl ?_
        refine g_aald 14 ((hst (fun m => plc (V (15 + 4 * m + 1)) b1 (V (15 + 4 * m) 5).toNat) us).toNat) ax_14 dX6_lower_69 (by omega) (by omega) ?_
        refine g_iload_n 4 dX6_lower_70 rfl rfl ?_
        refine g_callI (k := 15 + 4 * ((hst (fun m => plc (V (15 + 4 * m + 1)) b1 (V (15 + 4 * m) 5).toNat) us).toNat)) [.int (iN b2)] (met_X2_placeOf_c ha (m := (hst (fun m => plc (V (15 + 4 * m + 1)) b1 (V (15 + 4 * m) 5).toNat) us).toNat) (by omega) b2 (by omega) (ks _ (by omega)) (fun i hi => by have := kr _ (by omega) i hi; omega)) vX6_160 (ox_M (m := (hst (fun m => plc (V (15 + 4 * m + 1)) b1 (V (15 + 4 * m) 5).toNat) us).toNat) (by omega)) rfl rfl ⟨rfl, rfl, Nat.le_of_ble_eq_true rfl, Nat.le_of_ble_eq_true rfl⟩ rfl (Nat.le_of_ble_eq_true rfl) dX6_lower_71 rfl ?_
        rintro z9 V9 ⟨hz9, hV9⟩
        replace hz9 := hz9.symm
        replace hV9 := hV9.symm
        subst hz9
        subst hV9
        refine g_icmp_ge 81 dX6_lower_74 (by decide) (fun c_4 => ?_) (fun c_4 => ?_)
        · refine g_iconst dX6_lower_81 ?_
          exact g_iret hq rfl rfl dX6_lower_82 (⟨Or.inr ⟨rfl, by omega⟩, rfl⟩)
        · refine g_iconst dX6_lower_77 ?_
          refine g_goto 82 dX6_lower_78 (by decide) ?_
          exact g_iret hq rfl rfl dX6_lower_82 (⟨Or.inl ⟨rfl, by omega⟩, rfl⟩)
      · refine g_iload_n 1 dX6_lower_42 rfl rfl ?_
        refine g_iload 0 dX6_lower_43 rfl ?_
        refine g_icmp_ge 52 dX6_lower_45 (by decide) (fun c_5 => ?_) (fun c_5 => ?_)
        · refine g_iconst dX6_lower_52 ?_
          exact g_iret hq rfl rfl dX6_lower_53 (⟨Or.inr ⟨rfl, by omega⟩, rfl⟩)
        · refine g_iconst dX6_lower_48 ?_
          refine g_goto 53 dX6_lower_49 (by decide) ?_
          exact g_iret hq rfl rfl dX6_lower_53 (⟨Or.inl ⟨rfl, by omega⟩, rfl⟩)
    · refine g_iconst dX6_lower_34 ?_
      exact g_iret hq rfl rfl dX6_lower_35 (⟨Or.inr ⟨rfl, by omega⟩, rfl⟩)

set_option maxHeartbeats 4000000 in
/-- refill(k, n) -/
theorem met_X6_refill {l : Launch} {D : va_G} {τ : Nat → ClassId} {a : Nat → Nat} (ha : Apart (LX τ) a) {V : Mem} (k : Nat) (n : Int) (hok : okC V) (hk : (k : Int) < V 2 6) (hn : 0 ≤ n ∧ n ≤ 2147483647) : CI l D (tysL τ) (LX τ) a yX6_refill nX6_refill [.ref (a 0), .int (iN (k : Int)), .int (iN n)] V (fun z V' => ((z = 1 ∧ V 6 k ≠ n) ∨ (z = 0 ∧ V 6 k = n)) ∧ V' = up V 6 k n) := by
  refine CI.of (by decide +kernel) rfl (Nat.le_of_ble_eq_true rfl) ha (fun x hq => ?_)
  show G l D (tysL τ) (LX τ) a nX6_refill x 0 [(0, .ref (a 0)), (1, .int (iN (k : Int))), (2, .int (iN n))] [] V
  obtain ⟨k00, k08, k09, k26, k94, k3, k3k, k4, k5, k6, k7, k8, k10, k10k, k11, k12, k13, kn, kc0, ks, kt, kr, kf, ka⟩ := id hok
  have q6 := k6 k (by omega)
  refine g_aload_n 0 dX6_refill_0 rfl rfl ?_
  refine g_iload_n 1 dX6_refill_1 rfl rfl ?_
  refine g_callV (k := 0) [.int (iN (k : Int))] (met_X6_requireKind ha (k : Int) hok (by omega)) vX6_88 ox_0 rfl rfl ⟨rfl, rfl, Nat.le_of_ble_eq_true rfl, Nat.le_of_ble_eq_true rfl⟩ rfl (Nat.le_of_ble_eq_true rfl) dX6_refill_2 rfl ?_
  intro V9 hV9
  replace hV9 := hV9.symm
  subst hV9
  refine g_iload_n 2 dX6_refill_5 rfl rfl ?_
  refine g_if_ge 19 dX6_refill_6 (by decide) (fun c_1 => ?_) (fun c_1 => ?_)
  · refine g_aload_n 0 dX6_refill_19 rfl rfl ?_
    refine g_getf 0 (.ref (a 2)) fX6_10 ox_0 dX6_refill_20 rfl ?_
    refine g_getf 2 (.ref (a 6)) fX6_184 ox_2 dX6_refill_23 rfl ?_
    refine g_iload_n 1 dX6_refill_26 rfl rfl ?_
    refine g_iald 6 k ax_6 dX6_refill_27 rfl (by omega) ?_
    refine g_iload_n 2 dX6_refill_28 rfl rfl ?_
    refine g_icmp_eq 36 dX6_refill_29 (by decide) (fun c_2 => ?_) (fun c_2 => ?_)
    · refine g_iconst dX6_refill_36 ?_
      refine g_istore_n [(3, .int (iN 0)), (0, .ref (a 0)), (1, .int (iN (k : Int))), (2, .int (iN n))] dX6_refill_37 rfl (by decide) rfl ?_
      refine g_aload_n 1 dX6_refill_38 rfl rfl ?_
      refine g_getf 0 (.ref (a 2)) fX6_10 ox_0 dX6_refill_39 rfl ?_
      refine g_getf 2 (.ref (a 6)) fX6_184 ox_2 dX6_refill_42 rfl ?_
      refine g_iload_n 2 dX6_refill_45 rfl rfl ?_
      refine g_iload_n 3 dX6_refill_46 rfl rfl ?_
      refine g_iast 6 k ax_6 dX6_refill_47 rfl (by omega) ?_
      obtain ⟨V_3, eV_3⟩ : ∃ V9 : Mem, V9 = up V 6 k n := ⟨_, rfl⟩
      refine g_mem eV_3.symm ?_
      refine g_iload_n 0 dX6_refill_48 rfl rfl ?_
      exact g_iret hq rfl rfl dX6_refill_49 (⟨Or.inr ⟨rfl, by omega⟩, eV_3⟩)
    · refine g_iconst dX6_refill_32 ?_
      refine g_goto 37 dX6_refill_33 (by decide) ?_
      refine g_istore_n [(3, .int (iN 1)), (0, .ref (a 0)), (1, .int (iN (k : Int))), (2, .int (iN n))] dX6_refill_37 rfl (by decide) rfl ?_
      refine g_aload_n 1 dX6_refill_38 rfl rfl ?_
      refine g_getf 0 (.ref (a 2)) fX6_10 ox_0 dX6_refill_39 rfl ?_
      refine g_getf 2 (.ref (a 6)) fX6_184 ox_2 dX6_refill_42 rfl ?_
      refine g_iload_n 2 dX6_refill_45 rfl rfl ?_
      refine g_iload_n 3 dX6_refill_46 rfl rfl ?_
      refine g_iast 6 k ax_6 dX6_refill_47 rfl (by omega) ?_
      obtain ⟨V_4, eV_4⟩ : ∃ V9 : Mem, V9 = up V 6 k n := ⟨_, rfl⟩
      refine g_mem eV_4.symm ?_
      refine g_iload_n 0 dX6_refill_48 rfl rfl ?_
      exact g_iret hq rfl rfl dX6_refill_49 (⟨Or.inl ⟨rfl, by omega⟩, eV_4⟩)
  · omega

set_option maxHeartbeats 4000000 in
/-- reject(k, n, d) -/
theorem met_X6_reject {l : Launch} {D : va_G} {τ : Nat → ClassId} {a : Nat → Nat} (ha : Apart (LX τ) a) {V : Mem} (k : Nat) (n d : Int) (hok : okC V) (hk : (k : Int) < V 2 6) (hd : 1 ≤ d ∧ d ≤ 1000) (hn : 0 ≤ n ∧ n < d) : CI l D (tysL τ) (LX τ) a yX6_reject nX6_reject [.ref (a 0), .int (iN (k : Int)), .long (jN n), .long (jN d)] V (fun z V' => ((z = 1 ∧ ¬ (V 7 k = n ∧ V 8 k = d)) ∨ (z = 0 ∧ V 7 k = n ∧ V 8 k = d)) ∧ V' = up (up V 7 k n) 8 k d) := by
  refine CI.of (by decide +kernel) rfl (Nat.le_of_ble_eq_true rfl) ha (fun x hq => ?_)
  show G l D (tysL τ) (LX τ) a nX6_reject x 0 [(0, .ref (a 0)), (1, .int (iN (k : Int))), (2, .long (jN n)), (4, .long (jN d))] [] V
  obtain ⟨k00, k08, k09, k26, k94, k3, k3k, k4, k5, k6, k7, k8, k10, k10k, k11, k12, k13, kn, kc0, ks, kt, kr, kf, ka⟩ := id hok
  have q7 := k7 k (by omega)
  have q8 := k8 k (by omega)
  refine g_aload_n 0 dX6_reject_0 rfl rfl ?_
  refine g_iload_n 1 dX6_reject_1 rfl rfl ?_
  refine g_callV (k := 0) [.int (iN (k : Int))] (met_X6_requireKind ha (k : Int) hok (by omega)) vX6_88 ox_0 rfl rfl ⟨rfl, rfl, Nat.le_of_ble_eq_true rfl, Nat.le_of_ble_eq_true rfl⟩ rfl (Nat.le_of_ble_eq_true rfl) dX6_reject_2 rfl ?_
  intro V9 hV9
  replace hV9 := hV9.symm
  subst hV9
  refine g_lload 3 dX6_reject_5 rfl ?_
  refine g_lconst 1 dX6_reject_7 rfl ?_
  refine g_lcmp (cmpz d 1) dX6_reject_8 (cmpz_j (by omega) (by omega)) ?_
  have hcmp_1 := cmpz_c d 1
  refine g_if_lt 21 dX6_reject_9 (by decide) (fun c_2 => ?_) (fun c_2 => ?_)
  · omega
  · refine g_lload 3 dX6_reject_12 rfl ?_
    refine g_ldc2 1000 kX6_187 rfl dX6_reject_14 ?_
    refine g_lcmp (cmpz d 1000) dX6_reject_17 (cmpz_j (by omega) (by omega)) ?_
    have hcmp_3 := cmpz_c d 1000
    refine g_if_le 31 dX6_reject_18 (by decide) (fun c_4 => ?_) (fun c_4 => ?_)
    · refine g_lload_n 2 dX6_reject_31 rfl rfl ?_
      refine g_lconst 0 dX6_reject_32 rfl ?_
      refine g_lcmp (cmpz n 0) dX6_reject_33 (cmpz_j (by omega) (by omega)) ?_
      have hcmp_5 := cmpz_c n 0
      refine g_if_lt 44 dX6_reject_34 (by decide) (fun c_6 => ?_) (fun c_6 => ?_)
      · omega
      · refine g_lload_n 2 dX6_reject_37 rfl rfl ?_
        refine g_lload 3 dX6_reject_38 rfl ?_
        refine g_lcmp (cmpz n d) dX6_reject_40 (cmpz_j (by omega) (by omega)) ?_
        have hcmp_7 := cmpz_c n d
        refine g_if_lt 54 dX6_reject_41 (by decide) (fun c_8 => ?_) (fun c_8 => ?_)
        · refine g_aload_n 0 dX6_reject_54 rfl rfl ?_
          refine g_getf 0 (.ref (a 2)) fX6_10 ox_0 dX6_reject_55 rfl ?_
          refine g_getf 2 (.ref (a 7)) fX6_193 ox_2 dX6_reject_58 rfl ?_
          refine g_iload_n 1 dX6_reject_61 rfl rfl ?_
          refine g_iald 7 k ax_7 dX6_reject_62 rfl (by omega) ?_
          refine g_i2l dX6_reject_63 (by omega) ?_
          refine g_lload_n 2 dX6_reject_64 rfl rfl ?_
          refine g_lcmp (cmpz (V 7 k) n) dX6_reject_65 (cmpz_j (by omega) (by omega)) ?_
          have hcmp_9 := cmpz_c (V 7 k) n
          refine g_if_ne 85 dX6_reject_66 (by decide) (fun c_10 => ?_) (fun c_10 => ?_)
          · refine g_iconst dX6_reject_85 ?_
            refine g_goto 90 dX6_reject_86 (by decide) ?_
            refine g_istore [(6, .int (iN 1)), (0, .ref (a 0)), (1, .int (iN (k : Int))), (2, .long (jN n)), (4, .long (jN d))] dX6_reject_90 (by decide) rfl ?_
            refine g_aload_n 1 dX6_reject_92 rfl rfl ?_
            refine g_getf 0 (.ref (a 2)) fX6_10 ox_0 dX6_reject_93 rfl ?_
            refine g_getf 2 (.ref (a 7)) fX6_193 ox_2 dX6_reject_96 rfl ?_
            refine g_iload_n 2 dX6_reject_99 rfl rfl ?_
            refine g_lload_n 3 dX6_reject_100 rfl rfl ?_
            refine g_l2i dX6_reject_101 ?_
            refine g_iast 7 k ax_7 dX6_reject_102 rfl (by omega) ?_
            obtain ⟨V_11, eV_11⟩ : ∃ V9 : Mem, V9 = up V 7 k n := ⟨_, rfl⟩
            refine g_mem eV_11.symm ?_
            refine g_aload_n 1 dX6_reject_103 rfl rfl ?_
            refine g_getf 0 (.ref (a 2)) fX6_10 ox_0 dX6_reject_104 rfl ?_
            refine g_getf 2 (.ref (a 8)) fX6_196 ox_2 dX6_reject_107 rfl ?_
            refine g_iload_n 2 dX6_reject_110 rfl rfl ?_
            refine g_lload 4 dX6_reject_111 rfl ?_
            refine g_l2i dX6_reject_113 ?_
            refine g_iast 8 k ax_8 dX6_reject_114 rfl (by omega) ?_
            obtain ⟨V_12, eV_12⟩ : ∃ V9 : Mem, V9 = up V_11 8 k d := ⟨_, rfl⟩
            refine g_mem eV_12.symm ?_
            refine g_iload 0 dX6_reject_115 rfl ?_
            exact g_iret hq rfl rfl dX6_reject_117 (⟨Or.inl ⟨rfl, by omega⟩, by rw [eV_12, eV_11]⟩)
          · refine g_aload_n 0 dX6_reject_69 rfl rfl ?_
            refine g_getf 0 (.ref (a 2)) fX6_10 ox_0 dX6_reject_70 rfl ?_
            refine g_getf 2 (.ref (a 8)) fX6_196 ox_2 dX6_reject_73 rfl ?_
            refine g_iload_n 1 dX6_reject_76 rfl rfl ?_
            refine g_iald 8 k ax_8 dX6_reject_77 rfl (by omega) ?_
            refine g_i2l dX6_reject_78 (by omega) ?_
            refine g_lload 3 dX6_reject_79 rfl ?_
            refine g_lcmp (cmpz (V 8 k) d) dX6_reject_81 (cmpz_j (by omega) (by omega)) ?_
            have hcmp_13 := cmpz_c (V 8 k) d
            refine g_if_eq 89 dX6_reject_82 (by decide) (fun c_14 => ?_) (fun c_14 => ?_)
            · refine g_iconst dX6_reject_89 ?_
              refine g_istore [(6, .int (iN 0)), (0, .ref (a 0)), (1, .int (iN (k : Int))), (2, .long (jN n)), (4, .long (jN d))] dX6_reject_90 (by decide) rfl ?_
              refine g_aload_n 1 dX6_reject_92 rfl rfl ?_
              refine g_getf 0 (.ref (a 2)) fX6_10 ox_0 dX6_reject_93 rfl ?_
              refine g_getf 2 (.ref (a 7)) fX6_193 ox_2 dX6_reject_96 rfl ?_
              refine g_iload_n 2 dX6_reject_99 rfl rfl ?_
              refine g_lload_n 3 dX6_reject_100 rfl rfl ?_
              refine g_l2i dX6_reject_101 ?_
              refine g_iast 7 k ax_7 dX6_reject_102 rfl (by omega) ?_
              obtain ⟨V_15, eV_15⟩ : ∃ V9 : Mem, V9 = up V 7 k n := ⟨_, rfl⟩
              refine g_mem eV_15.symm ?_
              refine g_aload_n 1 dX6_reject_103 rfl rfl ?_
              refine g_getf 0 (.ref (a 2)) fX6_10 ox_0 dX6_reject_104 rfl ?_
              refine g_getf 2 (.ref (a 8)) fX6_196 ox_2 dX6_reject_107 rfl ?_
              refine g_iload_n 2 dX6_reject_110 rfl rfl ?_
              refine g_lload 4 dX6_reject_111 rfl ?_
              refine g_l2i dX6_reject_113 ?_
              refine g_iast 8 k ax_8 dX6_reject_114 rfl (by omega) ?_
              obtain ⟨V_16, eV_16⟩ : ∃ V9 : Mem, V9 = up V_15 8 k d := ⟨_, rfl⟩
              refine g_mem eV_16.symm ?_
              refine g_iload 0 dX6_reject_115 rfl ?_
              exact g_iret hq rfl rfl dX6_reject_117 (⟨Or.inr ⟨rfl, by omega⟩, by rw [eV_16, eV_15]⟩)
            · refine g_iconst dX6_reject_85 ?_
              refine g_goto 90 dX6_reject_86 (by decide) ?_
              refine g_istore [(6, .int (iN 1)), (0, .ref (a 0)), (1, .int (iN (k : Int))), (2, .long (jN n)), (4, .long (jN d))] dX6_reject_90 (by decide) rfl ?_
              refine g_aload_n 1 dX6_reject_92 rfl rfl ?_
              refine g_getf 0 (.ref (a 2)) fX6_10 ox_0 dX6_reject_93 rfl ?_
              refine g_getf 2 (.ref (a 7)) fX6_193 ox_2 dX6_reject_96 rfl ?_
              refine g_iload_n 2 dX6_reject_99 rfl rfl ?_
              refine g_lload_n 3 dX6_reject_100 rfl rfl ?_
              refine g_l2i dX6_reject_101 ?_
              refine g_iast 7 k ax_7 dX6_reject_102 rfl (by omega) ?_
              obtain ⟨V_17, eV_17⟩ : ∃ V9 : Mem, V9 = up V 7 k n := ⟨_, rfl⟩
              refine g_mem eV_17.symm ?_
              refine g_aload_n 1 dX6_reject_103 rfl rfl ?_
              refine g_getf 0 (.ref (a 2)) fX6_10 ox_0 dX6_reject_104 rfl ?_
              refine g_getf 2 (.ref (a 8)) fX6_196 ox_2 dX6_reject_107 rfl ?_
              refine g_iload_n 2 dX6_reject_110 rfl rfl ?_
              refine g_lload 4 dX6_reject_111 rfl ?_
              refine g_l2i dX6_reject_113 ?_
              refine g_iast 8 k ax_8 dX6_reject_114 rfl (by omega) ?_
              obtain ⟨V_18, eV_18⟩ : ∃ V9 : Mem, V9 = up V_17 8 k d := ⟨_, rfl⟩
              refine g_mem eV_18.symm ?_
              refine g_iload 0 dX6_reject_115 rfl ?_
              exact g_iret hq rfl rfl dX6_reject_117 (⟨Or.inl ⟨rfl, by omega⟩, by rw [eV_18, eV_17]⟩)
        · omega
    · omega

set_option maxHeartbeats 4000000 in
/-- common(m, n) -/
theorem met_X6_common {l : Launch} {D : va_G} {τ : Nat → ClassId} {a : Nat → Nat} (ha : Apart (LX τ) a) {V : Mem} (m n kc : Nat) (hok : okC V) (hkc : V 2 6 = (kc : Int)) (hm : (m : Int) < V 0 8) (hn : (n : Int) < V 0 8) : CI l D (tysL τ) (LX τ) a yX6_common nX6_common [.ref (a 0), .int (iN (m : Int)), .int (iN (n : Int))] V (fun z V' => ((z = 1 ∧ ∀ k, k < kc → (V (15 + 4 * m + 2) k ≠ -1 ∨ V (15 + 4 * n + 2) k ≠ -1) → ((V (15 + 4 * m) 3).toNat / 2 ^ (V 4 k).toNat % 2 = 1 ∧ (V (15 + 4 * n) 3).toNat / 2 ^ (V 4 k).toNat % 2 = 1)) ∨ (z = 0 ∧ ¬ (∀ k, k < kc → (V (15 + 4 * m + 2) k ≠ -1 ∨ V (15 + 4 * n + 2) k ≠ -1) → ((V (15 + 4 * m) 3).toNat / 2 ^ (V 4 k).toNat % 2 = 1 ∧ (V (15 + 4 * n) 3).toNat / 2 ^ (V 4 k).toNat % 2 = 1)))) ∧ V' = V) := by
  refine CI.of (by decide +kernel) rfl (Nat.le_of_ble_eq_true rfl) ha (fun x hq => ?_)
  show G l D (tysL τ) (LX τ) a nX6_common x 0 [(0, .ref (a 0)), (1, .int (iN (m : Int))), (2, .int (iN (n : Int)))] [] V
  obtain ⟨k00, k08, k09, k26, k94, k3, k3k, k4, k5, k6, k7, k8, k10, k10k, k11, k12, k13, kn, kc0, ks, kt, kr, kf, ka⟩ := id hok
  refine g_aload_n 0 dX6_common_0 rfl rfl ?_
  refine g_iload_n 1 dX6_common_1 rfl rfl ?_
  refine g_callV (k := 0) [.int (iN (m : Int))] (met_X6_requireMachine ha (m : Int) hok (by omega)) vX6_148 ox_0 rfl rfl ⟨rfl, rfl, Nat.le_of_ble_eq_true rfl, Nat.le_of_ble_eq_true rfl⟩ rfl (Nat.le_of_ble_eq_true rfl) dX6_common_2 rfl ?_
  intro V9 hV9
  replace hV9 := hV9.symm
  subst hV9
  refine g_aload_n 0 dX6_common_5 rfl rfl ?_
  refine g_iload_n 2 dX6_common_6 rfl rfl ?_
  refine g_callV (k := 0) [.int (iN (n : Int))] (met_X6_requireMachine ha (n : Int) hok (by omega)) vX6_148 ox_0 rfl rfl ⟨rfl, rfl, Nat.le_of_ble_eq_true rfl, Nat.le_of_ble_eq_true rfl⟩ rfl (Nat.le_of_ble_eq_true rfl) dX6_common_7 rfl ?_
  intro V9 hV9
  replace hV9 := hV9.symm
  subst hV9
  refine g_aload_n 0 dX6_common_10 rfl rfl ?_
  refine g_getf 0 (.ref (a 14)) fX6_26 ox_0 dX6_common_11 rfl ?_
  refine g_iload_n 1 dX6_common_14 rfl rfl ?_
  refine g_aald 14 m ax_14 dX6_common_15 rfl (by omega) ?_
  refine g_astore_n [(3, .ref (a (15 + 4 * m))), (0, .ref (a 0)), (1, .int (iN (m : Int))), (2, .int (iN (n : Int)))] dX6_common_16 rfl (by decide) rfl ?_
  refine g_aload_n 1 dX6_common_17 rfl rfl ?_
  refine g_getf 0 (.ref (a 14)) fX6_26 ox_0 dX6_common_18 rfl ?_
  refine g_iload_n 3 dX6_common_21 rfl rfl ?_
  refine g_aald 14 n ax_14 dX6_common_22 rfl (by omega) ?_
  refine g_astore [(4, .ref (a (15 + 4 * n))), (3, .ref (a (15 + 4 * m))), (0, .ref (a 0)), (1, .int (iN (m : Int))), (2, .int (iN (n : Int)))] dX6_common_23 (by decide) rfl ?_
  refine g_iconst dX6_common_25 ?_
  refine g_istore [(5, .int (iN 0)), (4, .ref (a (15 + 4 * n))), (3, .ref (a (15 + 4 * m))), (0, .ref (a 0)), (1, .int (iN (m : Int))), (2, .int (iN (n : Int)))] dX6_common_26 (by decide) rfl ?_
  have lp_28 : ∀ (fuel : Nat) (k : Nat), (k ≤ kc) → (∀ j, j < k → (V (15 + 4 * m + 2) j ≠ -1 ∨ V (15 + 4 * n + 2) j ≠ -1) → ((V (15 + 4 * m) 3).toNat / 2 ^ (V 4 j).toNat % 2 = 1 ∧ (V (15 + 4 * n) 3).toNat / 2 ^ (V 4 j).toNat % 2 = 1)) → (kc - k) < fuel → G l D (tysL τ) (LX τ) a nX6_common x 28 [(0, .ref (a 0)), (1, .int (iN (m : Int))), (2, .int (iN (n : Int))), (3, .ref (a (15 + 4 * m))), (4, .ref (a (15 + 4 * n))), (5, .int (iN (k : Int)))] [] V := by
    intro fuel
    induction fuel with
    | zero => intro k hk hh hfu; exact absurd hfu (Nat.not_lt_zero _)
    | succ fuel ih_28 =>
      intro k hk hh hfu
      have q4 := k4 k
      have qf := kf m (by omega) k
      have qg := kf n (by omega) k
      refine g_iload 5 dX6_common_28 rfl ?_
      refine g_aload_n 0 dX6_common_30 rfl rfl ?_
      refine g_getf 0 (.ref (a 2)) fX6_10 ox_0 dX6_common_31 rfl ?_
      refine g_getf 2 (.int (iN (V 2 6))) fX6_199 ox_2 dX6_common_34 rfl ?_
      refine g_top (show V 2 6 = (kc : Int) from hkc) ?_
      refine g_icmp_ge 118 dX6_common_37 (by decide) (fun c_1 => ?_) (fun c_1 => ?_)
      · refine g_iconst dX6_common_118 ?_
        exact g_iret hq rfl rfl dX6_common_119 (⟨Or.inl ⟨rfl, by rw [show kc = k by omega]; exact hh⟩, rfl⟩)
      · refine g_aload_n 3 dX6_common_40 rfl rfl ?_
        refine g_getf (15 + 4 * m) (.ref (a (15 + 4 * m + 2))) fX6_151 (ox_M (m := m) (by omega)) dX6_common_41 rfl ?_
        refine g_iload 5 dX6_common_44 rfl ?_
        refine g_iald (15 + 4 * m + 2) k (ax_F (m := m) (by omega)) dX6_common_46 rfl (by omega) ?_
        refine g_iconst dX6_common_47 ?_
        refine g_icmp_ne 63 dX6_common_48 (by decide) (fun c_2 => ?_) (fun c_2 => ?_)
        · refine g_iconst dX6_common_63 ?_
          refine g_goto 68 dX6_common_64 (by decide) ?_
          refine g_istore [(6, .int (iN 1)), (0, .ref (a 0)), (1, .int (iN (m : Int))), (2, .int (iN (n : Int))), (3, .ref (a (15 + 4 * m))), (4, .ref (a (15 + 4 * n))), (5, .int (iN (k : Int)))] dX6_common_68 (by decide) rfl ?_
          refine g_iload 0 dX6_common_70 rfl ?_
          refine g_if_eq 112 dX6_common_72 (by decide) (fun c_3 => absurd c_3 (by decide)) (fun _ => ?_)
          refine g_aload_n 4 dX6_common_75 rfl rfl ?_
          refine g_aload_n 1 dX6_common_76 rfl rfl ?_
          refine g_getf 0 (.ref (a 2)) fX6_10 ox_0 dX6_common_77 rfl ?_
          refine g_getf 2 (.ref (a 4)) fX6_202 ox_2 dX6_common_80 rfl ?_
          refine g_iload 6 dX6_common_83 rfl ?_
          refine g_iald 4 k ax_4 dX6_common_85 rfl (by omega) ?_
          refine g_top (show V 4 k = (((V 4 k).toNat : Nat) : Int) from by omega) ?_
          refine g_callI (k := 15 + 4 * m) [.int (iN (((V 4 k).toNat : Nat) : Int))] (met_X2_hasNozzle ha (show m < 3 by omega) (V 4 k).toNat (by omega) (kn m (by omega))) vX6_204 (ox_M (m := m) (by omega)) rfl rfl ⟨rfl, rfl, Nat.le_of_ble_eq_true rfl, Nat.le_of_ble_eq_true rfl⟩ rfl (Nat.le_of_ble_eq_true rfl) dX6_common_86 rfl ?_
          rintro z9 V9 ⟨hp9, hV9⟩
          replace hV9 := hV9.symm
          subst hV9
          rcases hp9 with ⟨hz9, b_4⟩ | ⟨hz9, b_4⟩
          · subst hz9
            refine g_if_eq 110 dX6_common_89 (by decide) (fun c_5 => absurd c_5 (by decide)) (fun _ => ?_)
            refine g_aload 5 dX6_common_92 rfl ?_
            refine g_aload_n 1 dX6_common_94 rfl rfl ?_
            refine g_getf 0 (.ref (a 2)) fX6_10 ox_0 dX6_common_95 rfl ?_
            refine g_getf 2 (.ref (a 4)) fX6_202 ox_2 dX6_common_98 rfl ?_
            refine g_iload 6 dX6_common_101 rfl ?_
            refine g_iald 4 k ax_4 dX6_common_103 rfl (by omega) ?_
            refine g_top (show V 4 k = (((V 4 k).toNat : Nat) : Int) from by omega) ?_
            refine g_callI (k := 15 + 4 * n) [.int (iN (((V 4 k).toNat : Nat) : Int))] (met_X2_hasNozzle ha (show n < 3 by omega) (V 4 k).toNat (by omega) (kn n (by omega))) vX6_204 (ox_M (m := n) (by omega)) rfl rfl ⟨rfl, rfl, Nat.le_of_ble_eq_true rfl, Nat.le_of_ble_eq_true rfl⟩ rfl (Nat.le_of_ble_eq_true rfl) dX6_common_104 rfl ?_
            rintro z9 V9 ⟨hp9, hV9⟩
            replace hV9 := hV9.symm
            subst hV9
            rcases hp9 with ⟨hz9, b_6⟩ | ⟨hz9, b_6⟩
            · subst hz9
              refine g_if_ne 112 dX6_common_107 (by decide) (fun _ => ?_) (fun c_7 => absurd c_7 (by decide))
              refine g_iinc 6 [(5, .int (iN ((k : Int) + 1))), (6, .int (iN 1)), (0, .ref (a 0)), (1, .int (iN (m : Int))), (2, .int (iN (n : Int))), (3, .ref (a (15 + 4 * m))), (4, .ref (a (15 + 4 * n)))] dX6_common_112 rfl (by decide) rfl ?_
              refine g_goto 28 dX6_common_115 (by decide) ?_
              refine g_lv [2, 3, 4, 5, 6, 0] rfl ?_
              exact ih_28 (k + 1) (by omega) (fun j hj => by
                  by_cases e : j = k
                  · subst e; intro hf; first | exact ⟨by assumption, by assumption⟩ | omega
                  · exact hh j (by omega)) (by omega)
            · subst hz9
              refine g_if_ne 112 dX6_common_107 (by decide) (fun c_8 => absurd c_8 (by decide)) (fun _ => ?_)
              refine g_iconst dX6_common_110 ?_
              exact g_iret hq rfl rfl dX6_common_111 (⟨Or.inr ⟨rfl, fun h => by
                  have h9 := h k (by omega) (by omega)
                  first | exact absurd h9.1 b_6 | exact absurd h9.2 b_6⟩, rfl⟩)
          · subst hz9
            refine g_if_eq 110 dX6_common_89 (by decide) (fun _ => ?_) (fun c_9 => absurd c_9 (by decide))
            refine g_iconst dX6_common_110 ?_
            exact g_iret hq rfl rfl dX6_common_111 (⟨Or.inr ⟨rfl, fun h => by
                have h9 := h k (by omega) (by omega)
                first | exact absurd h9.1 b_4 | exact absurd h9.2 b_4⟩, rfl⟩)
        · refine g_aload 4 dX6_common_51 rfl ?_
          refine g_getf (15 + 4 * n) (.ref (a (15 + 4 * n + 2))) fX6_151 (ox_M (m := n) (by omega)) dX6_common_53 rfl ?_
          refine g_iload 5 dX6_common_56 rfl ?_
          refine g_iald (15 + 4 * n + 2) k (ax_F (m := n) (by omega)) dX6_common_58 rfl (by omega) ?_
          refine g_iconst dX6_common_59 ?_
          refine g_icmp_eq 67 dX6_common_60 (by decide) (fun c_10 => ?_) (fun c_10 => ?_)
          · refine g_iconst dX6_common_67 ?_
            refine g_istore [(6, .int (iN 0)), (0, .ref (a 0)), (1, .int (iN (m : Int))), (2, .int (iN (n : Int))), (3, .ref (a (15 + 4 * m))), (4, .ref (a (15 + 4 * n))), (5, .int (iN (k : Int)))] dX6_common_68 (by decide) rfl ?_
            refine g_iload 0 dX6_common_70 rfl ?_
            refine g_if_eq 112 dX6_common_72 (by decide) (fun _ => ?_) (fun c_11 => absurd c_11 (by decide))
            refine g_iinc 6 [(5, .int (iN ((k : Int) + 1))), (6, .int (iN 0)), (0, .ref (a 0)), (1, .int (iN (m : Int))), (2, .int (iN (n : Int))), (3, .ref (a (15 + 4 * m))), (4, .ref (a (15 + 4 * n)))] dX6_common_112 rfl (by decide) rfl ?_
            refine g_goto 28 dX6_common_115 (by decide) ?_
            refine g_lv [2, 3, 4, 5, 6, 0] rfl ?_
            exact ih_28 (k + 1) (by omega) (fun j hj => by
                by_cases e : j = k
                · subst e; intro hf; first | exact ⟨by assumption, by assumption⟩ | omega
                · exact hh j (by omega)) (by omega)
          · refine g_iconst dX6_common_63 ?_
            refine g_goto 68 dX6_common_64 (by decide) ?_
            refine g_istore [(6, .int (iN 1)), (0, .ref (a 0)), (1, .int (iN (m : Int))), (2, .int (iN (n : Int))), (3, .ref (a (15 + 4 * m))), (4, .ref (a (15 + 4 * n))), (5, .int (iN (k : Int)))] dX6_common_68 (by decide) rfl ?_
            refine g_iload 0 dX6_common_70 rfl ?_
            refine g_if_eq 112 dX6_common_72 (by decide) (fun c_12 => absurd c_12 (by decide)) (fun _ => ?_)
            refine g_aload_n 4 dX6_common_75 rfl rfl ?_
            refine g_aload_n 1 dX6_common_76 rfl rfl ?_
            refine g_getf 0 (.ref (a 2)) fX6_10 ox_0 dX6_common_77 rfl ?_
            refine g_getf 2 (.ref (a 4)) fX6_202 ox_2 dX6_common_80 rfl ?_
            refine g_iload 6 dX6_common_83 rfl ?_
            refine g_iald 4 k ax_4 dX6_common_85 rfl (by omega) ?_
            refine g_top (show V 4 k = (((V 4 k).toNat : Nat) : Int) from by omega) ?_
            refine g_callI (k := 15 + 4 * m) [.int (iN (((V 4 k).toNat : Nat) : Int))] (met_X2_hasNozzle ha (show m < 3 by omega) (V 4 k).toNat (by omega) (kn m (by omega))) vX6_204 (ox_M (m := m) (by omega)) rfl rfl ⟨rfl, rfl, Nat.le_of_ble_eq_true rfl, Nat.le_of_ble_eq_true rfl⟩ rfl (Nat.le_of_ble_eq_true rfl) dX6_common_86 rfl ?_
            rintro z9 V9 ⟨hp9, hV9⟩
            replace hV9 := hV9.symm
            subst hV9
            rcases hp9 with ⟨hz9, b_13⟩ | ⟨hz9, b_13⟩
            · subst hz9
              refine g_if_eq 110 dX6_common_89 (by decide) (fun c_14 => absurd c_14 (by decide)) (fun _ => ?_)
              refine g_aload 5 dX6_common_92 rfl ?_
              refine g_aload_n 1 dX6_common_94 rfl rfl ?_
              refine g_getf 0 (.ref (a 2)) fX6_10 ox_0 dX6_common_95 rfl ?_
              refine g_getf 2 (.ref (a 4)) fX6_202 ox_2 dX6_common_98 rfl ?_
              refine g_iload 6 dX6_common_101 rfl ?_
              refine g_iald 4 k ax_4 dX6_common_103 rfl (by omega) ?_
              refine g_top (show V 4 k = (((V 4 k).toNat : Nat) : Int) from by omega) ?_
              refine g_callI (k := 15 + 4 * n) [.int (iN (((V 4 k).toNat : Nat) : Int))] (met_X2_hasNozzle ha (show n < 3 by omega) (V 4 k).toNat (by omega) (kn n (by omega))) vX6_204 (ox_M (m := n) (by omega)) rfl rfl ⟨rfl, rfl, Nat.le_of_ble_eq_true rfl, Nat.le_of_ble_eq_true rfl⟩ rfl (Nat.le_of_ble_eq_true rfl) dX6_common_104 rfl ?_
              rintro z9 V9 ⟨hp9, hV9⟩
              replace hV9 := hV9.symm
              subst hV9
              rcases hp9 with ⟨hz9, b_15⟩ | ⟨hz9, b_15⟩
              · subst hz9
                refine g_if_ne 112 dX6_common_107 (by decide) (fun _ => ?_) (fun c_16 => absurd c_16 (by decide))
                refine g_iinc 6 [(5, .int (iN ((k : Int) + 1))), (6, .int (iN 1)), (0, .ref (a 0)), (1, .int (iN (m : Int))), (2, .int (iN (n : Int))), (3, .ref (a (15 + 4 * m))), (4, .ref (a (15 + 4 * n)))] dX6_common_112 rfl (by decide) rfl ?_
                refine g_goto 28 dX6_common_115 (by decide) ?_
                refine g_lv [2, 3, 4, 5, 6, 0] rfl ?_
                exact ih_28 (k + 1) (by omega) (fun j hj => by
                    by_cases e : j = k
                    · subst e; intro hf; first | exact ⟨by assumption, by assumption⟩ | omega
                    · exact hh j (by omega)) (by omega)
              · subst hz9
                refine g_if_ne 112 dX6_common_107 (by decide) (fun c_17 => absurd c_17 (by decide)) (fun _ => ?_)
                refine g_iconst dX6_common_110 ?_
                exact g_iret hq rfl rfl dX6_common_111 (⟨Or.inr ⟨rfl, fun h => by
                    have h9 := h k (by omega) (by omega)
                    first | exact absurd h9.1 b_15 | exact absurd h9.2 b_15⟩, rfl⟩)
            · subst hz9
              refine g_if_eq 110 dX6_common_89 (by decide) (fun _ => ?_) (fun c_18 => absurd c_18 (by decide))
              refine g_iconst dX6_common_110 ?_
              exact g_iret hq rfl rfl dX6_common_111 (⟨Or.inr ⟨rfl, fun h => by
                  have h9 := h k (by omega) (by omega)
                  first | exact absurd h9.1 b_13 | exact absurd h9.2 b_13⟩, rfl⟩)
  refine g_lv [3, 4, 5, 2, 1, 0] rfl ?_
  exact lp_28 _ 0 (Nat.zero_le _) (fun j h => absurd h (Nat.not_lt_zero _)) (Nat.lt_succ_self _)

set_option maxHeartbeats 4000000 in
/-- changes(m) -/
theorem met_X6_changes {l : Launch} {D : va_G} {τ : Nat → ClassId} {a : Nat → Nat} (ha : Apart (LX τ) a) {V : Mem} (m : Nat) (hok : okC V) (hm : (m : Int) < V 0 8) : CI l D (tysL τ) (LX τ) a yX6_changes nX6_changes [.ref (a 0), .int (iN (m : Int))] V (fun z V' => z = chg (fun i => V 4 (V 10 (V (15 + 4 * m + 1) i).toNat).toNat) (V (15 + 4 * m) 5).toNat ∧ V' = V) := by
  refine CI.of (by decide +kernel) rfl (Nat.le_of_ble_eq_true rfl) ha (fun x hq => ?_)
  show G l D (tysL τ) (LX τ) a nX6_changes x 0 [(0, .ref (a 0)), (1, .int (iN (m : Int)))] [] V
  obtain ⟨k00, k08, k09, k26, k94, k3, k3k, k4, k5, k6, k7, k8, k10, k10k, k11, k12, k13, kn, kc0, ks, kt, kr, kf, ka⟩ := id hok
  have qs := ks m (by omega)
  refine g_aload_n 0 dX6_changes_0 rfl rfl ?_
  refine g_iload_n 1 dX6_changes_1 rfl rfl ?_
  refine g_callV (k := 0) [.int (iN (m : Int))] (met_X6_requireMachine ha (m : Int) hok (by omega)) vX6_148 ox_0 rfl rfl ⟨rfl, rfl, Nat.le_of_ble_eq_true rfl, Nat.le_of_ble_eq_true rfl⟩ rfl (Nat.le_of_ble_eq_true rfl) dX6_changes_2 rfl ?_
  intro V9 hV9
  replace hV9 := hV9.symm
  subst hV9
  refine g_aload_n 0 dX6_changes_5 rfl rfl ?_
  refine g_aload_n 0 dX6_changes_6 rfl rfl ?_
  refine g_getf 0 (.ref (a 14)) fX6_26 ox_0 dX6_changes_7 rfl ?_
  refine g_iload_n 1 dX6_changes_10 rfl rfl ?_
  refine g_aald 14 m ax_14 dX6_changes_11 rfl (by omega) ?_
  refine g_callI (k := 0) [.ref (a (15 + 4 * m))] (met_X6_countChanges ha (show m < 3 by omega) (V (15 + 4 * m) 5).toNat (by omega) (by omega) (fun i hi => by have := kr m (by omega) i (by omega); omega) k10 k4) vX6_208 ox_0 rfl rfl ⟨rfl, rfl, Nat.le_of_ble_eq_true rfl, Nat.le_of_ble_eq_true rfl⟩ rfl (Nat.le_of_ble_eq_true rfl) dX6_changes_12 rfl ?_
  intro z9 V9 hz9
  exact g_iret hq rfl rfl dX6_changes_15 (hz9)
