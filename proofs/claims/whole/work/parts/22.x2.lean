set_option maxHeartbeats 4000000 in
/-- Machine.clear() -/
theorem met_X2_clear {l : Launch} {D : va_G} {τ : Nat → ClassId} {a : Nat → Nat} (ha : Apart (LX τ) a) {V : Mem} {m : Nat} (hm : m < 3)  : CV l D (tysL τ) (LX τ) a yX2_clear mX2_clear [.ref (a (15 + 4 * m))] V (fun V' => V' = up (fillM (fillM V (15 + 4 * m + 2) 10 (-1)) (15 + 4 * m + 3) 10 0) (15 + 4 * m) 5 0) := by
  refine CV.of (by decide +kernel) rfl (Nat.le_of_ble_eq_true rfl) ha (fun x hq => ?_)
  show G l D (tysL τ) (LX τ) a mX2_clear x 0 [(0, .ref (a (15 + 4 * m)))] [] V
  refine g_aload_n 0 dX2_clear_0 rfl rfl ?_
  refine g_getf (15 + 4 * m) (.ref (a (15 + 4 * m + 2))) fX2_15 (ox_M (m := m) hm) dX2_clear_1 rfl ?_
  refine g_iconst dX2_clear_4 ?_
  refine g_callXV [.ref (a (15 + 4 * m + 2)), .int (iN (-1))] (met_J0_fill ha (ax_F (m := m) (by omega)) (-1)) vX2_34 ⟨rfl, rfl, Nat.le_of_ble_eq_true rfl, Nat.le_of_ble_eq_true rfl⟩ rfl (Nat.le_of_ble_eq_true rfl) dX2_clear_5 rfl ?_
  intro V_1 eV_1
  refine g_aload_n 0 dX2_clear_8 rfl rfl ?_
  refine g_getf (15 + 4 * m) (.ref (a (15 + 4 * m + 3))) fX2_18 (ox_M (m := m) hm) dX2_clear_9 rfl ?_
  refine g_iconst dX2_clear_12 ?_
  refine g_callXV [.ref (a (15 + 4 * m + 3)), .int (iN 0)] (met_J0_fill ha (ax_A (m := m) (by omega)) 0) vX2_34 ⟨rfl, rfl, Nat.le_of_ble_eq_true rfl, Nat.le_of_ble_eq_true rfl⟩ rfl (Nat.le_of_ble_eq_true rfl) dX2_clear_13 rfl ?_
  intro V_2 eV_2
  refine g_aload_n 0 dX2_clear_16 rfl rfl ?_
  refine g_iconst dX2_clear_17 ?_
  refine g_putf (15 + 4 * m) (v := 0) (.int (iN 0)) pX2_28 (ox_M (m := m) hm) dX2_clear_18 rfl rfl (Nat.le_of_ble_eq_true rfl) rfl ?_
  obtain ⟨V_3, eV_3⟩ : ∃ q, q = up V_2 (15 + 4 * m) 5 0 := ⟨_, rfl⟩
  refine g_mem eV_3.symm ?_
  exact g_vret hq rfl dX2_clear_21 (by rw [eV_3, eV_2, eV_1])

set_option maxHeartbeats 4000000 in
/-- Machine.hasNozzle(n) -/
theorem met_X2_hasNozzle {l : Launch} {D : va_G} {τ : Nat → ClassId} {a : Nat → Nat} (ha : Apart (LX τ) a) {V : Mem} {m : Nat} (hm : m < 3) (n : Nat) (hn : n < 8) (hz : 0 ≤ V (15 + 4 * m) 3 ∧ V (15 + 4 * m) 3 ≤ 255) : CI l D (tysL τ) (LX τ) a yX2_hasNozzle mX2_hasNozzle [.ref (a (15 + 4 * m)), .int (iN (n : Int))] V (fun z V' => ((z = 1 ∧ (V (15 + 4 * m) 3).toNat / 2 ^ n % 2 = 1) ∨ (z = 0 ∧ ¬ (V (15 + 4 * m) 3).toNat / 2 ^ n % 2 = 1)) ∧ V' = V) := by
  refine CI.of (by decide +kernel) rfl (Nat.le_of_ble_eq_true rfl) ha (fun x hq => ?_)
  show G l D (tysL τ) (LX τ) a mX2_hasNozzle x 0 [(0, .ref (a (15 + 4 * m))), (1, .int (iN (n : Int)))] [] V
  have hlt : (V (15 + 4 * m) 3).toNat / 2 ^ n ≤ (V (15 + 4 * m) 3).toNat := Nat.div_le_self _ _
  refine g_aload_n 0 dX2_hasNozzle_0 rfl rfl ?_
  refine g_getf (15 + 4 * m) (.int (iN (V (15 + 4 * m) 3))) fX2_21 (ox_M (m := m) hm) dX2_hasNozzle_1 rfl ?_
  refine g_top (show V (15 + 4 * m) 3 = (((V (15 + 4 * m) 3).toNat : Nat) : Int) by omega) ?_
  refine g_iload_n 1 dX2_hasNozzle_4 rfl rfl ?_
  refine g_ishr (((V (15 + 4 * m) 3).toNat / 2 ^ n : Nat) : Int) dX2_hasNozzle_5 (iN_shr (by omega) (by omega)) ?_
  refine g_iconst dX2_hasNozzle_6 ?_
  refine g_iand (((V (15 + 4 * m) 3).toNat / 2 ^ n % 2 : Nat) : Int) dX2_hasNozzle_7 (iN_and1 _) ?_
  refine g_iconst dX2_hasNozzle_8 ?_
  refine g_icmp_ne 16 dX2_hasNozzle_9 (by decide) (fun c_1 => ?_) (fun c_1 => ?_)
  · refine g_iconst dX2_hasNozzle_16 ?_
    exact g_iret hq rfl rfl dX2_hasNozzle_17 (⟨Or.inr ⟨rfl, by omega⟩, rfl⟩)
  · refine g_iconst dX2_hasNozzle_12 ?_
    refine g_goto 17 dX2_hasNozzle_13 (by decide) ?_
    exact g_iret hq rfl rfl dX2_hasNozzle_17 (⟨Or.inl ⟨rfl, by omega⟩, rfl⟩)

set_option maxHeartbeats 4000000 in
/-- Machine.partAt(i) -/
theorem met_X2_partAt {l : Launch} {D : va_G} {τ : Nat → ClassId} {a : Nat → Nat} (ha : Apart (LX τ) a) {V : Mem} {m : Nat} (hm : m < 3) (i : Int) (hi : -2147483648 ≤ i ∧ i ≤ 2147483647) (hsz : 0 ≤ V (15 + 4 * m) 5 ∧ V (15 + 4 * m) 5 ≤ 40) : CI l D (tysL τ) (LX τ) a yX2_partAt mX2_partAt [.ref (a (15 + 4 * m)), .int (iN i)] V (fun z V' => z = (if 0 ≤ i ∧ i < V (15 + 4 * m) 5 then V (15 + 4 * m + 1) i.toNat else -1) ∧ V' = V) := by
  refine CI.of (by decide +kernel) rfl (Nat.le_of_ble_eq_true rfl) ha (fun x hq => ?_)
  show G l D (tysL τ) (LX τ) a mX2_partAt x 0 [(0, .ref (a (15 + 4 * m))), (1, .int (iN i))] [] V
  refine g_iload_n 1 dX2_partAt_0 rfl rfl ?_
  refine g_if_lt 21 dX2_partAt_1 (by decide) (fun c_1 => ?_) (fun c_1 => ?_)
  · refine g_iconst dX2_partAt_21 ?_
    exact g_iret hq rfl rfl dX2_partAt_22 (⟨by rw [if_neg (by omega)], rfl⟩)
  · refine g_iload_n 1 dX2_partAt_4 rfl rfl ?_
    refine g_aload_n 0 dX2_partAt_5 rfl rfl ?_
    refine g_getf (15 + 4 * m) (.int (iN (V (15 + 4 * m) 5))) fX2_28 (ox_M (m := m) hm) dX2_partAt_6 rfl ?_
    refine g_icmp_ge 21 dX2_partAt_9 (by decide) (fun c_2 => ?_) (fun c_2 => ?_)
    · refine g_iconst dX2_partAt_21 ?_
      exact g_iret hq rfl rfl dX2_partAt_22 (⟨by rw [if_neg (by omega)], rfl⟩)
    · refine g_aload_n 0 dX2_partAt_12 rfl rfl ?_
      refine g_getf (15 + 4 * m) (.ref (a (15 + 4 * m + 1))) fX2_9 (ox_M (m := m) hm) dX2_partAt_13 rfl ?_
      refine g_iload_n 1 dX2_partAt_16 rfl rfl ?_
      refine g_iald (15 + 4 * m + 1) ((i).toNat) (ax_R (m := m) (by omega)) dX2_partAt_17 (by omega) (by omega) ?_
      refine g_goto 22 dX2_partAt_18 (by decide) ?_
      exact g_iret hq rfl rfl dX2_partAt_22 (⟨by rw [if_pos (by omega)], rfl⟩)

set_option maxHeartbeats 4000000 in
/-- Machine.placeOf(p) -/
theorem met_X2_placeOf {l : Launch} {D : va_G} {τ : Nat → ClassId} {a : Nat → Nat} (ha : Apart (LX τ) a) {V : Mem} {m : Nat} (hm : m < 3) (p : Int) (hp : -2147483648 ≤ p ∧ p ≤ 2147483647) (hsz : 0 ≤ V (15 + 4 * m) 5 ∧ V (15 + 4 * m) 5 ≤ 40) (hr : ∀ i, i < 40 → -2147483648 ≤ V (15 + 4 * m + 1) i ∧ V (15 + 4 * m + 1) i ≤ 2147483647) : CI l D (tysL τ) (LX τ) a yX2_placeOf mX2_placeOf [.ref (a (15 + 4 * m)), .int (iN p)] V (fun z V' => z = plc (V (15 + 4 * m + 1)) p (V (15 + 4 * m) 5).toNat ∧ V' = V) := by
  refine CI.of (by decide +kernel) rfl (Nat.le_of_ble_eq_true rfl) ha (fun x hq => ?_)
  show G l D (tysL τ) (LX τ) a mX2_placeOf x 0 [(0, .ref (a (15 + 4 * m))), (1, .int (iN p))] [] V
  refine g_iconst dX2_placeOf_0 ?_
  refine g_istore_n [(2, .int (iN 0)), (0, .ref (a (15 + 4 * m))), (1, .int (iN p))] dX2_placeOf_1 rfl (by decide) rfl ?_
  have lp_2 : ∀ (fuel : Nat) (i : Nat), ((i : Int) ≤ V (15 + 4 * m) 5) → (plc (V (15 + 4 * m + 1)) p i = -1) → ((V (15 + 4 * m) 5).toNat - i) < fuel → G l D (tysL τ) (LX τ) a mX2_placeOf x 2 [(0, .ref (a (15 + 4 * m))), (1, .int (iN p)), (2, .int (iN (i : Int)))] [] V := by
    intro fuel
    induction fuel with
    | zero => intro i hi hpl hfu; exact absurd hfu (Nat.not_lt_zero _)
    | succ fuel ih_2 =>
      intro i hi hpl hfu
      have hri := hr i
      refine g_iload_n 2 dX2_placeOf_2 rfl rfl ?_
      refine g_aload_n 0 dX2_placeOf_3 rfl rfl ?_
      refine g_getf (15 + 4 * m) (.int (iN (V (15 + 4 * m) 5))) fX2_28 (ox_M (m := m) hm) dX2_placeOf_4 rfl ?_
      refine g_icmp_ge 28 dX2_placeOf_7 (by decide) (fun c_1 => ?_) (fun c_1 => ?_)
      · refine g_iconst dX2_placeOf_28 ?_
        exact g_iret hq rfl rfl dX2_placeOf_29 (⟨by rw [show (V (15 + 4 * m) 5).toNat = i by omega, hpl], rfl⟩)
      · refine g_aload_n 0 dX2_placeOf_10 rfl rfl ?_
        refine g_getf (15 + 4 * m) (.ref (a (15 + 4 * m + 1))) fX2_9 (ox_M (m := m) hm) dX2_placeOf_11 rfl ?_
        refine g_iload_n 2 dX2_placeOf_14 rfl rfl ?_
        refine g_iald (15 + 4 * m + 1) i (ax_R (m := m) (by omega)) dX2_placeOf_15 rfl (by omega) ?_
        refine g_iload_n 1 dX2_placeOf_16 rfl rfl ?_
        refine g_icmp_ne 22 dX2_placeOf_17 (by decide) (fun c_2 => ?_) (fun c_2 => ?_)
        · refine g_iinc 2 [(2, .int (iN ((i : Int) + 1))), (0, .ref (a (15 + 4 * m))), (1, .int (iN p))] dX2_placeOf_22 rfl (by decide) rfl ?_
          refine g_goto 2 dX2_placeOf_25 (by decide) ?_
          refine g_lv [1, 2, 0] rfl ?_
          exact ih_2 (i + 1) (by omega) (plc_s hpl (by omega)) (by omega)
        · refine g_iload_n 2 dX2_placeOf_20 rfl rfl ?_
          exact g_iret hq rfl rfl dX2_placeOf_21 (⟨(plc_at hpl (by omega) (by omega)).symm, rfl⟩)
  refine g_lv [1, 2, 0] rfl ?_
  exact lp_2 _ 0 (by omega) rfl (Nat.lt_succ_self _)

set_option maxHeartbeats 4000000 in
/-- Machine.tripAt(i) -/
theorem met_X2_tripAt {l : Launch} {D : va_G} {τ : Nat → ClassId} {a : Nat → Nat} (ha : Apart (LX τ) a) {V : Mem} {m : Nat} (hm : m < 3) (i : Int) (hi : 0 ≤ i ∧ i ≤ 2147483647) (hcr : 1 ≤ V (15 + 4 * m) 4 ∧ V (15 + 4 * m) 4 ≤ 6) : CI l D (tysL τ) (LX τ) a yX2_tripAt mX2_tripAt [.ref (a (15 + 4 * m)), .int (iN i)] V (fun z V' => z = i / V (15 + 4 * m) 4 ∧ V' = V) := by
  refine CI.of (by decide +kernel) rfl (Nat.le_of_ble_eq_true rfl) ha (fun x hq => ?_)
  show G l D (tysL τ) (LX τ) a mX2_tripAt x 0 [(0, .ref (a (15 + 4 * m))), (1, .int (iN i))] [] V
  refine g_aload_n 0 dX2_tripAt_0 rfl rfl ?_
  refine g_getf (15 + 4 * m) (.int (iN (V (15 + 4 * m) 4))) fX2_25 (ox_M (m := m) hm) dX2_tripAt_1 rfl ?_
  refine g_if_le 16 dX2_tripAt_4 (by decide) (fun c_1 => ?_) (fun c_1 => ?_)
  · omega
  · refine g_iload_n 1 dX2_tripAt_7 rfl rfl ?_
    refine g_aload_n 0 dX2_tripAt_8 rfl rfl ?_
    refine g_getf (15 + 4 * m) (.int (iN (V (15 + 4 * m) 4))) fX2_25 (ox_M (m := m) hm) dX2_tripAt_9 rfl ?_
    refine g_idiv dX2_tripAt_12 (by omega) (by omega) ?_
    refine g_goto 17 dX2_tripAt_13 (by decide) ?_
    exact g_iret hq rfl rfl dX2_tripAt_17 (⟨rfl, rfl⟩)

set_option maxHeartbeats 4000000 in
/-- Machine.tripCount() -/
theorem met_X2_tripCount {l : Launch} {D : va_G} {τ : Nat → ClassId} {a : Nat → Nat} (ha : Apart (LX τ) a) {V : Mem} {m : Nat} (hm : m < 3) (hsz : 0 ≤ V (15 + 4 * m) 5 ∧ V (15 + 4 * m) 5 ≤ 40) (hcr : 1 ≤ V (15 + 4 * m) 4 ∧ V (15 + 4 * m) 4 ≤ 6) : CI l D (tysL τ) (LX τ) a yX2_tripCount mX2_tripCount [.ref (a (15 + 4 * m))] V (fun z V' => z = (if 0 < V (15 + 4 * m) 5 then (V (15 + 4 * m) 5 - 1) / V (15 + 4 * m) 4 + 1 else 0) ∧ V' = V) := by
  refine CI.of (by decide +kernel) rfl (Nat.le_of_ble_eq_true rfl) ha (fun x hq => ?_)
  show G l D (tysL τ) (LX τ) a mX2_tripCount x 0 [(0, .ref (a (15 + 4 * m)))] [] V
  refine g_aload_n 0 dX2_tripCount_0 rfl rfl ?_
  refine g_getf (15 + 4 * m) (.int (iN (V (15 + 4 * m) 5))) fX2_28 (ox_M (m := m) hm) dX2_tripCount_1 rfl ?_
  refine g_if_le 22 dX2_tripCount_4 (by decide) (fun c_1 => ?_) (fun c_1 => ?_)
  · refine g_iconst dX2_tripCount_22 ?_
    exact g_iret hq rfl rfl dX2_tripCount_23 (⟨by rw [if_neg (by omega)], rfl⟩)
  · refine g_aload_n 0 dX2_tripCount_7 rfl rfl ?_
    refine g_aload_n 0 dX2_tripCount_8 rfl rfl ?_
    refine g_getf (15 + 4 * m) (.int (iN (V (15 + 4 * m) 5))) fX2_28 (ox_M (m := m) hm) dX2_tripCount_9 rfl ?_
    refine g_iconst dX2_tripCount_12 ?_
    refine g_isub dX2_tripCount_13 ?_
    refine g_callI (k := 15 + 4 * m) [.int (iN ((V (15 + 4 * m) 5) - 1))] (met_X2_tripAt ha hm ((V (15 + 4 * m) 5) - 1) (by omega) hcr) vX2_49 (ox_M (m := m) hm) rfl rfl ⟨rfl, rfl, Nat.le_of_ble_eq_true rfl, Nat.le_of_ble_eq_true rfl⟩ rfl (Nat.le_of_ble_eq_true rfl) dX2_tripCount_14 rfl ?_
    rintro z9 V9 ⟨hz9, hV9⟩
    replace hz9 := hz9.symm
    replace hV9 := hV9.symm
    subst hz9
    subst hV9
    refine g_iconst dX2_tripCount_17 ?_
    refine g_iadd dX2_tripCount_18 ?_
    refine g_goto 23 dX2_tripCount_19 (by decide) ?_
    exact g_iret hq rfl rfl dX2_tripCount_23 (⟨by rw [if_pos (by omega)], rfl⟩)
