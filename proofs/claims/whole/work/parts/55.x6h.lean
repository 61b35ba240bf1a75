def RJ1 : String := "java/lang/Integer"
abbrev cJ1_bitCount : ByteArray := prog_13_method_49_code
def yJ1_bitCount : MethodName := ⟨RJ1, "bitCount", "(I)I"⟩
abbrev mJ1_bitCount : MInf := (cJ1_bitCount, 1, RJ1, some .int, { frames := 0, cells := 0, slots := 0, locals := 0 })
theorem dJ1_bitCount_0 : decode cJ1_bitCount 0 = .ok (.iload_n 0, 1) := by decide +kernel
theorem dJ1_bitCount_1 : decode cJ1_bitCount 1 = .ok (.iload_n 0, 1) := by decide +kernel
theorem dJ1_bitCount_2 : decode cJ1_bitCount 2 = .ok (.iconst 1, 1) := by decide +kernel
theorem dJ1_bitCount_3 : decode cJ1_bitCount 3 = .ok (.iushr, 1) := by decide +kernel
theorem dJ1_bitCount_4 : decode cJ1_bitCount 4 = .ok (.ldc_w 265, 3) := by decide +kernel
theorem dJ1_bitCount_7 : decode cJ1_bitCount 7 = .ok (.iand, 1) := by decide +kernel
theorem dJ1_bitCount_8 : decode cJ1_bitCount 8 = .ok (.isub, 1) := by decide +kernel
theorem dJ1_bitCount_9 : decode cJ1_bitCount 9 = .ok (.istore_n 0, 1) := by decide +kernel
theorem dJ1_bitCount_10 : decode cJ1_bitCount 10 = .ok (.iload_n 0, 1) := by decide +kernel
theorem dJ1_bitCount_11 : decode cJ1_bitCount 11 = .ok (.ldc_w 266, 3) := by decide +kernel
theorem dJ1_bitCount_14 : decode cJ1_bitCount 14 = .ok (.iand, 1) := by decide +kernel
theorem dJ1_bitCount_15 : decode cJ1_bitCount 15 = .ok (.iload_n 0, 1) := by decide +kernel
theorem dJ1_bitCount_16 : decode cJ1_bitCount 16 = .ok (.iconst 2, 1) := by decide +kernel
theorem dJ1_bitCount_17 : decode cJ1_bitCount 17 = .ok (.iushr, 1) := by decide +kernel
theorem dJ1_bitCount_18 : decode cJ1_bitCount 18 = .ok (.ldc_w 266, 3) := by decide +kernel
theorem dJ1_bitCount_21 : decode cJ1_bitCount 21 = .ok (.iand, 1) := by decide +kernel
theorem dJ1_bitCount_22 : decode cJ1_bitCount 22 = .ok (.iadd, 1) := by decide +kernel
theorem dJ1_bitCount_23 : decode cJ1_bitCount 23 = .ok (.istore_n 0, 1) := by decide +kernel
theorem dJ1_bitCount_24 : decode cJ1_bitCount 24 = .ok (.iload_n 0, 1) := by decide +kernel
theorem dJ1_bitCount_25 : decode cJ1_bitCount 25 = .ok (.iload_n 0, 1) := by decide +kernel
theorem dJ1_bitCount_26 : decode cJ1_bitCount 26 = .ok (.iconst 4, 1) := by decide +kernel
theorem dJ1_bitCount_27 : decode cJ1_bitCount 27 = .ok (.iushr, 1) := by decide +kernel
theorem dJ1_bitCount_28 : decode cJ1_bitCount 28 = .ok (.iadd, 1) := by decide +kernel
theorem dJ1_bitCount_29 : decode cJ1_bitCount 29 = .ok (.ldc_w 267, 3) := by decide +kernel
theorem dJ1_bitCount_32 : decode cJ1_bitCount 32 = .ok (.iand, 1) := by decide +kernel
theorem dJ1_bitCount_33 : decode cJ1_bitCount 33 = .ok (.istore_n 0, 1) := by decide +kernel
theorem dJ1_bitCount_34 : decode cJ1_bitCount 34 = .ok (.iload_n 0, 1) := by decide +kernel
theorem dJ1_bitCount_35 : decode cJ1_bitCount 35 = .ok (.iload_n 0, 1) := by decide +kernel
theorem dJ1_bitCount_36 : decode cJ1_bitCount 36 = .ok (.bipush 8, 2) := by decide +kernel
theorem dJ1_bitCount_38 : decode cJ1_bitCount 38 = .ok (.iushr, 1) := by decide +kernel
theorem dJ1_bitCount_39 : decode cJ1_bitCount 39 = .ok (.iadd, 1) := by decide +kernel
theorem dJ1_bitCount_40 : decode cJ1_bitCount 40 = .ok (.istore_n 0, 1) := by decide +kernel
theorem dJ1_bitCount_41 : decode cJ1_bitCount 41 = .ok (.iload_n 0, 1) := by decide +kernel
theorem dJ1_bitCount_42 : decode cJ1_bitCount 42 = .ok (.iload_n 0, 1) := by decide +kernel
theorem dJ1_bitCount_43 : decode cJ1_bitCount 43 = .ok (.bipush 16, 2) := by decide +kernel
theorem dJ1_bitCount_45 : decode cJ1_bitCount 45 = .ok (.iushr, 1) := by decide +kernel
theorem dJ1_bitCount_46 : decode cJ1_bitCount 46 = .ok (.iadd, 1) := by decide +kernel
theorem dJ1_bitCount_47 : decode cJ1_bitCount 47 = .ok (.istore_n 0, 1) := by decide +kernel
theorem dJ1_bitCount_48 : decode cJ1_bitCount 48 = .ok (.iload_n 0, 1) := by decide +kernel
theorem dJ1_bitCount_49 : decode cJ1_bitCount 49 = .ok (.bipush 63, 2) := by decide +kernel
theorem dJ1_bitCount_51 : decode cJ1_bitCount 51 = .ok (.iand, 1) := by decide +kernel
theorem dJ1_bitCount_52 : decode cJ1_bitCount 52 = .ok (.ireturn, 1) := by decide +kernel
theorem kJ1_265 : Cond.constant RJ1 265 1431655765 ∈ gw := tm_2 (List.mem_of_getElem? (i := 28) rfl) rfl
theorem kJ1_266 : Cond.constant RJ1 266 858993459 ∈ gw := tm_2 (List.mem_of_getElem? (i := 29) rfl) rfl
theorem kJ1_267 : Cond.constant RJ1 267 252645135 ∈ gw := tm_2 (List.mem_of_getElem? (i := 30) rfl) rfl
theorem vX6_305 : LkX RX6 305 yJ1_bitCount mJ1_bitCount 1 := ⟨tm_2 (List.mem_of_getElem? (i := 25) rfl) rfl, tm_2 (List.mem_of_getElem? (i := 26) rfl) rfl, tm_1 (List.mem_of_getElem? (i := 17) rfl) rfl, tm_2 (List.mem_of_getElem? (i := 27) rfl) rfl, by decide +kernel, by decide +kernel, by decide +kernel⟩
set_option maxHeartbeats 4000000 in
/-- Integer.bitCount(n) of a small n -/
theorem met_J1_bitCount {l : Launch} {D : va_G} {tys : List (ClassId × FieldType)} {L : Lay} {a : Nat → Nat} (ha : Apart L a) {V : Mem} (n : Nat) (hn : n < 256) : CI l D tys L a yJ1_bitCount mJ1_bitCount [.int (iN (n : Int))] V (fun z V' => z = (pop8 n : Int) ∧ V' = V) := by
  refine CI.of (by decide +kernel) rfl (Nat.le_of_ble_eq_true rfl) ha (fun x hq => ?_)
  show G l D tys L a mJ1_bitCount x 0 [(0, .int (iN (n : Int)))] [] V
  refine g_iload_n 0 dJ1_bitCount_0 rfl rfl ?_
  refine g_iload_n 0 dJ1_bitCount_1 rfl rfl ?_
  refine g_iconst dJ1_bitCount_2 ?_
  refine g_iushr dJ1_bitCount_3 ?_
  refine g_ldcw 1431655765 kJ1_265 rfl dJ1_bitCount_4 ?_
  refine g_ian dJ1_bitCount_7 ?_
  refine g_isub dJ1_bitCount_8 ?_
  refine g_istore_n [(0, .int (iN ((n : Int) - (ian (ush (n : Int) 1) 1431655765))))] dJ1_bitCount_9 rfl (by decide) rfl ?_
  refine g_lve (show ([(0, .int (iN ((n : Int) - (ian (ush (n : Int) 1) 1431655765))))] : List (Nat × Value)) = ([(0, .int (iN (bc1 (n : Int))))] : List (Nat × Value)) from by rw [show (n : Int) - (ian (ush (n : Int) 1) 1431655765) = bc1 (n : Int) from rfl]) ?_
  refine g_iload_n 0 dJ1_bitCount_10 rfl rfl ?_
  refine g_ldcw 858993459 kJ1_266 rfl dJ1_bitCount_11 ?_
  refine g_ian dJ1_bitCount_14 ?_
  refine g_iload_n 0 dJ1_bitCount_15 rfl rfl ?_
  refine g_iconst dJ1_bitCount_16 ?_
  refine g_iushr dJ1_bitCount_17 ?_
  refine g_ldcw 858993459 kJ1_266 rfl dJ1_bitCount_18 ?_
  refine g_ian dJ1_bitCount_21 ?_
  refine g_iadd dJ1_bitCount_22 ?_
  refine g_istore_n [(0, .int (iN ((ian (bc1 (n : Int)) 858993459) + (ian (ush (bc1 (n : Int)) 2) 858993459))))] dJ1_bitCount_23 rfl (by decide) rfl ?_
  refine g_lve (show ([(0, .int (iN ((ian (bc1 (n : Int)) 858993459) + (ian (ush (bc1 (n : Int)) 2) 858993459))))] : List (Nat × Value)) = ([(0, .int (iN (bc2 (n : Int))))] : List (Nat × Value)) from by rw [show (ian (bc1 (n : Int)) 858993459) + (ian (ush (bc1 (n : Int)) 2) 858993459) = bc2 (n : Int) from rfl]) ?_
  refine g_iload_n 0 dJ1_bitCount_24 rfl rfl ?_
  refine g_iload_n 0 dJ1_bitCount_25 rfl rfl ?_
  refine g_iconst dJ1_bitCount_26 ?_
  refine g_iushr dJ1_bitCount_27 ?_
  refine g_iadd dJ1_bitCount_28 ?_
  refine g_ldcw 252645135 kJ1_267 rfl dJ1_bitCount_29 ?_
  refine g_ian dJ1_bitCount_32 ?_
  refine g_istore_n [(0, .int (iN (ian ((bc2 (n : Int)) + (ush (bc2 (n : Int)) 4)) 252645135)))] dJ1_bitCount_33 rfl (by decide) rfl ?_
  refine g_lve (show ([(0, .int (iN (ian ((bc2 (n : Int)) + (ush (bc2 (n : Int)) 4)) 252645135)))] : List (Nat × Value)) = ([(0, .int (iN (bc3 (n : Int))))] : List (Nat × Value)) from by rw [show ian ((bc2 (n : Int)) + (ush (bc2 (n : Int)) 4)) 252645135 = bc3 (n : Int) from rfl]) ?_
  refine g_iload_n 0 dJ1_bitCount_34 rfl rfl ?_
  refine g_iload_n 0 dJ1_bitCount_35 rfl rfl ?_
  refine g_bipush dJ1_bitCount_36 rfl ?_
  refine g_iushr dJ1_bitCount_38 ?_
  refine g_iadd dJ1_bitCount_39 ?_
  refine g_istore_n [(0, .int (iN ((bc3 (n : Int)) + (ush (bc3 (n : Int)) 8))))] dJ1_bitCount_40 rfl (by decide) rfl ?_
  refine g_lve (show ([(0, .int (iN ((bc3 (n : Int)) + (ush (bc3 (n : Int)) 8))))] : List (Nat × Value)) = ([(0, .int (iN (bc4 (n : Int))))] : List (Nat × Value)) from by rw [show (bc3 (n : Int)) + (ush (bc3 (n : Int)) 8) = bc4 (n : Int) from rfl]) ?_
  refine g_iload_n 0 dJ1_bitCount_41 rfl rfl ?_
  refine g_iload_n 0 dJ1_bitCount_42 rfl rfl ?_
  refine g_bipush dJ1_bitCount_43 rfl ?_
  refine g_iushr dJ1_bitCount_45 ?_
  refine g_iadd dJ1_bitCount_46 ?_
  refine g_istore_n [(0, .int (iN ((bc4 (n : Int)) + (ush (bc4 (n : Int)) 16))))] dJ1_bitCount_47 rfl (by decide) rfl ?_
  refine g_lve (show ([(0, .int (iN ((bc4 (n : Int)) + (ush (bc4 (n : Int)) 16))))] : List (Nat × Value)) = ([(0, .int (iN (bc5 (n : Int))))] : List (Nat × Value)) from by rw [show (bc4 (n : Int)) + (ush (bc4 (n : Int)) 16) = bc5 (n : Int) from rfl]) ?_
  refine g_iload_n 0 dJ1_bitCount_48 rfl rfl ?_
  refine g_bipush dJ1_bitCount_49 rfl ?_
  refine g_ian dJ1_bitCount_51 ?_
  exact g_iret hq rfl rfl dJ1_bitCount_52 ⟨bc_pop hn, rfl⟩
set_option maxHeartbeats 4000000 in
/-- greatestTime() -/
theorem met_X6_greatestTime {l : Launch} {D : va_G} {τ : Nat → ClassId} {a : Nat → Nat} (ha : Apart (LX τ) a) {V : Mem} (kc : Nat) (hkc : V 2 6 = (kc : Int)) (hkc10 : kc ≤ 10) (us : Nat) (hus : V 0 9 = (us : Int)) (hus3 : us ≤ 3) (hmt : ∀ m, m < 3 → 0 ≤ V (15 + 4 * m) 6 ∧ V (15 + 4 * m) 6 ≤ 100000000) (ham : ∀ m, m < 3 → ∀ k, k < kc → 0 ≤ V (15 + 4 * m + 3) k ∧ V (15 + 4 * m + 3) k ≤ 40) (hbe : ∀ k, k < kc → 1 ≤ V 8 k ∧ V 8 k ≤ 1000) (hab : ∀ k, k < kc → 0 ≤ V 7 k ∧ V 7 k < V 8 k) (hrf : ∀ k, k < kc → 0 ≤ V 6 k ∧ V 6 k ≤ 2147483647) : CI l D (tysL τ) (LX τ) a yX6_greatestTime mX6_greatestTime [.ref (a 0)] V (fun z V' => z = mxF (fun m => V (15 + 4 * m) 6 + sup (V (15 + 4 * m + 3)) (V 8) (V 7) (V 6) kc) us ∧ V' = V) := by
  refine CI.of (by decide +kernel) rfl (Nat.le_of_ble_eq_true rfl) ha (fun x hq => ?_)
  show G l D (tysL τ) (LX τ) a mX6_greatestTime x 0 [(0, .ref (a 0))] [] V
  refine g_iconst dX6_greatestTime_0 ?_
  refine g_istore_n [(1, .int (iN 0)), (0, .ref (a 0))] dX6_greatestTime_1 rfl (by decide) rfl ?_
  refine g_iconst dX6_greatestTime_2 ?_
  refine g_istore_n [(2, .int (iN 0)), (1, .int (iN 0)), (0, .ref (a 0))] dX6_greatestTime_3 rfl (by decide) rfl ?_
  have lp_4 : ∀ (fuel : Nat) (m : Nat) (t0 : Int), (m ≤ us) → (t0 = mxF (fun m => V (15 + 4 * m) 6 + sup (V (15 + 4 * m + 3)) (V 8) (V 7) (V 6) kc) m) → (0 ≤ t0 ∧ t0 ≤ 200000000) → (us - m) < fuel → G l D (tysL τ) (LX τ) a mX6_greatestTime x 4 [(0, .ref (a 0)), (1, .int (iN t0)), (2, .int (iN (m : Int)))] [] V := by
    intro fuel
    induction fuel with
    | zero => intro m t0 hm0 ht0 htb hfu; exact absurd hfu (Nat.not_lt_zero _)
    | succ fuel ih_4 =>
      intro m t0 hm0 ht0 htb hfu
      have hmm := hmt m
      refine g_iload_n 2 dX6_greatestTime_4 rfl rfl ?_
      refine g_aload_n 0 dX6_greatestTime_5 rfl rfl ?_
      refine g_getf 0 (.int (iN (V 0 9))) fX6_52 ox_0 dX6_greatestTime_6 rfl ?_
      refine g_top (show V 0 9 = (us : Int) from hus) ?_
      refine g_icmp_ge 43 dX6_greatestTime_9 (by decide) (fun c_1 => ?_) (fun c_1 => ?_)
      · refine g_iload_n 1 dX6_greatestTime_43 rfl rfl ?_
        exact g_iret hq rfl rfl dX6_greatestTime_44 (⟨by rw [ht0, show m = us by omega], rfl⟩)
      · refine g_iload_n 1 dX6_greatestTime_12 rfl rfl ?_
        refine g_aload_n 0 dX6_greatestTime_13 rfl rfl ?_
        refine g_getf 0 (.ref (a 14)) fX6_26 ox_0 dX6_greatestTime_14 rfl ?_
        refine g_iload_n 2 dX6_greatestTime_17 rfl rfl ?_
        refine g_aald 14 m ax_14 dX6_greatestTime_18 rfl (by omega) ?_
        refine g_getf (15 + 4 * m) (.int (iN (V (15 + 4 * m) 6))) fX6_258 (ox_M (m := m) (by omega)) dX6_greatestTime_19 rfl ?_
        refine g_aload_n 0 dX6_greatestTime_22 rfl rfl ?_
        refine g_aload_n 0 dX6_greatestTime_23 rfl rfl ?_
        refine g_getf 0 (.ref (a 14)) fX6_26 ox_0 dX6_greatestTime_24 rfl ?_
        refine g_iload_n 2 dX6_greatestTime_27 rfl rfl ?_
        refine g_aald 14 m ax_14 dX6_greatestTime_28 rfl (by omega) ?_
        have hsup := sup_in (am := V (15 + 4 * m + 3)) (be := V 8) (ab := V 7) (rf := V 6) (n := kc) (fun k hk => (ham m (by omega) k hk).2) hbe hab
        refine g_callI (k := 0) [.ref (a (15 + 4 * m))] (met_X6_supplyTime ha (show m < 3 by omega) kc hkc hkc10 (ham m (by omega)) hbe hab hrf) vX6_169 ox_0 rfl rfl ⟨rfl, rfl, Nat.le_of_ble_eq_true rfl, Nat.le_of_ble_eq_true rfl⟩ rfl (Nat.le_of_ble_eq_true rfl) dX6_greatestTime_29 rfl ?_
        rintro z9 V9 ⟨hz9, hV9⟩
        replace hz9 := hz9.symm
        replace hV9 := hV9.symm
        subst hz9
        subst hV9
        refine g_iadd dX6_greatestTime_32 ?_
        refine g_mmax jX6_61 ⟨Nat.le_of_ble_eq_true rfl, Nat.le_of_ble_eq_true rfl⟩ (Nat.le_of_ble_eq_true rfl) dX6_greatestTime_33 (by omega) (by omega) ?_
        refine g_istore_n [(1, .int (iN (max t0 ((V (15 + 4 * m) 6) + (sup (V (15 + 4 * m + 3)) (V 8) (V 7) (V 6) kc))))), (0, .ref (a 0)), (2, .int (iN (m : Int)))] dX6_greatestTime_36 rfl (by decide) rfl ?_
        refine g_iinc 2 [(2, .int (iN ((m : Int) + 1))), (1, .int (iN (max t0 ((V (15 + 4 * m) 6) + (sup (V (15 + 4 * m + 3)) (V 8) (V 7) (V 6) kc))))), (0, .ref (a 0))] dX6_greatestTime_37 rfl (by decide) rfl ?_
        refine g_goto 4 dX6_greatestTime_40 (by decide) ?_
        refine g_lv [2, 1, 0] rfl ?_
        exact ih_4 (m + 1) (max t0 ((V (15 + 4 * m) 6) + (sup (V (15 + 4 * m + 3)) (V 8) (V 7) (V 6) kc))) (by omega) (by rw [ht0]; rfl) (by omega) (by omega)
  refine g_lv [2, 1, 0] rfl ?_
  exact lp_4 _ 0 0 (Nat.zero_le _) rfl (by omega) (Nat.lt_succ_self _)

set_option maxHeartbeats 4000000 in
/-- leastChangeTime(machine) -/
theorem met_X6_leastChangeTime {l : Launch} {D : va_G} {τ : Nat → ClassId} {a : Nat → Nat} (ha : Apart (LX τ) a) {V : Mem} {m : Nat} (hm : m < 3) (kc : Nat) (hkc : V 2 6 = (kc : Int)) (hkc10 : kc ≤ 10) (hnz : ∀ k, k < 10 → 0 ≤ V 4 k ∧ V 4 k ≤ 7) (ham : ∀ k, k < kc → 0 ≤ V (15 + 4 * m + 3) k ∧ V (15 + 4 * m + 3) k ≤ 40) : CI l D (tysL τ) (LX τ) a yX6_leastChangeTime mX6_leastChangeTime [.ref (a 0), .ref (a (15 + 4 * m))] V (fun z V' => z = 20 * max 0 ((pop8 (nzM (V (15 + 4 * m + 3)) (V 4) kc) : Int) - 1) ∧ V' = V) := by
  refine CI.of (by decide +kernel) rfl (Nat.le_of_ble_eq_true rfl) ha (fun x hq => ?_)
  show G l D (tysL τ) (LX τ) a mX6_leastChangeTime x 0 [(0, .ref (a 0)), (1, .ref (a (15 + 4 * m)))] [] V
  refine g_iconst dX6_leastChangeTime_0 ?_
  refine g_istore_n [(2, .int (iN 0)), (0, .ref (a 0)), (1, .ref (a (15 + 4 * m)))] dX6_leastChangeTime_1 rfl (by decide) rfl ?_
  refine g_iconst dX6_leastChangeTime_2 ?_
  refine g_istore_n [(3, .int (iN 0)), (2, .int (iN 0)), (0, .ref (a 0)), (1, .ref (a (15 + 4 * m)))] dX6_leastChangeTime_3 rfl (by decide) rfl ?_
  have lp_4 : ∀ (fuel : Nat) (k : Nat) (f : Nat), (k ≤ kc) → (f = nzM (V (15 + 4 * m + 3)) (V 4) k) → (kc - k) < fuel → G l D (tysL τ) (LX τ) a mX6_leastChangeTime x 4 [(0, .ref (a 0)), (1, .ref (a (15 + 4 * m))), (2, .int (iN (f : Int))), (3, .int (iN (k : Int)))] [] V := by
    intro fuel
    induction fuel with
    | zero => intro k f hk hf hfu; exact absurd hfu (Nat.not_lt_zero _)
    | succ fuel ih_4 =>
      intro k f hk hf hfu
      have hak := ham k
      have hnk := hnz k
      refine g_iload_n 3 dX6_leastChangeTime_4 rfl rfl ?_
      refine g_aload_n 0 dX6_leastChangeTime_5 rfl rfl ?_
      refine g_getf 0 (.ref (a 2)) fX6_10 ox_0 dX6_leastChangeTime_6 rfl ?_
      refine g_getf 2 (.int (iN (V 2 6))) fX6_199 ox_2 dX6_leastChangeTime_9 rfl ?_
      refine g_top (show V 2 6 = (kc : Int) from hkc) ?_
      refine g_icmp_ge 44 dX6_leastChangeTime_12 (by decide) (fun c_1 => ?_) (fun c_1 => ?_)
      · refine g_bipush dX6_leastChangeTime_44 rfl ?_
        refine g_iconst dX6_leastChangeTime_46 ?_
        refine g_iload_n 2 dX6_leastChangeTime_47 rfl rfl ?_
        have hml := nzM_lt (am := V (15 + 4 * m + 3)) (nz := V 4) (n := kc) (fun k hk => hnz k (by omega))
        have hp8 := pop8_le (n := f)
        refine g_callXI [.int (iN (f : Int))] (met_J1_bitCount ha f (by rw [hf, show k = kc by omega]; exact hml)) vX6_305 ⟨rfl, rfl, Nat.le_of_ble_eq_true rfl, Nat.le_of_ble_eq_true rfl⟩ rfl (Nat.le_of_ble_eq_true rfl) dX6_leastChangeTime_48 rfl ?_
        rintro z9 V9 ⟨hz9, hV9⟩
        replace hz9 := hz9.symm
        replace hV9 := hV9.symm
        subst hz9
        subst hV9
        refine g_iconst dX6_leastChangeTime_51 ?_
        refine g_isub dX6_leastChangeTime_52 ?_
        refine g_mmax jX6_61 ⟨Nat.le_of_ble_eq_true rfl, Nat.le_of_ble_eq_true rfl⟩ (Nat.le_of_ble_eq_true rfl) dX6_leastChangeTime_53 (by omega) (by omega) ?_
        refine g_imul dX6_leastChangeTime_56 ?_
        exact g_iret hq rfl rfl dX6_leastChangeTime_57 (⟨by rw [hf, show k = kc by omega], rfl⟩)
      · refine g_aload_n 1 dX6_leastChangeTime_15 rfl rfl ?_
        refine g_getf (15 + 4 * m) (.ref (a (15 + 4 * m + 3))) fX6_296 (ox_M (m := m) hm) dX6_leastChangeTime_16 rfl ?_
        refine g_iload_n 3 dX6_leastChangeTime_19 rfl rfl ?_
        refine g_iald (15 + 4 * m + 3) k (ax_A (m := m) (by omega)) dX6_leastChangeTime_20 rfl (by omega) ?_
        refine g_if_le 38 dX6_leastChangeTime_21 (by decide) (fun c_2 => ?_) (fun c_2 => ?_)
        · refine g_iinc 3 [(3, .int (iN ((k : Int) + 1))), (0, .ref (a 0)), (1, .ref (a (15 + 4 * m))), (2, .int (iN (f : Int)))] dX6_leastChangeTime_38 rfl (by decide) rfl ?_
          refine g_goto 4 dX6_leastChangeTime_41 (by decide) ?_
          refine g_lv [1, 2, 3, 0] rfl ?_
          exact ih_4 (k + 1) f (by omega) (by rw [hf]; simp only [nzM]; rw [if_neg (by omega)]) (by omega)
        · refine g_iload_n 2 dX6_leastChangeTime_24 rfl rfl ?_
          refine g_iconst dX6_leastChangeTime_25 ?_
          refine g_aload_n 0 dX6_leastChangeTime_26 rfl rfl ?_
          refine g_getf 0 (.ref (a 2)) fX6_10 ox_0 dX6_leastChangeTime_27 rfl ?_
          refine g_getf 2 (.ref (a 4)) fX6_202 ox_2 dX6_leastChangeTime_30 rfl ?_
          refine g_iload_n 3 dX6_leastChangeTime_33 rfl rfl ?_
          refine g_iald 4 k ax_4 dX6_leastChangeTime_34 rfl (by omega) ?_
          refine g_top (show V 4 k = (((V 4 k).toNat : Nat) : Int) from by omega) ?_
          refine g_ishl ((2 ^ ((V 4 k).toNat) : Nat) : Int) dX6_leastChangeTime_35 (iN_bit (by omega)) ?_
          refine g_ior ((f ||| (2 ^ ((V 4 k).toNat)) : Nat) : Int) dX6_leastChangeTime_36 (iN_or _ _) ?_
          refine g_istore_n [(2, .int (iN ((f ||| (2 ^ ((V 4 k).toNat)) : Nat) : Int))), (0, .ref (a 0)), (1, .ref (a (15 + 4 * m))), (3, .int (iN (k : Int)))] dX6_leastChangeTime_37 rfl (by decide) rfl ?_
          refine g_iinc 3 [(3, .int (iN ((k : Int) + 1))), (2, .int (iN ((f ||| (2 ^ ((V 4 k).toNat)) : Nat) : Int))), (0, .ref (a 0)), (1, .ref (a (15 + 4 * m)))] dX6_leastChangeTime_38 rfl (by decide) rfl ?_
          refine g_goto 4 dX6_leastChangeTime_41 (by decide) ?_
          refine g_lv [2, 3, 1, 0] rfl ?_
          exact ih_4 (k + 1) (f ||| (2 ^ ((V 4 k).toNat))) (by omega) (by rw [hf]; simp only [nzM]; rw [if_pos (by omega)]) (by omega)
  refine g_lv [2, 3, 1, 0] rfl ?_
  exact lp_4 _ 0 0 (Nat.zero_le _) rfl (Nat.lt_succ_self _)
