set_option maxHeartbeats 4000000 in
/-- moveTime(machine) -/
theorem met_X6_moveTime {l : Launch} {D : va_G} {τ : Nat → ClassId} {a : Nat → Nat} (ha : Apart (LX τ) a) {V : Mem} {m : Nat} (hm : m < 3) (n : Nat) (hn : V (15 + 4 * m) 5 = (n : Int)) (hn40 : n ≤ 40) (hrw : ∀ i, i < n → 0 ≤ V (15 + 4 * m + 1) i ∧ V (15 + 4 * m + 1) i < 40) (cr : Nat) (hcr : V (15 + 4 * m) 4 = (cr : Int)) (hcr6 : 1 ≤ cr ∧ cr ≤ 6) (hko : ∀ p, p < 40 → 0 ≤ V 10 p ∧ V 10 p < 10) (hnz : ∀ k, k < 10 → 0 ≤ V 4 k ∧ V 4 k ≤ 7) (hc : 0 ≤ V 9 4 ∧ V 9 4 ≤ 40) (hx : ∀ p, p < 40 → 0 ≤ V 11 p ∧ V 11 p ≤ 100000) (hy : ∀ p, p < 40 → 0 ≤ V 12 p ∧ V 12 p ≤ 100000) : CI l D (tysL τ) (LX τ) a yX6_moveTime mX6_moveTime [.ref (a 0), .ref (a (15 + 4 * m))] V (fun z V' => z = moveT (way (V 11) (V 12) (V 9 4)) cr (V (15 + 4 * m + 1)) (fun i => V 4 (V 10 (V (15 + 4 * m + 1) i).toNat).toNat) n ∧ V' = V) := by
  refine CI.of (by decide +kernel) rfl (Nat.le_of_ble_eq_true rfl) ha (fun x hq => ?_)
  show G l D (tysL τ) (LX τ) a mX6_moveTime x 0 [(0, .ref (a 0)), (1, .ref (a (15 + 4 * m)))] [] V
  refine g_iconst dX6_moveTime_0 ?_
  refine g_istore_n [(2, .int (iN 0)), (0, .ref (a 0)), (1, .ref (a (15 + 4 * m)))] dX6_moveTime_1 rfl (by decide) rfl ?_
  refine g_iconst dX6_moveTime_2 ?_
  refine g_istore_n [(3, .int (iN (-1))), (2, .int (iN 0)), (0, .ref (a 0)), (1, .ref (a (15 + 4 * m)))] dX6_moveTime_3 rfl (by decide) rfl ?_
  refine g_iconst dX6_moveTime_4 ?_
  refine g_istore [(4, .int (iN 0)), (3, .int (iN (-1))), (2, .int (iN 0)), (0, .ref (a 0)), (1, .ref (a (15 + 4 * m)))] dX6_moveTime_5 (by decide) rfl ?_
  have lp_7 : ∀ (fuel : Nat) (i : Nat) (w0 : Int) (last : Int), (i ≤ n) → (w0 = mv (way (V 11) (V 12) (V 9 4)) cr (V (15 + 4 * m + 1)) i) → (last = (if i = 0 then -1 else V (15 + 4 * m + 1) (i - 1))) → (n - i) < fuel → G l D (tysL τ) (LX τ) a mX6_moveTime x 7 [(0, .ref (a 0)), (1, .ref (a (15 + 4 * m))), (2, .int (iN w0)), (3, .int (iN last)), (4, .int (iN (i : Int)))] [] V := by
    intro fuel
    induction fuel with
    | zero => intro i w0 last hi hw hl hfu; exact absurd hfu (Nat.not_lt_zero _)
    | succ fuel ih_7 =>
      intro i w0 last hi hw hl hfu
      have h1 := hrw i
      have h2 := hrw (i - 1)
      have hlr : -1 ≤ last ∧ last < 40 := by rw [hl]; split <;> omega
      have hd1 : i / cr ≤ i := Nat.div_le_self _ _
      have hd2 : (i - 1) / cr ≤ i - 1 := Nat.div_le_self _ _
      have hd3 : (0 : Int) ≤ ((i / cr : Nat) : Int) := Int.natCast_nonneg _
      have hd4 : (0 : Int) ≤ (((i - 1) / cr : Nat) : Int) := Int.natCast_nonneg _
      refine g_iload 4 dX6_moveTime_7 rfl ?_
      refine g_aload_n 1 dX6_moveTime_9 rfl rfl ?_
      refine g_getf (15 + 4 * m) (.int (iN (V (15 + 4 * m) 5))) fX6_274 (ox_M (m := m) hm) dX6_moveTime_10 rfl ?_
      refine g_top (show V (15 + 4 * m) 5 = (n : Int) from hn) ?_
      refine g_icmp_ge 84 dX6_moveTime_13 (by decide) (fun c_1 => ?_) (fun c_1 => ?_)
      · refine g_iload_n 2 dX6_moveTime_84 rfl rfl ?_
        refine g_aload_n 0 dX6_moveTime_85 rfl rfl ?_
        refine g_getf 0 (.ref (a 9)) fX6_19 ox_0 dX6_moveTime_86 rfl ?_
        refine g_iload_n 3 dX6_moveTime_89 rfl rfl ?_
        refine g_iconst dX6_moveTime_90 ?_
        have hwi_1 := way_in (x := V 11) (y := V 12) (np := V 9 4) (p := last) (q := -1) hx hy hc.2
        refine g_callI (k := 9) [.int (iN last), .int (iN (-1))] (met_X3_wayBetween ha last (-1) (by omega) (by omega) hc hx hy) vX6_290 ox_9 rfl rfl ⟨rfl, rfl, Nat.le_of_ble_eq_true rfl, Nat.le_of_ble_eq_true rfl⟩ rfl (Nat.le_of_ble_eq_true rfl) dX6_moveTime_91 rfl ?_
        rintro z9 V9 ⟨hz9, hV9⟩
        replace hz9 := hz9.symm
        replace hV9 := hV9.symm
        subst hz9
        subst hV9
        refine g_iadd dX6_moveTime_94 ?_
        refine g_bipush dX6_moveTime_95 rfl ?_
        refine g_aload_n 0 dX6_moveTime_97 rfl rfl ?_
        refine g_aload_n 1 dX6_moveTime_98 rfl rfl ?_
        refine g_callI (k := 0) [.ref (a (15 + 4 * m))] (met_X6_countChanges ha hm n hn hn40 hrw hko hnz) vX6_208 ox_0 rfl rfl ⟨rfl, rfl, Nat.le_of_ble_eq_true rfl, Nat.le_of_ble_eq_true rfl⟩ rfl (Nat.le_of_ble_eq_true rfl) dX6_moveTime_99 rfl ?_
        rintro z9 V9 ⟨hz9, hV9⟩
        replace hz9 := hz9.symm
        replace hV9 := hV9.symm
        subst hz9
        subst hV9
        refine g_imul dX6_moveTime_102 ?_
        refine g_iadd dX6_moveTime_103 ?_
        exact g_iret hq rfl rfl dX6_moveTime_104 (⟨by rw [hw, hl, show i = n by omega]; rfl, rfl⟩)
      · have jn_52 : ∀ (w2 : Int) (last2 : Int), (-1 ≤ last2 ∧ last2 < 40) → (w2 + way (V 11) (V 12) (V 9 4) last2 (V (15 + 4 * m + 1) i) = mv (way (V 11) (V 12) (V 9 4)) cr (V (15 + 4 * m + 1)) (i + 1)) → G l D (tysL τ) (LX τ) a mX6_moveTime x 52 [(0, .ref (a 0)), (1, .ref (a (15 + 4 * m))), (2, .int (iN w2)), (3, .int (iN last2)), (4, .int (iN (i : Int)))] [] V := by
          intro w2 last2 hl2 hw2
          refine g_iload_n 2 dX6_moveTime_52 rfl rfl ?_
          refine g_aload_n 0 dX6_moveTime_53 rfl rfl ?_
          refine g_getf 0 (.ref (a 9)) fX6_19 ox_0 dX6_moveTime_54 rfl ?_
          refine g_iload_n 3 dX6_moveTime_57 rfl rfl ?_
          refine g_aload_n 1 dX6_moveTime_58 rfl rfl ?_
          refine g_getf (15 + 4 * m) (.ref (a (15 + 4 * m + 1))) fX6_277 (ox_M (m := m) hm) dX6_moveTime_59 rfl ?_
          refine g_iload 4 dX6_moveTime_62 rfl ?_
          refine g_iald (15 + 4 * m + 1) i (ax_R (m := m) (by omega)) dX6_moveTime_64 rfl (by omega) ?_
          have hwi_2 := way_in (x := V 11) (y := V 12) (np := V 9 4) (p := last2) (q := V (15 + 4 * m + 1) i) hx hy hc.2
          refine g_callI (k := 9) [.int (iN last2), .int (iN (V (15 + 4 * m + 1) i))] (met_X3_wayBetween ha last2 (V (15 + 4 * m + 1) i) (by omega) (by omega) hc hx hy) vX6_290 ox_9 rfl rfl ⟨rfl, rfl, Nat.le_of_ble_eq_true rfl, Nat.le_of_ble_eq_true rfl⟩ rfl (Nat.le_of_ble_eq_true rfl) dX6_moveTime_65 rfl ?_
          rintro z9 V9 ⟨hz9, hV9⟩
          replace hz9 := hz9.symm
          replace hV9 := hV9.symm
          subst hz9
          subst hV9
          refine g_iadd dX6_moveTime_68 ?_
          refine g_istore_n [(2, .int (iN (w2 + (way (V 11) (V 12) (V 9 4) last2 (V (15 + 4 * m + 1) i))))), (0, .ref (a 0)), (1, .ref (a (15 + 4 * m))), (3, .int (iN last2)), (4, .int (iN (i : Int)))] dX6_moveTime_69 rfl (by decide) rfl ?_
          refine g_aload_n 2 dX6_moveTime_70 rfl rfl ?_
          refine g_getf (15 + 4 * m) (.ref (a (15 + 4 * m + 1))) fX6_277 (ox_M (m := m) hm) dX6_moveTime_71 rfl ?_
          refine g_iload 4 dX6_moveTime_74 rfl ?_
          refine g_iald (15 + 4 * m + 1) i (ax_R (m := m) (by omega)) dX6_moveTime_76 rfl (by omega) ?_
          refine g_istore_n [(3, .int (iN (V (15 + 4 * m + 1) i))), (2, .int (iN (w2 + (way (V 11) (V 12) (V 9 4) last2 (V (15 + 4 * m + 1) i))))), (0, .ref (a 0)), (1, .ref (a (15 + 4 * m))), (4, .int (iN (i : Int)))] dX6_moveTime_77 rfl (by decide) rfl ?_
          refine g_iinc 4 [(4, .int (iN ((i : Int) + 1))), (3, .int (iN (V (15 + 4 * m + 1) i))), (2, .int (iN (w2 + (way (V 11) (V 12) (V 9 4) last2 (V (15 + 4 * m + 1) i))))), (0, .ref (a 0)), (1, .ref (a (15 + 4 * m)))] dX6_moveTime_78 rfl (by decide) rfl ?_
          refine g_goto 7 dX6_moveTime_81 (by decide) ?_
          refine g_lv [3, 4, 2, 1, 0] rfl ?_
          exact ih_7 (i + 1) (w2 + (way (V 11) (V 12) (V 9 4) last2 (V (15 + 4 * m + 1) i))) (V (15 + 4 * m + 1) i) (by omega) hw2 (by rw [if_neg (by omega)]; rfl) (by omega)
        refine g_iload 4 dX6_moveTime_16 rfl ?_
        refine g_if_le 52 dX6_moveTime_18 (by decide) (fun c_4 => ?_) (fun c_4 => ?_)
        · exact jn_52 w0 last (by omega) (by rw [hw, hl]; simp only [mv]; rw [if_neg (c := 0 < i ∧ i / cr ≠ (i - 1) / cr) (by omega)])
        · refine g_aload_n 1 dX6_moveTime_21 rfl rfl ?_
          refine g_iload 4 dX6_moveTime_22 rfl ?_
          refine g_callI (k := 15 + 4 * m) [.int (iN (i : Int))] (met_X2_tripAt ha hm (i : Int) (by omega) (by omega)) vX6_163 (ox_M (m := m) hm) rfl rfl ⟨rfl, rfl, Nat.le_of_ble_eq_true rfl, Nat.le_of_ble_eq_true rfl⟩ rfl (Nat.le_of_ble_eq_true rfl) dX6_moveTime_24 rfl ?_
          rintro z9 V9 ⟨hz9, hV9⟩
          replace hV9 := hV9.symm
          subst hV9
          rw [hcr, ← Int.natCast_ediv] at hz9
          replace hz9 := hz9.symm
          subst hz9
          refine g_aload_n 1 dX6_moveTime_27 rfl rfl ?_
          refine g_iload 4 dX6_moveTime_28 rfl ?_
          refine g_iconst dX6_moveTime_30 ?_
          refine g_isub dX6_moveTime_31 ?_
          refine g_callI (k := 15 + 4 * m) [.int (iN ((i : Int) - 1))] (met_X2_tripAt ha hm ((i : Int) - 1) (by omega) (by omega)) vX6_163 (ox_M (m := m) hm) rfl rfl ⟨rfl, rfl, Nat.le_of_ble_eq_true rfl, Nat.le_of_ble_eq_true rfl⟩ rfl (Nat.le_of_ble_eq_true rfl) dX6_moveTime_32 rfl ?_
          rintro z9 V9 ⟨hz9, hV9⟩
          replace hV9 := hV9.symm
          subst hV9
          rw [hcr, show (i : Int) - 1 = ((i - 1 : Nat) : Int) by omega, ← Int.natCast_ediv] at hz9
          replace hz9 := hz9.symm
          subst hz9
          refine g_icmp_eq 52 dX6_moveTime_35 (by decide) (fun c_5 => ?_) (fun c_5 => ?_)
          · exact jn_52 w0 last (by omega) (by rw [hw, hl]; simp only [mv]; rw [if_neg (c := 0 < i ∧ i / cr ≠ (i - 1) / cr) (by omega)])
          · refine g_iload_n 2 dX6_moveTime_38 rfl rfl ?_
            refine g_aload_n 0 dX6_moveTime_39 rfl rfl ?_
            refine g_getf 0 (.ref (a 9)) fX6_19 ox_0 dX6_moveTime_40 rfl ?_
            refine g_iload_n 3 dX6_moveTime_43 rfl rfl ?_
            refine g_iconst dX6_moveTime_44 ?_
            have hwi_5 := way_in (x := V 11) (y := V 12) (np := V 9 4) (p := last) (q := -1) hx hy hc.2
            refine g_callI (k := 9) [.int (iN last), .int (iN (-1))] (met_X3_wayBetween ha last (-1) (by omega) (by omega) hc hx hy) vX6_290 ox_9 rfl rfl ⟨rfl, rfl, Nat.le_of_ble_eq_true rfl, Nat.le_of_ble_eq_true rfl⟩ rfl (Nat.le_of_ble_eq_true rfl) dX6_moveTime_45 rfl ?_
            rintro z9 V9 ⟨hz9, hV9⟩
            replace hz9 := hz9.symm
            replace hV9 := hV9.symm
            subst hz9
            subst hV9
            refine g_iadd dX6_moveTime_48 ?_
            refine g_istore_n [(2, .int (iN (w0 + (way (V 11) (V 12) (V 9 4) last (-1))))), (0, .ref (a 0)), (1, .ref (a (15 + 4 * m))), (3, .int (iN last)), (4, .int (iN (i : Int)))] dX6_moveTime_49 rfl (by decide) rfl ?_
            refine g_iconst dX6_moveTime_50 ?_
            refine g_istore_n [(3, .int (iN (-1))), (2, .int (iN (w0 + (way (V 11) (V 12) (V 9 4) last (-1))))), (0, .ref (a 0)), (1, .ref (a (15 + 4 * m))), (4, .int (iN (i : Int)))] dX6_moveTime_51 rfl (by decide) rfl ?_
            refine g_lv [2, 3, 1, 0, 4] rfl ?_
            exact jn_52 (w0 + (way (V 11) (V 12) (V 9 4) last (-1))) (-1) (by omega) (by rw [hw, hl, if_neg (by omega)]; simp only [mv]; rw [if_pos ⟨by omega, by omega⟩]; omega)
  refine g_lv [3, 4, 2, 1, 0] rfl ?_
  exact lp_7 _ 0 0 (-1) (Nat.zero_le _) rfl rfl (Nat.lt_succ_self _)

set_option maxHeartbeats 4000000 in
/-- supplyTime(machine) -/
theorem met_X6_supplyTime {l : Launch} {D : va_G} {τ : Nat → ClassId} {a : Nat → Nat} (ha : Apart (LX τ) a) {V : Mem} {m : Nat} (hm : m < 3) (kc : Nat) (hkc : V 2 6 = (kc : Int)) (hkc10 : kc ≤ 10) (ham : ∀ k, k < kc → 0 ≤ V (15 + 4 * m + 3) k ∧ V (15 + 4 * m + 3) k ≤ 40) (hbe : ∀ k, k < kc → 1 ≤ V 8 k ∧ V 8 k ≤ 1000) (hab : ∀ k, k < kc → 0 ≤ V 7 k ∧ V 7 k < V 8 k) (hrf : ∀ k, k < kc → 0 ≤ V 6 k ∧ V 6 k ≤ 2147483647) : CI l D (tysL τ) (LX τ) a yX6_supplyTime mX6_supplyTime [.ref (a 0), .ref (a (15 + 4 * m))] V (fun z V' => z = sup (V (15 + 4 * m + 3)) (V 8) (V 7) (V 6) kc ∧ V' = V) := by
  refine CI.of (by decide +kernel) rfl (Nat.le_of_ble_eq_true rfl) ha (fun x hq => ?_)
  show G l D (tysL τ) (LX τ) a mX6_supplyTime x 0 [(0, .ref (a 0)), (1, .ref (a (15 + 4 * m)))] [] V
  refine g_iconst dX6_supplyTime_0 ?_
  refine g_istore_n [(2, .int (iN 0)), (0, .ref (a 0)), (1, .ref (a (15 + 4 * m)))] dX6_supplyTime_1 rfl (by decide) rfl ?_
  refine g_iconst dX6_supplyTime_2 ?_
  refine g_istore_n [(3, .int (iN 0)), (2, .int (iN 0)), (0, .ref (a 0)), (1, .ref (a (15 + 4 * m)))] dX6_supplyTime_3 rfl (by decide) rfl ?_
  have lp_4 : ∀ (fuel : Nat) (k : Nat) (t0 : Int), (k ≤ kc) → (t0 = sup (V (15 + 4 * m + 3)) (V 8) (V 7) (V 6) k) → (kc - k) < fuel → G l D (tysL τ) (LX τ) a mX6_supplyTime x 4 [(0, .ref (a 0)), (1, .ref (a (15 + 4 * m))), (2, .int (iN t0)), (3, .int (iN (k : Int)))] [] V := by
    intro fuel
    induction fuel with
    | zero => intro k t0 hk ht0 hfu; exact absurd hfu (Nat.not_lt_zero _)
    | succ fuel ih_4 =>
      intro k t0 hk ht0 hfu
      have ha1 := ham k
      refine g_iload_n 3 dX6_supplyTime_4 rfl rfl ?_
      refine g_aload_n 0 dX6_supplyTime_5 rfl rfl ?_
      refine g_getf 0 (.ref (a 2)) fX6_10 ox_0 dX6_supplyTime_6 rfl ?_
      refine g_getf 2 (.int (iN (V 2 6))) fX6_199 ox_2 dX6_supplyTime_9 rfl ?_
      refine g_top (show V 2 6 = (kc : Int) from hkc) ?_
      refine g_icmp_ge 67 dX6_supplyTime_12 (by decide) (fun c_1 => ?_) (fun c_1 => ?_)
      · refine g_iload_n 2 dX6_supplyTime_67 rfl rfl ?_
        exact g_iret hq rfl rfl dX6_supplyTime_68 (⟨by rw [ht0, show k = kc by omega], rfl⟩)
      · refine g_aload_n 1 dX6_supplyTime_15 rfl rfl ?_
        refine g_getf (15 + 4 * m) (.ref (a (15 + 4 * m + 3))) fX6_296 (ox_M (m := m) hm) dX6_supplyTime_16 rfl ?_
        refine g_iload_n 3 dX6_supplyTime_19 rfl rfl ?_
        refine g_iald (15 + 4 * m + 3) k (ax_A (m := m) (by omega)) dX6_supplyTime_20 rfl (by omega) ?_
        refine g_if_le 61 dX6_supplyTime_21 (by decide) (fun c_2 => ?_) (fun c_2 => ?_)
        · refine g_iinc 3 [(3, .int (iN ((k : Int) + 1))), (0, .ref (a 0)), (1, .ref (a (15 + 4 * m))), (2, .int (iN t0))] dX6_supplyTime_61 rfl (by decide) rfl ?_
          refine g_goto 4 dX6_supplyTime_64 (by decide) ?_
          refine g_lv [1, 2, 3, 0] rfl ?_
          exact ih_4 (k + 1) t0 (by omega) (by rw [ht0]; simp only [sup]; rw [if_neg (by omega), Int.add_zero]) (by omega)
        · refine g_aload_n 0 dX6_supplyTime_24 rfl rfl ?_
          refine g_getf 0 (.ref (a 2)) fX6_10 ox_0 dX6_supplyTime_25 rfl ?_
          refine g_iload_n 3 dX6_supplyTime_28 rfl rfl ?_
          refine g_aload_n 1 dX6_supplyTime_29 rfl rfl ?_
          refine g_getf (15 + 4 * m) (.ref (a (15 + 4 * m + 3))) fX6_296 (ox_M (m := m) hm) dX6_supplyTime_30 rfl ?_
          refine g_iload_n 3 dX6_supplyTime_33 rfl rfl ?_
          refine g_iald (15 + 4 * m + 3) k (ax_A (m := m) (by omega)) dX6_supplyTime_34 rfl (by omega) ?_
          refine g_callI (k := 2) [.int (iN (k : Int)), .int (iN (V (15 + 4 * m + 3) k))] (met_X1_pickedFor ha k (V (15 + 4 * m + 3) k) (by omega) (by omega) (hbe k (by omega)) (hab k (by omega))) vX6_299 ox_2 rfl rfl ⟨rfl, rfl, Nat.le_of_ble_eq_true rfl, Nat.le_of_ble_eq_true rfl⟩ rfl (Nat.le_of_ble_eq_true rfl) dX6_supplyTime_35 rfl ?_
          rintro z9 V9 ⟨hz9, hV9⟩
          replace hz9 := hz9.symm
          replace hV9 := hV9.symm
          subst hz9
          subst hV9
          have hpk := picked_in (n := V (15 + 4 * m + 3) k) (b := V 8 k) (a := V 7 k) (by omega) (hbe k (by omega)) (hab k (by omega))
          refine g_istore [(4, .int (iN (picked (V (15 + 4 * m + 3) k) (V 8 k) (V 7 k)))), (0, .ref (a 0)), (1, .ref (a (15 + 4 * m))), (2, .int (iN t0)), (3, .int (iN (k : Int)))] dX6_supplyTime_38 (by decide) rfl ?_
          refine g_iload_n 3 dX6_supplyTime_40 rfl rfl ?_
          refine g_iconst dX6_supplyTime_41 ?_
          refine g_iload 0 dX6_supplyTime_42 rfl ?_
          refine g_imul dX6_supplyTime_44 ?_
          refine g_bipush dX6_supplyTime_45 rfl ?_
          refine g_aload_n 1 dX6_supplyTime_47 rfl rfl ?_
          refine g_getf 0 (.ref (a 2)) fX6_10 ox_0 dX6_supplyTime_48 rfl ?_
          refine g_iload_n 4 dX6_supplyTime_51 rfl rfl ?_
          refine g_iload 0 dX6_supplyTime_52 rfl ?_
          refine g_callI (k := 2) [.int (iN (k : Int)), .int (iN (picked (V (15 + 4 * m + 3) k) (V 8 k) (V 7 k)))] (met_X1_refillsFor ha k (picked (V (15 + 4 * m + 3) k) (V 8 k) (V 7 k)) (by omega) (by omega) (hrf k (by omega))) vX6_302 ox_2 rfl rfl ⟨rfl, rfl, Nat.le_of_ble_eq_true rfl, Nat.le_of_ble_eq_true rfl⟩ rfl (Nat.le_of_ble_eq_true rfl) dX6_supplyTime_54 rfl ?_
          rintro z9 V9 ⟨hz9, hV9⟩
          replace hz9 := hz9.symm
          replace hV9 := hV9.symm
          subst hz9
          subst hV9
          refine g_imul dX6_supplyTime_57 ?_
          refine g_iadd dX6_supplyTime_58 ?_
          refine g_iadd dX6_supplyTime_59 ?_
          refine g_istore_n [(2, .int (iN (t0 + ((2 * (picked (V (15 + 4 * m + 3) k) (V 8 k) (V 7 k))) + (50 * (refilled (picked (V (15 + 4 * m + 3) k) (V 8 k) (V 7 k)) (V 6 k))))))), (4, .int (iN (picked (V (15 + 4 * m + 3) k) (V 8 k) (V 7 k)))), (0, .ref (a 0)), (1, .ref (a (15 + 4 * m))), (3, .int (iN (k : Int)))] dX6_supplyTime_60 rfl (by decide) rfl ?_
          refine g_iinc 4 [(3, .int (iN ((k : Int) + 1))), (2, .int (iN (t0 + ((2 * (picked (V (15 + 4 * m + 3) k) (V 8 k) (V 7 k))) + (50 * (refilled (picked (V (15 + 4 * m + 3) k) (V 8 k) (V 7 k)) (V 6 k))))))), (4, .int (iN (picked (V (15 + 4 * m + 3) k) (V 8 k) (V 7 k)))), (0, .ref (a 0)), (1, .ref (a (15 + 4 * m)))] dX6_supplyTime_61 rfl (by decide) rfl ?_
          refine g_goto 4 dX6_supplyTime_64 (by decide) ?_
          refine g_lv [3, 4, 1, 0] rfl ?_
          exact ih_4 (k + 1) (t0 + ((2 * (picked (V (15 + 4 * m + 3) k) (V 8 k) (V 7 k))) + (50 * (refilled (picked (V (15 + 4 * m + 3) k) (V 8 k) (V 7 k)) (V 6 k))))) (by omega) (by rw [ht0]; simp only [sup]; rw [if_pos (by omega)]) (by omega)
  refine g_lv [2, 3, 1, 0] rfl ?_
  exact lp_4 _ 0 0 (Nat.zero_le _) rfl (Nat.lt_succ_self _)

set_option maxHeartbeats 4000000 in
/-- hostOf(p) -/
theorem met_X6_hostOf {l : Launch} {D : va_G} {τ : Nat → ClassId} {a : Nat → Nat} (ha : Apart (LX τ) a) {V : Mem} (p : Int) (us : Nat) (hus : V 0 9 = (us : Int)) (hus3 : us ≤ 3) (hp : -2147483648 ≤ p ∧ p ≤ 2147483647) (hsz : ∀ m, m < 3 → 0 ≤ V (15 + 4 * m) 5 ∧ V (15 + 4 * m) 5 ≤ 40) (hrr : ∀ m, m < 3 → ∀ i, i < 40 → -2147483648 ≤ V (15 + 4 * m + 1) i ∧ V (15 + 4 * m + 1) i ≤ 2147483647) : CI l D (tysL τ) (LX τ) a yX6_hostOf mX6_hostOf [.ref (a 0), .int (iN p)] V (fun z V' => z = hst (fun m => plc (V (15 + 4 * m + 1)) p (V (15 + 4 * m) 5).toNat) us ∧ V' = V) := by
  refine CI.of (by decide +kernel) rfl (Nat.le_of_ble_eq_true rfl) ha (fun x hq => ?_)
  show G l D (tysL τ) (LX τ) a mX6_hostOf x 0 [(0, .ref (a 0)), (1, .int (iN p))] [] V
  refine g_iconst dX6_hostOf_0 ?_
  refine g_istore_n [(2, .int (iN 0)), (0, .ref (a 0)), (1, .int (iN p))] dX6_hostOf_1 rfl (by decide) rfl ?_
  have lp_2 : ∀ (fuel : Nat) (m : Nat), (m ≤ us) → (hst (fun m => plc (V (15 + 4 * m + 1)) p (V (15 + 4 * m) 5).toNat) m = -1) → (us - m) < fuel → G l D (tysL τ) (LX τ) a mX6_hostOf x 2 [(0, .ref (a 0)), (1, .int (iN p)), (2, .int (iN (m : Int)))] [] V := by
    intro fuel
    induction fuel with
    | zero => intro m hm0 hh hfu; exact absurd hfu (Nat.not_lt_zero _)
    | succ fuel ih_2 =>
      intro m hm0 hh hfu
      refine g_iload_n 2 dX6_hostOf_2 rfl rfl ?_
      refine g_aload_n 0 dX6_hostOf_3 rfl rfl ?_
      refine g_getf 0 (.int (iN (V 0 9))) fX6_52 ox_0 dX6_hostOf_4 rfl ?_
      refine g_top (show V 0 9 = (us : Int) from hus) ?_
      refine g_icmp_ge 32 dX6_hostOf_7 (by decide) (fun c_1 => ?_) (fun c_1 => ?_)
      · refine g_iconst dX6_hostOf_32 ?_
        exact g_iret hq rfl rfl dX6_hostOf_33 (⟨by rw [show us = m by omega, hh], rfl⟩)
      · refine g_aload_n 0 dX6_hostOf_10 rfl rfl ?_
        refine g_getf 0 (.ref (a 14)) fX6_26 ox_0 dX6_hostOf_11 rfl ?_
        refine g_iload_n 2 dX6_hostOf_14 rfl rfl ?_
        refine g_aald 14 m ax_14 dX6_hostOf_15 rfl (by omega) ?_
        refine g_iload_n 1 dX6_hostOf_16 rfl rfl ?_
        have hpi := plc_in (f := V (15 + 4 * m + 1)) (p := p) (V (15 + 4 * m) 5).toNat
        have hs9 := hsz m (by omega)
        refine g_callI (k := 15 + 4 * m) [.int (iN p)] (met_X2_placeOf ha (by omega) p hp (hsz m (by omega)) (hrr m (by omega))) vX6_160 (ox_M (m := m) (by omega)) rfl rfl ⟨rfl, rfl, Nat.le_of_ble_eq_true rfl, Nat.le_of_ble_eq_true rfl⟩ rfl (Nat.le_of_ble_eq_true rfl) dX6_hostOf_17 rfl ?_
        rintro z9 V9 ⟨hz9, hV9⟩
        replace hz9 := hz9.symm
        replace hV9 := hV9.symm
        subst hz9
        subst hV9
        refine g_iconst dX6_hostOf_20 ?_
        refine g_icmp_eq 26 dX6_hostOf_21 (by decide) (fun c_2 => ?_) (fun c_2 => ?_)
        · refine g_iinc 2 [(2, .int (iN ((m : Int) + 1))), (0, .ref (a 0)), (1, .int (iN p))] dX6_hostOf_26 rfl (by decide) rfl ?_
          refine g_goto 2 dX6_hostOf_29 (by decide) ?_
          refine g_lv [1, 2, 0] rfl ?_
          exact ih_2 (m + 1) (by omega) (hst_s hh (by omega)) (by omega)
        · refine g_iload_n 2 dX6_hostOf_24 rfl rfl ?_
          exact g_iret hq rfl rfl dX6_hostOf_25 (⟨(hst_at hh (by omega) (by omega)).symm, rfl⟩)
  refine g_lv [1, 2, 0] rfl ?_
  exact lp_2 _ 0 (Nat.zero_le _) rfl (Nat.lt_succ_self _)

set_option maxHeartbeats 4000000 in
/-- hostsFor(nozzle) -/
theorem met_X6_hostsFor {l : Launch} {D : va_G} {τ : Nat → ClassId} {a : Nat → Nat} (ha : Apart (LX τ) a) {V : Mem} (nz : Nat) (us : Nat) (hus : V 0 9 = (us : Int)) (hus3 : us ≤ 3) (hnz8 : nz < 8) (hz : ∀ m, m < 3 → 0 ≤ V (15 + 4 * m) 3 ∧ V (15 + 4 * m) 3 ≤ 255) : CI l D (tysL τ) (LX τ) a yX6_hostsFor mX6_hostsFor [.ref (a 0), .int (iN (nz : Int))] V (fun z V' => z = (hosts (fun m => decide ((V (15 + 4 * m) 3).toNat / 2 ^ nz % 2 = 1)) us : Int) ∧ V' = V) := by
  refine CI.of (by decide +kernel) rfl (Nat.le_of_ble_eq_true rfl) ha (fun x hq => ?_)
  show G l D (tysL τ) (LX τ) a mX6_hostsFor x 0 [(0, .ref (a 0)), (1, .int (iN (nz : Int)))] [] V
  refine g_iconst dX6_hostsFor_0 ?_
  refine g_istore_n [(2, .int (iN 0)), (0, .ref (a 0)), (1, .int (iN (nz : Int)))] dX6_hostsFor_1 rfl (by decide) rfl ?_
  refine g_iconst dX6_hostsFor_2 ?_
  refine g_istore_n [(3, .int (iN 0)), (2, .int (iN 0)), (0, .ref (a 0)), (1, .int (iN (nz : Int)))] dX6_hostsFor_3 rfl (by decide) rfl ?_
  have lp_4 : ∀ (fuel : Nat) (m : Nat) (f : Nat), (m ≤ us) → (f = hosts (fun m => decide ((V (15 + 4 * m) 3).toNat / 2 ^ nz % 2 = 1)) m) → (us - m) < fuel → G l D (tysL τ) (LX τ) a mX6_hostsFor x 4 [(0, .ref (a 0)), (1, .int (iN (nz : Int))), (2, .int (iN (f : Int))), (3, .int (iN (m : Int)))] [] V := by
    intro fuel
    induction fuel with
    | zero => intro m f hm0 hf hfu; exact absurd hfu (Nat.not_lt_zero _)
    | succ fuel ih_4 =>
      intro m f hm0 hf hfu
      refine g_iload_n 3 dX6_hostsFor_4 rfl rfl ?_
      refine g_aload_n 0 dX6_hostsFor_5 rfl rfl ?_
      refine g_getf 0 (.int (iN (V 0 9))) fX6_52 ox_0 dX6_hostsFor_6 rfl ?_
      refine g_top (show V 0 9 = (us : Int) from hus) ?_
      refine g_icmp_ge 37 dX6_hostsFor_9 (by decide) (fun c_1 => ?_) (fun c_1 => ?_)
      · refine g_iload_n 2 dX6_hostsFor_37 rfl rfl ?_
        exact g_iret hq rfl rfl dX6_hostsFor_38 (⟨by rw [hf, show m = us by omega], rfl⟩)
      · refine g_aload_n 0 dX6_hostsFor_12 rfl rfl ?_
        refine g_getf 0 (.ref (a 14)) fX6_26 ox_0 dX6_hostsFor_13 rfl ?_
        refine g_iload_n 3 dX6_hostsFor_16 rfl rfl ?_
        refine g_aald 14 m ax_14 dX6_hostsFor_17 rfl (by omega) ?_
        refine g_iload_n 1 dX6_hostsFor_18 rfl rfl ?_
        refine g_callI (k := 15 + 4 * m) [.int (iN (nz : Int))] (met_X2_hasNozzle ha (by omega) nz hnz8 (hz m (by omega))) vX6_204 (ox_M (m := m) (by omega)) rfl rfl ⟨rfl, rfl, Nat.le_of_ble_eq_true rfl, Nat.le_of_ble_eq_true rfl⟩ rfl (Nat.le_of_ble_eq_true rfl) dX6_hostsFor_19 rfl ?_
        rintro z9 V9 ⟨hp9, hV9⟩
        replace hV9 := hV9.symm
        subst hV9
        rcases hp9 with ⟨hz9, b_2⟩ | ⟨hz9, b_2⟩
        · subst hz9
          refine g_if_eq 31 dX6_hostsFor_22 (by decide) (fun c_3 => absurd c_3 (by decide)) (fun _ => ?_)
          refine g_iload_n 2 dX6_hostsFor_25 rfl rfl ?_
          refine g_iconst dX6_hostsFor_26 ?_
          refine g_iload_n 3 dX6_hostsFor_27 rfl rfl ?_
          refine g_ishl ((2 ^ m : Nat) : Int) dX6_hostsFor_28 (iN_bit (by omega)) ?_
          refine g_ior ((f ||| (2 ^ m) : Nat) : Int) dX6_hostsFor_29 (iN_or _ _) ?_
          refine g_istore_n [(2, .int (iN ((f ||| (2 ^ m) : Nat) : Int))), (0, .ref (a 0)), (1, .int (iN (nz : Int))), (3, .int (iN (m : Int)))] dX6_hostsFor_30 rfl (by decide) rfl ?_
          refine g_iinc 3 [(3, .int (iN ((m : Int) + 1))), (2, .int (iN ((f ||| (2 ^ m) : Nat) : Int))), (0, .ref (a 0)), (1, .int (iN (nz : Int)))] dX6_hostsFor_31 rfl (by decide) rfl ?_
          refine g_goto 4 dX6_hostsFor_34 (by decide) ?_
          refine g_lv [2, 3, 1, 0] rfl ?_
          exact ih_4 (m + 1) (f ||| 2 ^ m) (by omega) (by rw [hf]; simp only [hosts]; rw [if_pos (by simp only [decide_eq_true_eq]; exact b_2)]) (by omega)
        · subst hz9
          refine g_if_eq 31 dX6_hostsFor_22 (by decide) (fun _ => ?_) (fun c_4 => absurd c_4 (by decide))
          refine g_iinc 3 [(3, .int (iN ((m : Int) + 1))), (0, .ref (a 0)), (1, .int (iN (nz : Int))), (2, .int (iN (f : Int)))] dX6_hostsFor_31 rfl (by decide) rfl ?_
          refine g_goto 4 dX6_hostsFor_34 (by decide) ?_
          refine g_lv [1, 2, 3, 0] rfl ?_
          exact ih_4 (m + 1) f (by omega) (by rw [hf]; simp only [hosts]; rw [if_neg (by simp only [decide_eq_true_eq]; exact b_2)]) (by omega)
  refine g_lv [2, 3, 1, 0] rfl ?_
  exact lp_4 _ 0 0 (Nat.zero_le _) rfl (Nat.lt_succ_self _)
