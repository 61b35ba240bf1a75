set_option maxHeartbeats 4000000 in
/-- countOf(m, k) -/
theorem met_X7_countOf {l : Launch} {D : va_G} {τ : Nat → ClassId} {a : Nat → Nat} (ha : Apart (LM τ) a) {V : Mem} (m cn : Nat) (hcn : V 14 m = (cn : Int)) (k : Nat) (hm : m < 3) (hcn40 : cn ≤ 40) (hrw : ∀ i, i < cn → 0 ≤ V 15 (40 * m + i) ∧ V 15 (40 * m + i) < V 0 10) (hn40 : V 0 10 ≤ 40) (hkd : ∀ p, p < 40 → 0 ≤ V 7 p ∧ V 7 p < 10) (hk : k < 10) : CI l D (tysL τ) (LM τ) a yX7_countOf mX7_countOf [.ref (a 0), .int (iN (m : Int)), .int (iN (k : Int))] V (fun z V' => z = cnt (fun i => V 7 (V 15 (40 * m + i)).toNat) (k : Int) cn ∧ V' = V) := by
  refine CI.of (by decide +kernel) rfl (Nat.le_of_ble_eq_true rfl) ha (fun x hq => ?_)
  show G l D (tysL τ) (LM τ) a mX7_countOf x 0 [(0, .ref (a 0)), (1, .int (iN (m : Int))), (2, .int (iN (k : Int)))] [] V
  refine g_iconst dX7_countOf_0 ?_
  refine g_istore_n [(3, .int (iN 0)), (0, .ref (a 0)), (1, .int (iN (m : Int))), (2, .int (iN (k : Int)))] dX7_countOf_1 rfl (by decide) rfl ?_
  refine g_bipush dX7_countOf_2 rfl ?_
  refine g_iload_n 2 dX7_countOf_4 rfl rfl ?_
  refine g_imul dX7_countOf_5 ?_
  refine g_istore [(4, .int (iN (40 * (m : Int)))), (3, .int (iN 0)), (0, .ref (a 0)), (1, .int (iN (m : Int))), (2, .int (iN (k : Int)))] dX7_countOf_6 (by decide) rfl ?_
  refine g_lve (show ([(4, .int (iN (40 * (m : Int)))), (3, .int (iN 0)), (0, .ref (a 0)), (1, .int (iN (m : Int))), (2, .int (iN (k : Int)))] : List (Nat × Value)) = ([(4, .int (iN ((40 * m + 0 : Nat) : Int))), (3, .int (iN 0)), (0, .ref (a 0)), (1, .int (iN (m : Int))), (2, .int (iN (k : Int)))] : List (Nat × Value)) from by rw [show 40 * (m : Int) = ((40 * m + 0 : Nat) : Int) from by omega]) ?_
  have lp_8 : ∀ (fuel : Nat) (i : Nat) (c : Int), (i ≤ cn) → (c = cnt (fun i => V 7 (V 15 (40 * m + i)).toNat) (k : Int) i) → (cn - i) < fuel → G l D (tysL τ) (LM τ) a mX7_countOf x 8 [(0, .ref (a 0)), (1, .int (iN (m : Int))), (2, .int (iN (k : Int))), (3, .int (iN c)), (4, .int (iN ((40 * m + i : Nat) : Int)))] [] V := by
    intro fuel
    induction fuel with
    | zero => intro i c hi hc hfu; exact absurd hfu (Nat.not_lt_zero _)
    | succ fuel ih_8 =>
      intro i c hi hc hfu
      have h1 := hrw i
      have h2 := hkd (V 15 (40 * m + i)).toNat
      refine g_iload 4 dX7_countOf_8 rfl ?_
      refine g_bipush dX7_countOf_10 rfl ?_
      refine g_iload_n 1 dX7_countOf_12 rfl rfl ?_
      refine g_imul dX7_countOf_13 ?_
      refine g_aload_n 0 dX7_countOf_14 rfl rfl ?_
      refine g_getf 0 (.ref (a 14)) fX7_50 om_0 dX7_countOf_15 rfl ?_
      refine g_iload_n 1 dX7_countOf_18 rfl rfl ?_
      refine g_iald 14 m am_14 dX7_countOf_19 rfl (by omega) ?_
      refine g_top (show V 14 m = (cn : Int) from hcn) ?_
      refine g_iadd dX7_countOf_20 ?_
      refine g_icmp_ge 54 dX7_countOf_21 (by decide) (fun c_1 => ?_) (fun c_1 => ?_)
      · refine g_iload_n 3 dX7_countOf_54 rfl rfl ?_
        exact g_iret hq rfl rfl dX7_countOf_55 (⟨by rw [hc, show i = cn by omega], rfl⟩)
      · refine g_iload_n 3 dX7_countOf_24 rfl rfl ?_
        refine g_aload_n 0 dX7_countOf_25 rfl rfl ?_
        refine g_getf 0 (.ref (a 7)) fX7_29 om_0 dX7_countOf_26 rfl ?_
        refine g_aload_n 0 dX7_countOf_29 rfl rfl ?_
        refine g_getf 0 (.ref (a 15)) fX7_53 om_0 dX7_countOf_30 rfl ?_
        refine g_iload 4 dX7_countOf_33 rfl ?_
        refine g_iald 15 (40 * m + i) am_15 dX7_countOf_35 rfl (by omega) ?_
        refine g_top (show V 15 (40 * m + i) = (((V 15 (40 * m + i)).toNat : Nat) : Int) from by omega) ?_
        refine g_iald 7 ((V 15 (40 * m + i)).toNat) am_7 dX7_countOf_36 rfl (by omega) ?_
        refine g_iload_n 2 dX7_countOf_37 rfl rfl ?_
        refine g_icmp_ne 45 dX7_countOf_38 (by decide) (fun c_2 => ?_) (fun c_2 => ?_)
        · refine g_iconst dX7_countOf_45 ?_
          refine g_iadd dX7_countOf_46 ?_
          refine g_istore_n [(3, .int (iN (c + 0))), (0, .ref (a 0)), (1, .int (iN (m : Int))), (2, .int (iN (k : Int))), (4, .int (iN ((40 * m + i : Nat) : Int)))] dX7_countOf_47 rfl (by decide) rfl ?_
          refine g_iinc 4 [(4, .int (iN (((40 * m + i : Nat) : Int) + 1))), (3, .int (iN (c + 0))), (0, .ref (a 0)), (1, .int (iN (m : Int))), (2, .int (iN (k : Int)))] dX7_countOf_48 rfl (by decide) rfl ?_
          refine g_goto 8 dX7_countOf_51 (by decide) ?_
          refine g_lve (show ([(4, .int (iN (((40 * m + i : Nat) : Int) + 1))), (3, .int (iN (c + 0))), (0, .ref (a 0)), (1, .int (iN (m : Int))), (2, .int (iN (k : Int)))] : List (Nat × Value)) = ([(4, .int (iN ((40 * m + (i + 1) : Nat) : Int))), (3, .int (iN (c + 0))), (0, .ref (a 0)), (1, .int (iN (m : Int))), (2, .int (iN (k : Int)))] : List (Nat × Value)) from by rw [show ((40 * m + i : Nat) : Int) + 1 = ((40 * m + (i + 1) : Nat) : Int) from by omega]) ?_
          refine g_lv [2, 3, 4, 1, 0] rfl ?_
          exact ih_8 (i + 1) (c + 0) (by omega) (by rw [hc]; simp only [cnt]; rw [if_neg (by omega)]) (by omega)
        · refine g_iconst dX7_countOf_41 ?_
          refine g_goto 46 dX7_countOf_42 (by decide) ?_
          refine g_iadd dX7_countOf_46 ?_
          refine g_istore_n [(3, .int (iN (c + 1))), (0, .ref (a 0)), (1, .int (iN (m : Int))), (2, .int (iN (k : Int))), (4, .int (iN ((40 * m + i : Nat) : Int)))] dX7_countOf_47 rfl (by decide) rfl ?_
          refine g_iinc 4 [(4, .int (iN (((40 * m + i : Nat) : Int) + 1))), (3, .int (iN (c + 1))), (0, .ref (a 0)), (1, .int (iN (m : Int))), (2, .int (iN (k : Int)))] dX7_countOf_48 rfl (by decide) rfl ?_
          refine g_goto 8 dX7_countOf_51 (by decide) ?_
          refine g_lve (show ([(4, .int (iN (((40 * m + i : Nat) : Int) + 1))), (3, .int (iN (c + 1))), (0, .ref (a 0)), (1, .int (iN (m : Int))), (2, .int (iN (k : Int)))] : List (Nat × Value)) = ([(4, .int (iN ((40 * m + (i + 1) : Nat) : Int))), (3, .int (iN (c + 1))), (0, .ref (a 0)), (1, .int (iN (m : Int))), (2, .int (iN (k : Int)))] : List (Nat × Value)) from by rw [show ((40 * m + i : Nat) : Int) + 1 = ((40 * m + (i + 1) : Nat) : Int) from by omega]) ?_
          refine g_lv [2, 3, 4, 1, 0] rfl ?_
          exact ih_8 (i + 1) (c + 1) (by omega) (by rw [hc]; simp only [cnt]; rw [if_pos (by omega)]) (by omega)
  refine g_lv [2, 3, 4, 1, 0] rfl ?_
  exact lp_8 _ 0 0 (by omega) rfl (Nat.lt_succ_self _)

set_option maxHeartbeats 4000000 in
/-- placing(m) -/
theorem met_X7_placing {l : Launch} {D : va_G} {τ : Nat → ClassId} {a : Nat → Nat} (ha : Apart (LM τ) a) {V : Mem} (m cn : Nat) (hcn : V 14 m = (cn : Int)) (kc : Nat) (hkc : V 0 3 = (kc : Int)) (hm : m < 3) (hcn40 : cn ≤ 40) (hrw : ∀ i, i < cn → 0 ≤ V 15 (40 * m + i) ∧ V 15 (40 * m + i) < V 0 10) (hn40 : V 0 10 ≤ 40) (hkd : ∀ p, p < 40 → 0 ≤ V 7 p ∧ V 7 p < 10) (hkc10 : kc ≤ 10) (hbe : ∀ k, k < kc → 1 ≤ V 6 k ∧ V 6 k ≤ 1000) (hab : ∀ k, k < kc → 0 ≤ V 5 k ∧ V 5 k < V 6 k) (hrf : ∀ k, k < kc → 0 ≤ V 4 k ∧ V 4 k ≤ 2147483647) : CL l D (tysL τ) (LM τ) a yX7_placing mX7_placing [.ref (a 0), .int (iN (m : Int))] V (fun z V' => z = sup (fun k => cnt (fun i => V 7 (V 15 (40 * m + i)).toNat) (k : Int) cn) (V 6) (V 5) (V 4) kc ∧ V' = V) := by
  refine CL.of (by decide +kernel) rfl (Nat.le_of_ble_eq_true rfl) ha (fun x hq => ?_)
  show G l D (tysL τ) (LM τ) a mX7_placing x 0 [(0, .ref (a 0)), (1, .int (iN (m : Int)))] [] V
  have hcia : ∀ k : Nat, 0 ≤ cnt (fun i => V 7 (V 15 (40 * m + i)).toNat) (k : Int) cn ∧ cnt (fun i => V 7 (V 15 (40 * m + i)).toNat) (k : Int) cn ≤ cn := fun k => cnt_in (fun i => V 7 (V 15 (40 * m + i)).toNat) (k : Int) cn
  have hsi : ∀ n, n ≤ kc → 0 ≤ sup (fun k => cnt (fun i => V 7 (V 15 (40 * m + i)).toNat) (k : Int) cn) (V 6) (V 5) (V 4) n ∧ sup (fun k => cnt (fun i => V 7 (V 15 (40 * m + i)).toNat) (k : Int) cn) (V 6) (V 5) (V 4) n ≤ 2132000 * (n : Int) := fun n hn => sup_in (fun k hk => by have := hcia k; omega) (fun k hk => hbe k (by omega)) (fun k hk => hab k (by omega))
  refine g_lconst 0 dX7_placing_0 rfl ?_
  refine g_lstore_n [(2, .long (jN 0)), (0, .ref (a 0)), (1, .int (iN (m : Int)))] dX7_placing_1 rfl (by decide) rfl ?_
  refine g_iconst dX7_placing_2 ?_
  refine g_istore [(4, .int (iN 0)), (2, .long (jN 0)), (0, .ref (a 0)), (1, .int (iN (m : Int)))] dX7_placing_3 (by decide) rfl ?_
  have lp_5 : ∀ (fuel : Nat) (k : Nat) (t0 : Int), (k ≤ kc) → (t0 = sup (fun k => cnt (fun i => V 7 (V 15 (40 * m + i)).toNat) (k : Int) cn) (V 6) (V 5) (V 4) k) → (kc - k) < fuel → G l D (tysL τ) (LM τ) a mX7_placing x 5 [(0, .ref (a 0)), (1, .int (iN (m : Int))), (2, .long (jN t0)), (4, .int (iN (k : Int)))] [] V := by
    intro fuel
    induction fuel with
    | zero => intro k t0 hk ht0 hfu; exact absurd hfu (Nat.not_lt_zero _)
    | succ fuel ih_5 =>
      intro k t0 hk ht0 hfu
      have hbk := hbe k
      have hak := hab k
      have hrk0 := hrf k
      have hsk := hsi k hk
      refine g_iload 3 dX7_placing_5 rfl ?_
      refine g_aload_n 0 dX7_placing_7 rfl rfl ?_
      refine g_getf 0 (.int (iN (V 0 3))) fX7_86 om_0 dX7_placing_8 rfl ?_
      refine g_top (show V 0 3 = (kc : Int) from hkc) ?_
      refine g_icmp_ge 127 dX7_placing_11 (by decide) (fun c_1 => ?_) (fun c_1 => ?_)
      · refine g_lload_n 2 dX7_placing_127 rfl rfl ?_
        exact g_lret hq rfl dX7_placing_128 (⟨by rw [ht0, show k = kc by omega], rfl⟩)
      · refine g_aload_n 0 dX7_placing_14 rfl rfl ?_
        refine g_iload_n 1 dX7_placing_15 rfl rfl ?_
        refine g_iload 3 dX7_placing_16 rfl ?_
        have hci := cnt_in (fun i => V 7 (V 15 (40 * m + i)).toNat) (k : Int) cn
        refine g_callI (k := 0) [.int (iN (m : Int)), .int (iN (k : Int))] (met_X7_countOf ha m cn hcn k hm hcn40 hrw hn40 hkd (by omega)) vX7_168 om_0 rfl rfl ⟨rfl, rfl, Nat.le_of_ble_eq_true rfl, Nat.le_of_ble_eq_true rfl⟩ rfl (Nat.le_of_ble_eq_true rfl) dX7_placing_18 rfl ?_
        rintro z9 V9 ⟨hz9, hV9⟩
        replace hz9 := hz9.symm
        replace hV9 := hV9.symm
        subst hz9
        subst hV9
        refine g_i2l dX7_placing_21 (by omega) ?_
        refine g_lstore [(5, .long (jN (cnt (fun i => V 7 (V 15 (40 * m + i)).toNat) (k : Int) cn))), (0, .ref (a 0)), (1, .int (iN (m : Int))), (2, .long (jN t0)), (4, .int (iN (k : Int)))] dX7_placing_22 (by decide) rfl ?_
        refine g_lload 0 dX7_placing_24 rfl ?_
        refine g_lconst 0 dX7_placing_26 rfl ?_
        refine g_lcmp (cmpz (cnt (fun i => V 7 (V 15 (40 * m + i)).toNat) (k : Int) cn) 0) dX7_placing_27 (cmpz_j (by omega) (by omega)) ?_
        have hcmp_2 := cmpz_c (cnt (fun i => V 7 (V 15 (40 * m + i)).toNat) (k : Int) cn) 0
        refine g_if_ne 34 dX7_placing_28 (by decide) (fun c_3 => ?_) (fun c_3 => ?_)
        · have hmul : V 6 k ≤ (cnt (fun i => V 7 (V 15 (40 * m + i)).toNat) (k : Int) cn) * V 6 k ∧ (cnt (fun i => V 7 (V 15 (40 * m + i)).toNat) (k : Int) cn) * V 6 k ≤ 40000 := ⟨by have := Int.mul_le_mul_of_nonneg_right (show (1 : Int) ≤ cnt (fun i => V 7 (V 15 (40 * m + i)).toNat) (k : Int) cn by omega) (show 0 ≤ V 6 k by omega); omega, Int.le_trans (Int.mul_le_mul (show cnt (fun i => V 7 (V 15 (40 * m + i)).toNat) (k : Int) cn ≤ 40 by omega) (show V 6 k ≤ 1000 by omega) (by omega) (by omega)) (by omega)⟩
          have hpk := picked_in (n := cnt (fun i => V 7 (V 15 (40 * m + i)).toNat) (k : Int) cn) ⟨by omega, by omega⟩ (hbe k (by omega)) (hab k (by omega))
          have hrk := refilled_in (m := V 4 k) hpk
          refine g_lload 0 dX7_placing_34 rfl ?_
          refine g_aload_n 1 dX7_placing_36 rfl rfl ?_
          refine g_getf 0 (.ref (a 6)) fX7_26 om_0 dX7_placing_37 rfl ?_
          refine g_iload 4 dX7_placing_40 rfl ?_
          refine g_lald 6 k am_6 dX7_placing_42 rfl (by omega) ?_
          refine g_lmul dX7_placing_43 ?_
          refine g_aload_n 1 dX7_placing_44 rfl rfl ?_
          refine g_getf 0 (.ref (a 6)) fX7_26 om_0 dX7_placing_45 rfl ?_
          refine g_iload 4 dX7_placing_48 rfl ?_
          refine g_lald 6 k am_6 dX7_placing_50 rfl (by omega) ?_
          refine g_ladd dX7_placing_51 ?_
          refine g_aload_n 1 dX7_placing_52 rfl rfl ?_
          refine g_getf 0 (.ref (a 5)) fX7_22 om_0 dX7_placing_53 rfl ?_
          refine g_iload 4 dX7_placing_56 rfl ?_
          refine g_lald 5 k am_5 dX7_placing_58 rfl (by omega) ?_
          refine g_lsub dX7_placing_59 ?_
          refine g_lconst 1 dX7_placing_60 rfl ?_
          refine g_lsub dX7_placing_61 ?_
          refine g_aload_n 1 dX7_placing_62 rfl rfl ?_
          refine g_getf 0 (.ref (a 6)) fX7_26 om_0 dX7_placing_63 rfl ?_
          refine g_iload 4 dX7_placing_66 rfl ?_
          refine g_lald 6 k am_6 dX7_placing_68 rfl (by omega) ?_
          refine g_aload_n 1 dX7_placing_69 rfl rfl ?_
          refine g_getf 0 (.ref (a 5)) fX7_22 om_0 dX7_placing_70 rfl ?_
          refine g_iload 4 dX7_placing_73 rfl ?_
          refine g_lald 5 k am_5 dX7_placing_75 rfl (by omega) ?_
          refine g_lsub dX7_placing_76 ?_
          refine g_ldiv dX7_placing_77 (by omega) (by omega) ?_
          refine g_topl (show (((((cnt (fun i => V 7 (V 15 (40 * m + i)).toNat) (k : Int) cn) * (V 6 k)) + (V 6 k)) - (V 5 k)) - 1) / ((V 6 k) - (V 5 k)) = picked (cnt (fun i => V 7 (V 15 (40 * m + i)).toNat) (k : Int) cn) (V 6 k) (V 5 k) from picked_r _ _ _) ?_
          refine g_lstore [(7, .long (jN (picked (cnt (fun i => V 7 (V 15 (40 * m + i)).toNat) (k : Int) cn) (V 6 k) (V 5 k)))), (5, .long (jN (cnt (fun i => V 7 (V 15 (40 * m + i)).toNat) (k : Int) cn))), (0, .ref (a 0)), (1, .int (iN (m : Int))), (2, .long (jN t0)), (4, .int (iN (k : Int)))] dX7_placing_78 (by decide) rfl ?_
          refine g_lload_n 4 dX7_placing_80 rfl rfl ?_
          refine g_ldc2 2 kX7_171 rfl dX7_placing_81 ?_
          refine g_lload 0 dX7_placing_84 rfl ?_
          refine g_lmul dX7_placing_86 ?_
          refine g_aload_n 2 dX7_placing_87 rfl rfl ?_
          refine g_getf 0 (.ref (a 4)) fX7_19 om_0 dX7_placing_88 rfl ?_
          refine g_iload 5 dX7_placing_91 rfl ?_
          refine g_iald 4 k am_4 dX7_placing_93 rfl (by omega) ?_
          refine g_if_le 117 dX7_placing_94 (by decide) (fun c_4 => ?_) (fun c_4 => ?_)
          · refine g_lconst 0 dX7_placing_117 rfl ?_
            refine g_ladd dX7_placing_118 ?_
            refine g_ladd dX7_placing_119 ?_
            refine g_lstore_n [(2, .long (jN (t0 + ((2 * (picked (cnt (fun i => V 7 (V 15 (40 * m + i)).toNat) (k : Int) cn) (V 6 k) (V 5 k))) + 0)))), (7, .long (jN (picked (cnt (fun i => V 7 (V 15 (40 * m + i)).toNat) (k : Int) cn) (V 6 k) (V 5 k)))), (5, .long (jN (cnt (fun i => V 7 (V 15 (40 * m + i)).toNat) (k : Int) cn))), (0, .ref (a 0)), (1, .int (iN (m : Int))), (4, .int (iN (k : Int)))] dX7_placing_120 rfl (by decide) rfl ?_
            refine g_iinc 5 [(4, .int (iN ((k : Int) + 1))), (2, .long (jN (t0 + ((2 * (picked (cnt (fun i => V 7 (V 15 (40 * m + i)).toNat) (k : Int) cn) (V 6 k) (V 5 k))) + 0)))), (7, .long (jN (picked (cnt (fun i => V 7 (V 15 (40 * m + i)).toNat) (k : Int) cn) (V 6 k) (V 5 k)))), (5, .long (jN (cnt (fun i => V 7 (V 15 (40 * m + i)).toNat) (k : Int) cn))), (0, .ref (a 0)), (1, .int (iN (m : Int)))] dX7_placing_121 rfl (by decide) rfl ?_
            refine g_goto 5 dX7_placing_124 (by decide) ?_
            refine g_lv [4, 5, 1, 0] rfl ?_
            exact ih_5 (k + 1) (t0 + ((2 * (picked (cnt (fun i => V 7 (V 15 (40 * m + i)).toNat) (k : Int) cn) (V 6 k) (V 5 k))) + 0)) (by omega) (by rw [ht0]; simp only [sup]; rw [if_pos (by omega)]; unfold refilled; rw [if_neg (by omega)]; omega) (by omega)
          · refine g_ldc2 50 kX7_173 rfl dX7_placing_97 ?_
            refine g_lload 0 dX7_placing_100 rfl ?_
            refine g_lconst 1 dX7_placing_102 rfl ?_
            refine g_lsub dX7_placing_103 ?_
            refine g_aload_n 2 dX7_placing_104 rfl rfl ?_
            refine g_getf 0 (.ref (a 4)) fX7_19 om_0 dX7_placing_105 rfl ?_
            refine g_iload 5 dX7_placing_108 rfl ?_
            refine g_iald 4 k am_4 dX7_placing_110 rfl (by omega) ?_
            refine g_i2l dX7_placing_111 (by omega) ?_
            refine g_ldiv dX7_placing_112 (by omega) (by omega) ?_
            have hdv : 0 ≤ (picked (cnt (fun i => V 7 (V 15 (40 * m + i)).toNat) (k : Int) cn) (V 6 k) (V 5 k) - 1) / V 4 k ∧ (picked (cnt (fun i => V 7 (V 15 (40 * m + i)).toNat) (k : Int) cn) (V 6 k) (V 5 k) - 1) / V 4 k ≤ picked (cnt (fun i => V 7 (V 15 (40 * m + i)).toNat) (k : Int) cn) (V 6 k) (V 5 k) - 1 := ⟨Int.ediv_nonneg (by omega) (by omega), Int.ediv_le_self _ (by omega)⟩
            refine g_lmul dX7_placing_113 ?_
            refine g_goto 118 dX7_placing_114 (by decide) ?_
            refine g_ladd dX7_placing_118 ?_
            refine g_ladd dX7_placing_119 ?_
            refine g_lstore_n [(2, .long (jN (t0 + ((2 * (picked (cnt (fun i => V 7 (V 15 (40 * m + i)).toNat) (k : Int) cn) (V 6 k) (V 5 k))) + (50 * (((picked (cnt (fun i => V 7 (V 15 (40 * m + i)).toNat) (k : Int) cn) (V 6 k) (V 5 k)) - 1) / (V 4 k))))))), (7, .long (jN (picked (cnt (fun i => V 7 (V 15 (40 * m + i)).toNat) (k : Int) cn) (V 6 k) (V 5 k)))), (5, .long (jN (cnt (fun i => V 7 (V 15 (40 * m + i)).toNat) (k : Int) cn))), (0, .ref (a 0)), (1, .int (iN (m : Int))), (4, .int (iN (k : Int)))] dX7_placing_120 rfl (by decide) rfl ?_
            refine g_iinc 5 [(4, .int (iN ((k : Int) + 1))), (2, .long (jN (t0 + ((2 * (picked (cnt (fun i => V 7 (V 15 (40 * m + i)).toNat) (k : Int) cn) (V 6 k) (V 5 k))) + (50 * (((picked (cnt (fun i => V 7 (V 15 (40 * m + i)).toNat) (k : Int) cn) (V 6 k) (V 5 k)) - 1) / (V 4 k))))))), (7, .long (jN (picked (cnt (fun i => V 7 (V 15 (40 * m + i)).toNat) (k : Int) cn) (V 6 k) (V 5 k)))), (5, .long (jN (cnt (fun i => V 7 (V 15 (40 * m + i)).toNat) (k : Int) cn))), (0, .ref (a 0)), (1, .int (iN (m : Int)))] dX7_placing_121 rfl (by decide) rfl ?_
            refine g_goto 5 dX7_placing_124 (by decide) ?_
            refine g_lv [4, 5, 1, 0] rfl ?_
            exact ih_5 (k + 1) (t0 + ((2 * (picked (cnt (fun i => V 7 (V 15 (40 * m + i)).toNat) (k : Int) cn) (V 6 k) (V 5 k))) + (50 * (((picked (cnt (fun i => V 7 (V 15 (40 * m + i)).toNat) (k : Int) cn) (V 6 k) (V 5 k)) - 1) / (V 4 k))))) (by omega) (by rw [ht0]; simp only [sup]; rw [if_pos (by omega)]; unfold refilled; rw [if_pos (by omega)]) (by omega)
        · refine g_goto 121 dX7_placing_31 (by decide) ?_
          refine g_iinc 4 [(4, .int (iN ((k : Int) + 1))), (5, .long (jN (cnt (fun i => V 7 (V 15 (40 * m + i)).toNat) (k : Int) cn))), (0, .ref (a 0)), (1, .int (iN (m : Int))), (2, .long (jN t0))] dX7_placing_121 rfl (by decide) rfl ?_
          refine g_goto 5 dX7_placing_124 (by decide) ?_
          refine g_lv [2, 3, 4, 0] rfl ?_
          exact ih_5 (k + 1) t0 (by omega) (by rw [ht0]; simp only [sup]; rw [if_neg (by omega)]; omega) (by omega)
  refine g_lv [2, 3, 1, 0] rfl ?_
  exact lp_5 _ 0 0 (by omega) rfl (Nat.lt_succ_self _)

set_option maxHeartbeats 4000000 in
/-- changesOf(m) -/
theorem met_X7_changesOf_x {l : Launch} {D : va_G} {τ : Nat → ClassId} {a : Nat → Nat} (ha : Apart (LM τ) a) {V : Mem} (m cn : Nat) (hcn : V 14 m = (cn : Int)) (hm : m < 3) (hcn40 : cn ≤ 40) (hrw : ∀ i, i < cn → 0 ≤ V 15 (40 * m + i) ∧ V 15 (40 * m + i) < V 0 10) (hn40 : V 0 10 ≤ 40) (hkd : ∀ p, p < 40 → 0 ≤ V 7 p ∧ V 7 p < 10) (hnz : ∀ k, k < 10 → 0 ≤ V 2 k ∧ V 2 k ≤ 7) : CI l D (tysL τ) (LM τ) a yX7_changesOf mX7_changesOf [.ref (a 0), .int (iN (m : Int))] V (fun z V' => z = chg (fun i => V 2 (V 7 (V 15 (40 * m + i)).toNat).toNat) cn ∧ V' = V) := by
  refine CI.of (by decide +kernel) rfl (Nat.le_of_ble_eq_true rfl) ha (fun x hq => ?_)
  show G l D (tysL τ) (LM τ) a mX7_changesOf x 0 [(0, .ref (a 0)), (1, .int (iN (m : Int)))] [] V
  refine g_iconst dX7_changesOf_0 ?_
  refine g_istore_n [(2, .int (iN 0)), (0, .ref (a 0)), (1, .int (iN (m : Int)))] dX7_changesOf_1 rfl (by decide) rfl ?_
  refine g_bipush dX7_changesOf_2 rfl ?_
  refine g_iload_n 2 dX7_changesOf_4 rfl rfl ?_
  refine g_imul dX7_changesOf_5 ?_
  refine g_iconst dX7_changesOf_6 ?_
  refine g_iadd dX7_changesOf_7 ?_
  refine g_istore_n [(3, .int (iN ((40 * (m : Int)) + 1))), (2, .int (iN 0)), (0, .ref (a 0)), (1, .int (iN (m : Int)))] dX7_changesOf_8 rfl (by decide) rfl ?_
  refine g_lve (show ([(3, .int (iN ((40 * (m : Int)) + 1))), (2, .int (iN 0)), (0, .ref (a 0)), (1, .int (iN (m : Int)))] : List (Nat × Value)) = ([(3, .int (iN ((40 * m + 1 : Nat) : Int))), (2, .int (iN 0)), (0, .ref (a 0)), (1, .int (iN (m : Int)))] : List (Nat × Value)) from by rw [show (40 * (m : Int)) + 1 = ((40 * m + 1 : Nat) : Int) from by omega]) ?_
  have lp_9 : ∀ (fuel : Nat) (i : Nat) (c : Int), (i ≤ cn ∨ (i = 1 ∧ cn = 0)) → (1 ≤ i) → (c = chg (fun i => V 2 (V 7 (V 15 (40 * m + i)).toNat).toNat) i) → (cn - i) < fuel → G l D (tysL τ) (LM τ) a mX7_changesOf x 9 [(0, .ref (a 0)), (1, .int (iN (m : Int))), (2, .int (iN c)), (3, .int (iN ((40 * m + i : Nat) : Int)))] [] V := by
    intro fuel
    induction fuel with
    | zero => intro i c hi hi1 hcc hfu; exact absurd hfu (Nat.not_lt_zero _)
    | succ fuel ih_9 =>
      intro i c hi hi1 hcc hfu
      have h1 := hrw i
      have h2 := hrw (i - 1)
      have h3 := hkd (V 15 (40 * m + i)).toNat
      have h4 := hkd (V 15 (40 * m + (i - 1))).toNat
      have h5 := hnz (V 7 (V 15 (40 * m + i)).toNat).toNat
      have h6 := hnz (V 7 (V 15 (40 * m + (i - 1))).toNat).toNat
      refine g_iload_n 3 dX7_changesOf_9 rfl rfl ?_
      refine g_bipush dX7_changesOf_10 rfl ?_
      refine g_iload_n 1 dX7_changesOf_12 rfl rfl ?_
      refine g_imul dX7_changesOf_13 ?_
      refine g_aload_n 0 dX7_changesOf_14 rfl rfl ?_
      refine g_getf 0 (.ref (a 14)) fX7_50 om_0 dX7_changesOf_15 rfl ?_
      refine g_iload_n 1 dX7_changesOf_18 rfl rfl ?_
      refine g_iald 14 m am_14 dX7_changesOf_19 rfl (by omega) ?_
      refine g_top (show V 14 m = (cn : Int) from hcn) ?_
      refine g_iadd dX7_changesOf_20 ?_
      refine g_icmp_ge 75 dX7_changesOf_21 (by decide) (fun c_1 => ?_) (fun c_1 => ?_)
      · refine g_iload_n 2 dX7_changesOf_75 rfl rfl ?_
        exact g_iret hq rfl rfl dX7_changesOf_76 (⟨by rw [hcc]; rcases hi with h | ⟨h, h0⟩; (· rw [show i = cn by omega]); (· rw [h, h0]; rfl), rfl⟩)
      · refine g_iload_n 2 dX7_changesOf_24 rfl rfl ?_
        refine g_aload_n 0 dX7_changesOf_25 rfl rfl ?_
        refine g_getf 0 (.ref (a 2)) fX7_13 om_0 dX7_changesOf_26 rfl ?_
        refine g_aload_n 0 dX7_changesOf_29 rfl rfl ?_
        refine g_getf 0 (.ref (a 7)) fX7_29 om_0 dX7_changesOf_30 rfl ?_
        refine g_aload_n 0 dX7_changesOf_33 rfl rfl ?_
        refine g_getf 0 (.ref (a 15)) fX7_53 om_0 dX7_changesOf_34 rfl ?_
        refine g_iload_n 3 dX7_changesOf_37 rfl rfl ?_
        refine g_iald 15 (40 * m + i) am_15 dX7_changesOf_38 rfl (by omega) ?_
        refine g_top (show V 15 (40 * m + i) = (((V 15 (40 * m + i)).toNat : Nat) : Int) from by omega) ?_
        refine g_iald 7 ((V 15 (40 * m + i)).toNat) am_7 dX7_changesOf_39 rfl (by omega) ?_
        refine g_top (show V 7 ((V 15 (40 * m + i)).toNat) = (((V 7 ((V 15 (40 * m + i)).toNat)).toNat : Nat) : Int) from by omega) ?_
        refine g_iald 2 ((V 7 ((V 15 (40 * m + i)).toNat)).toNat) am_2 dX7_changesOf_40 rfl (by omega) ?_
        refine g_aload_n 0 dX7_changesOf_41 rfl rfl ?_
        refine g_getf 0 (.ref (a 2)) fX7_13 om_0 dX7_changesOf_42 rfl ?_
        refine g_aload_n 0 dX7_changesOf_45 rfl rfl ?_
        refine g_getf 0 (.ref (a 7)) fX7_29 om_0 dX7_changesOf_46 rfl ?_
        refine g_aload_n 0 dX7_changesOf_49 rfl rfl ?_
        refine g_getf 0 (.ref (a 15)) fX7_53 om_0 dX7_changesOf_50 rfl ?_
        refine g_iload_n 3 dX7_changesOf_53 rfl rfl ?_
        refine g_iconst dX7_changesOf_54 ?_
        refine g_isub dX7_changesOf_55 ?_
        refine g_iald 15 (40 * m + (i - 1)) am_15 dX7_changesOf_56 (by omega) (by omega) ?_
        refine g_top (show V 15 (40 * m + (i - 1)) = (((V 15 (40 * m + (i - 1))).toNat : Nat) : Int) from by omega) ?_
        refine g_iald 7 ((V 15 (40 * m + (i - 1))).toNat) am_7 dX7_changesOf_57 rfl (by omega) ?_
        refine g_top (show V 7 ((V 15 (40 * m + (i - 1))).toNat) = (((V 7 ((V 15 (40 * m + (i - 1))).toNat)).toNat : Nat) : Int) from by omega) ?_
        refine g_iald 2 ((V 7 ((V 15 (40 * m + (i - 1))).toNat)).toNat) am_2 dX7_changesOf_58 rfl (by omega) ?_
        refine g_icmp_eq 66 dX7_changesOf_59 (by decide) (fun c_2 => ?_) (fun c_2 => ?_)
        · refine g_iconst dX7_changesOf_66 ?_
          refine g_iadd dX7_changesOf_67 ?_
          refine g_istore_n [(2, .int (iN (c + 0))), (0, .ref (a 0)), (1, .int (iN (m : Int))), (3, .int (iN ((40 * m + i : Nat) : Int)))] dX7_changesOf_68 rfl (by decide) rfl ?_
          refine g_iinc 3 [(3, .int (iN (((40 * m + i : Nat) : Int) + 1))), (2, .int (iN (c + 0))), (0, .ref (a 0)), (1, .int (iN (m : Int)))] dX7_changesOf_69 rfl (by decide) rfl ?_
          refine g_goto 9 dX7_changesOf_72 (by decide) ?_
          refine g_lve (show ([(3, .int (iN (((40 * m + i : Nat) : Int) + 1))), (2, .int (iN (c + 0))), (0, .ref (a 0)), (1, .int (iN (m : Int)))] : List (Nat × Value)) = ([(3, .int (iN ((40 * m + (i + 1) : Nat) : Int))), (2, .int (iN (c + 0))), (0, .ref (a 0)), (1, .int (iN (m : Int)))] : List (Nat × Value)) from by rw [show ((40 * m + i : Nat) : Int) + 1 = ((40 * m + (i + 1) : Nat) : Int) from by omega]) ?_
          refine g_lv [2, 3, 1, 0] rfl ?_
          exact ih_9 (i + 1) (c + 0) (by omega) (by omega) (by rw [hcc]; simp only [chg]; rw [if_neg (fun z => z.2 (by omega))]) (by omega)
        · refine g_iconst dX7_changesOf_62 ?_
          refine g_goto 67 dX7_changesOf_63 (by decide) ?_
          refine g_iadd dX7_changesOf_67 ?_
          refine g_istore_n [(2, .int (iN (c + 1))), (0, .ref (a 0)), (1, .int (iN (m : Int))), (3, .int (iN ((40 * m + i : Nat) : Int)))] dX7_changesOf_68 rfl (by decide) rfl ?_
          refine g_iinc 3 [(3, .int (iN (((40 * m + i : Nat) : Int) + 1))), (2, .int (iN (c + 1))), (0, .ref (a 0)), (1, .int (iN (m : Int)))] dX7_changesOf_69 rfl (by decide) rfl ?_
          refine g_goto 9 dX7_changesOf_72 (by decide) ?_
          refine g_lve (show ([(3, .int (iN (((40 * m + i : Nat) : Int) + 1))), (2, .int (iN (c + 1))), (0, .ref (a 0)), (1, .int (iN (m : Int)))] : List (Nat × Value)) = ([(3, .int (iN ((40 * m + (i + 1) : Nat) : Int))), (2, .int (iN (c + 1))), (0, .ref (a 0)), (1, .int (iN (m : Int)))] : List (Nat × Value)) from by rw [show ((40 * m + i : Nat) : Int) + 1 = ((40 * m + (i + 1) : Nat) : Int) from by omega]) ?_
          refine g_lv [2, 3, 1, 0] rfl ?_
          exact ih_9 (i + 1) (c + 1) (by omega) (by omega) (by rw [hcc]; simp only [chg]; rw [if_pos ⟨by omega, by omega⟩]) (by omega)
  refine g_lv [2, 3, 1, 0] rfl ?_
  exact lp_9 _ 1 0 (by omega) (by omega) rfl (Nat.lt_succ_self _)

set_option maxHeartbeats 4000000 in
/-- timeOf(m) -/
theorem met_X7_timeOf {l : Launch} {D : va_G} {τ : Nat → ClassId} {a : Nat → Nat} (ha : Apart (LM τ) a) {V : Mem} (m cn : Nat) (hcn : V 14 m = (cn : Int)) (cr : Nat) (hcr : V 12 m = (cr : Int)) (kc : Nat) (hkc : V 0 3 = (kc : Int)) (hm : m < 3) (hcn40 : cn ≤ 40) (hrw : ∀ i, i < cn → 0 ≤ V 15 (40 * m + i) ∧ V 15 (40 * m + i) < V 0 10) (hn40 : V 0 10 ≤ 40) (hkd : ∀ p, p < 40 → 0 ≤ V 7 p ∧ V 7 p < 10) (hkc10 : kc ≤ 10) (hbe : ∀ k, k < kc → 1 ≤ V 6 k ∧ V 6 k ≤ 1000) (hab : ∀ k, k < kc → 0 ≤ V 5 k ∧ V 5 k < V 6 k) (hrf : ∀ k, k < kc → 0 ≤ V 4 k ∧ V 4 k ≤ 2147483647) (hcr6 : 1 ≤ cr ∧ cr ≤ 6) (hnz : ∀ k, k < 10 → 0 ≤ V 2 k ∧ V 2 k ≤ 7) (hx : ∀ p, p < 40 → 0 ≤ V 8 p ∧ V 8 p ≤ 100000) (hy : ∀ p, p < 40 → 0 ≤ V 9 p ∧ V 9 p ≤ 100000) : CL l D (tysL τ) (LM τ) a yX7_timeOf mX7_timeOf [.ref (a 0), .int (iN (m : Int))] V (fun z V' => z = moveT (way (V 8) (V 9) (V 0 10)) cr (fun i => V 15 (40 * m + i)) (fun i => V 2 (V 7 (V 15 (40 * m + i)).toNat).toNat) cn + sup (fun k => cnt (fun i => V 7 (V 15 (40 * m + i)).toNat) (k : Int) cn) (V 6) (V 5) (V 4) kc ∧ V' = V) := by
  refine CL.of (by decide +kernel) rfl (Nat.le_of_ble_eq_true rfl) ha (fun x hq => ?_)
  show G l D (tysL τ) (LM τ) a mX7_timeOf x 0 [(0, .ref (a 0)), (1, .int (iN (m : Int)))] [] V
  have hcia : ∀ k : Nat, 0 ≤ cnt (fun i => V 7 (V 15 (40 * m + i)).toNat) (k : Int) cn ∧ cnt (fun i => V 7 (V 15 (40 * m + i)).toNat) (k : Int) cn ≤ cn := fun k => cnt_in (fun i => V 7 (V 15 (40 * m + i)).toNat) (k : Int) cn
  have hsi : 0 ≤ sup (fun k => cnt (fun i => V 7 (V 15 (40 * m + i)).toNat) (k : Int) cn) (V 6) (V 5) (V 4) kc ∧ sup (fun k => cnt (fun i => V 7 (V 15 (40 * m + i)).toNat) (k : Int) cn) (V 6) (V 5) (V 4) kc ≤ 2132000 * (kc : Int) := sup_in (fun k hk => by have := hcia k; omega) (fun k hk => hbe k (by omega)) (fun k hk => hab k (by omega))
  have hchi := chg_in (fun i => V 2 (V 7 (V 15 (40 * m + i)).toNat).toNat) cn
  have hwy : ∀ p q, 0 ≤ way (V 8) (V 9) (V 0 10) p q ∧ way (V 8) (V 9) (V 0 10) p q ≤ 100000 := fun p q => way_in hx hy hn40
  refine g_aload_n 0 dX7_timeOf_0 rfl rfl ?_
  refine g_iload_n 1 dX7_timeOf_1 rfl rfl ?_
  refine g_callL (k := 0) [.int (iN (m : Int))] (met_X7_placing ha m cn hcn kc hkc hm hcn40 hrw hn40 hkd hkc10 hbe hab hrf) vX7_175 om_0 rfl rfl ⟨rfl, rfl, Nat.le_of_ble_eq_true rfl, Nat.le_of_ble_eq_true rfl⟩ rfl (Nat.le_of_ble_eq_true rfl) dX7_timeOf_2 rfl ?_
  rintro z9 V9 ⟨hz9, hV9⟩
  replace hz9 := hz9.symm
  replace hV9 := hV9.symm
  subst hz9
  subst hV9
  refine g_ldc2 20 kX7_178 rfl dX7_timeOf_5 ?_
  refine g_aload_n 0 dX7_timeOf_8 rfl rfl ?_
  refine g_iload_n 1 dX7_timeOf_9 rfl rfl ?_
  refine g_callI (k := 0) [.int (iN (m : Int))] (met_X7_changesOf_x ha m cn hcn hm hcn40 hrw hn40 hkd hnz) vX7_180 om_0 rfl rfl ⟨rfl, rfl, Nat.le_of_ble_eq_true rfl, Nat.le_of_ble_eq_true rfl⟩ rfl (Nat.le_of_ble_eq_true rfl) dX7_timeOf_10 rfl ?_
  rintro z9 V9 ⟨hz9, hV9⟩
  replace hz9 := hz9.symm
  replace hV9 := hV9.symm
  subst hz9
  subst hV9
  refine g_i2l dX7_timeOf_13 (by omega) ?_
  refine g_lmul dX7_timeOf_14 ?_
  refine g_ladd dX7_timeOf_15 ?_
  refine g_lstore_n [(2, .long (jN ((sup (fun k => cnt (fun i => V 7 (V 15 (40 * m + i)).toNat) (k : Int) cn) (V 6) (V 5) (V 4) kc) + (20 * (chg (fun i => V 2 (V 7 (V 15 (40 * m + i)).toNat).toNat) cn))))), (0, .ref (a 0)), (1, .int (iN (m : Int)))] dX7_timeOf_16 rfl (by decide) rfl ?_
  refine g_iconst dX7_timeOf_17 ?_
  refine g_istore [(4, .int (iN 0)), (2, .long (jN ((sup (fun k => cnt (fun i => V 7 (V 15 (40 * m + i)).toNat) (k : Int) cn) (V 6) (V 5) (V 4) kc) + (20 * (chg (fun i => V 2 (V 7 (V 15 (40 * m + i)).toNat).toNat) cn))))), (0, .ref (a 0)), (1, .int (iN (m : Int)))] dX7_timeOf_18 (by decide) rfl ?_
  have lp_20 : ∀ (fuel : Nat) (i : Nat) (t0 : Int), (i ≤ cn) → (t0 = trM (way (V 8) (V 9) (V 0 10)) cr (fun i => V 15 (40 * m + i)) cn i + (sup (fun k => cnt (fun i => V 7 (V 15 (40 * m + i)).toNat) (k : Int) cn) (V 6) (V 5) (V 4) kc + 20 * chg (fun i => V 2 (V 7 (V 15 (40 * m + i)).toNat).toNat) cn)) → (cn - i) < fuel → G l D (tysL τ) (LM τ) a mX7_timeOf x 20 [(0, .ref (a 0)), (1, .int (iN (m : Int))), (2, .long (jN t0)), (4, .int (iN (i : Int)))] [] V := by
    intro fuel
    induction fuel with
    | zero => intro i t0 hi ht0 hfu; exact absurd hfu (Nat.not_lt_zero _)
    | succ fuel ih_20 =>
      intro i t0 hi ht0 hfu
      have h1 := hrw i
      have h2 := hrw (i - 1)
      have hti := trM_in (cr := cr) (f := (fun i => V 15 (40 * m + i))) (n := cn) (i := i) hwy (by omega)
      have hd1 : (0 : Int) ≤ ((i % cr : Nat) : Int) := Int.natCast_nonneg _
      have hd2 : i % cr < cr := Nat.mod_lt _ (by omega)
      have hz0 : i = 0 → i % cr = 0 := fun e => by rw [e]; exact Nat.zero_mod _
      have hd3 : (0 : Int) ≤ (((i + 1) % cr : Nat) : Int) := Int.natCast_nonneg _
      have hd4 : (i + 1) % cr < cr := Nat.mod_lt _ (by omega)
      have w1 := hwy (V 15 (40 * m + i)) (-1)
      have w2 := hwy (V 15 (40 * m + (i - 1))) (V 15 (40 * m + i))
      refine g_iload 3 dX7_timeOf_20 rfl ?_
      refine g_aload_n 0 dX7_timeOf_22 rfl rfl ?_
      refine g_getf 0 (.ref (a 14)) fX7_50 om_0 dX7_timeOf_23 rfl ?_
      refine g_iload_n 1 dX7_timeOf_26 rfl rfl ?_
      refine g_iald 14 m am_14 dX7_timeOf_27 rfl (by omega) ?_
      refine g_top (show V 14 m = (cn : Int) from hcn) ?_
      refine g_icmp_ge 159 dX7_timeOf_28 (by decide) (fun c_1 => ?_) (fun c_1 => ?_)
      · refine g_lload_n 2 dX7_timeOf_159 rfl rfl ?_
        exact g_lret hq rfl dX7_timeOf_160 (⟨by rw [ht0, show i = cn by omega, ← trM_end (way_00 _ _ _)]; omega, rfl⟩)
      · refine g_aload_n 0 dX7_timeOf_31 rfl rfl ?_
        refine g_getf 0 (.ref (a 15)) fX7_53 om_0 dX7_timeOf_32 rfl ?_
        refine g_bipush dX7_timeOf_35 rfl ?_
        refine g_iload_n 1 dX7_timeOf_37 rfl rfl ?_
        refine g_imul dX7_timeOf_38 ?_
        refine g_iload 3 dX7_timeOf_39 rfl ?_
        refine g_iadd dX7_timeOf_41 ?_
        refine g_iald 15 (40 * m + i) am_15 dX7_timeOf_42 (by omega) (by omega) ?_
        refine g_istore [(5, .int (iN (V 15 (40 * m + i)))), (0, .ref (a 0)), (1, .int (iN (m : Int))), (2, .long (jN t0)), (4, .int (iN (i : Int)))] dX7_timeOf_43 (by decide) rfl ?_
        refine g_iload 4 dX7_timeOf_45 rfl ?_
        refine g_aload_n 1 dX7_timeOf_47 rfl rfl ?_
        refine g_getf 0 (.ref (a 12)) fX7_44 om_0 dX7_timeOf_48 rfl ?_
        refine g_iload_n 2 dX7_timeOf_51 rfl rfl ?_
        refine g_iald 12 m am_12 dX7_timeOf_52 rfl (by omega) ?_
        refine g_top (show V 12 m = (cr : Int) from hcr) ?_
        refine g_irem dX7_timeOf_53 (by omega) (by omega) ?_
        refine g_top (show (i : Int) % (cr : Int) = ((i % cr : Nat) : Int) from by rw [Int.natCast_emod]) ?_
        refine g_if_ne 61 dX7_timeOf_54 (by decide) (fun c_2 => ?_) (fun c_2 => ?_)
        · refine g_iconst dX7_timeOf_61 ?_
          refine g_istore [(6, .int (iN 0)), (5, .int (iN (V 15 (40 * m + i)))), (0, .ref (a 0)), (1, .int (iN (m : Int))), (2, .long (jN t0)), (4, .int (iN (i : Int)))] dX7_timeOf_62 (by decide) rfl ?_
          refine g_iload 5 dX7_timeOf_64 rfl ?_
          refine g_aload_n 2 dX7_timeOf_66 rfl rfl ?_
          refine g_getf 0 (.ref (a 14)) fX7_50 om_0 dX7_timeOf_67 rfl ?_
          refine g_iload_n 3 dX7_timeOf_70 rfl rfl ?_
          refine g_iald 14 m am_14 dX7_timeOf_71 rfl (by omega) ?_
          refine g_top (show V 14 m = (cn : Int) from hcn) ?_
          refine g_iconst dX7_timeOf_72 ?_
          refine g_isub dX7_timeOf_73 ?_
          refine g_icmp_eq 91 dX7_timeOf_74 (by decide) (fun c_3 => ?_) (fun c_3 => ?_)
          · refine g_iconst dX7_timeOf_91 ?_
            refine g_goto 96 dX7_timeOf_92 (by decide) ?_
            refine g_istore [(7, .int (iN 1)), (6, .int (iN 0)), (5, .int (iN (V 15 (40 * m + i)))), (0, .ref (a 0)), (1, .int (iN (m : Int))), (2, .long (jN t0)), (4, .int (iN (i : Int)))] dX7_timeOf_96 (by decide) rfl ?_
            refine g_lload_n 5 dX7_timeOf_98 rfl rfl ?_
            refine g_iload 1 dX7_timeOf_99 rfl ?_
            refine g_if_eq 113 dX7_timeOf_101 (by decide) (fun _ => ?_) (fun c_4 => absurd c_4 (by decide))
            refine g_aload_n 3 dX7_timeOf_113 rfl rfl ?_
            refine g_aload_n 3 dX7_timeOf_114 rfl rfl ?_
            refine g_getf 0 (.ref (a 15)) fX7_53 om_0 dX7_timeOf_115 rfl ?_
            refine g_bipush dX7_timeOf_118 rfl ?_
            refine g_iload_n 4 dX7_timeOf_120 rfl rfl ?_
            refine g_imul dX7_timeOf_121 ?_
            refine g_iload 6 dX7_timeOf_122 rfl ?_
            refine g_iadd dX7_timeOf_124 ?_
            refine g_iconst dX7_timeOf_125 ?_
            refine g_isub dX7_timeOf_126 ?_
            refine g_iald 15 (40 * m + (i - 1)) am_15 dX7_timeOf_127 (by omega) (by omega) ?_
            refine g_top (show V 15 (40 * m + (i - 1)) = (((V 15 (40 * m + (i - 1))).toNat : Nat) : Int) from by omega) ?_
            refine g_iload 2 dX7_timeOf_128 rfl ?_
            refine g_top (show V 15 (40 * m + i) = (((V 15 (40 * m + i)).toNat : Nat) : Int) from by omega) ?_
            refine g_callL (k := 0) [.int (iN (((V 15 (40 * m + (i - 1))).toNat : Nat) : Int)), .int (iN (((V 15 (40 * m + i)).toNat : Nat) : Int))] (met_X7_between ha (V 15 (40 * m + (i - 1))).toNat (V 15 (40 * m + i)).toNat (by omega) (by omega) hx hy hn40) vX7_161 om_0 rfl rfl ⟨rfl, rfl, Nat.le_of_ble_eq_true rfl, Nat.le_of_ble_eq_true rfl⟩ rfl (Nat.le_of_ble_eq_true rfl) dX7_timeOf_130 rfl ?_
            rintro z9 V9 ⟨hz9, hV9⟩
            replace hV9 := hV9.symm
            subst hV9
            rw [show (((V 15 (40 * m + (i - 1))).toNat : Nat) : Int) = V 15 (40 * m + (i - 1)) by omega, show (((V 15 (40 * m + i)).toNat : Nat) : Int) = V 15 (40 * m + i) by omega] at hz9
            replace hz9 := hz9.symm
            subst hz9
            refine g_ladd dX7_timeOf_133 ?_
            refine g_lstore_n [(2, .long (jN (t0 + (way (V 8) (V 9) (V 0 10) (V 15 (40 * m + (i - 1))) (V 15 (40 * m + i)))))), (7, .int (iN 1)), (6, .int (iN 0)), (5, .int (iN (V 15 (40 * m + i)))), (0, .ref (a 0)), (1, .int (iN (m : Int))), (4, .int (iN (i : Int)))] dX7_timeOf_134 rfl (by decide) rfl ?_
            refine g_lload_n 0 dX7_timeOf_135 rfl rfl ?_
            refine g_iload 1 dX7_timeOf_136 rfl ?_
            refine g_if_eq 150 dX7_timeOf_138 (by decide) (fun c_5 => absurd c_5 (by decide)) (fun _ => ?_)
            refine g_aload_n 4 dX7_timeOf_141 rfl rfl ?_
            refine g_iload 3 dX7_timeOf_142 rfl ?_
            refine g_top (show V 15 (40 * m + i) = (((V 15 (40 * m + i)).toNat : Nat) : Int) from by omega) ?_
            refine g_callL (k := 0) [.int (iN (((V 15 (40 * m + i)).toNat : Nat) : Int))] (met_X7_fromHome ha (V 15 (40 * m + i)).toNat (by omega) hx hy hn40) vX7_152 om_0 rfl rfl ⟨rfl, rfl, Nat.le_of_ble_eq_true rfl, Nat.le_of_ble_eq_true rfl⟩ rfl (Nat.le_of_ble_eq_true rfl) dX7_timeOf_144 rfl ?_
            rintro z9 V9 ⟨hz9, hV9⟩
            replace hV9 := hV9.symm
            subst hV9
            rw [show (((V 15 (40 * m + i)).toNat : Nat) : Int) = V 15 (40 * m + i) by omega] at hz9
            replace hz9 := hz9.symm
            subst hz9
            refine g_goto 151 dX7_timeOf_147 (by decide) ?_
            refine g_ladd dX7_timeOf_151 ?_
            refine g_lstore_n [(2, .long (jN ((t0 + (way (V 8) (V 9) (V 0 10) (V 15 (40 * m + (i - 1))) (V 15 (40 * m + i)))) + (way (V 8) (V 9) (V 0 10) (V 15 (40 * m + i)) (-1))))), (7, .int (iN 1)), (6, .int (iN 0)), (5, .int (iN (V 15 (40 * m + i)))), (0, .ref (a 0)), (1, .int (iN (m : Int))), (4, .int (iN (i : Int)))] dX7_timeOf_152 rfl (by decide) rfl ?_
            refine g_iinc 6 [(4, .int (iN ((i : Int) + 1))), (2, .long (jN ((t0 + (way (V 8) (V 9) (V 0 10) (V 15 (40 * m + (i - 1))) (V 15 (40 * m + i)))) + (way (V 8) (V 9) (V 0 10) (V 15 (40 * m + i)) (-1))))), (7, .int (iN 1)), (6, .int (iN 0)), (5, .int (iN (V 15 (40 * m + i)))), (0, .ref (a 0)), (1, .int (iN (m : Int)))] dX7_timeOf_153 rfl (by decide) rfl ?_
            refine g_goto 20 dX7_timeOf_156 (by decide) ?_
            refine g_lv [5, 6, 1, 0] rfl ?_
            exact ih_20 (i + 1) ((t0 + (way (V 8) (V 9) (V 0 10) (V 15 (40 * m + (i - 1))) (V 15 (40 * m + i)))) + (way (V 8) (V 9) (V 0 10) (V 15 (40 * m + i)) (-1))) (by omega) (by
                rw [trM_s hcr6.1 (by omega) (fun p => way_sym _ _ _ _ _), ht0]
                first | (rw [if_pos (by omega), if_pos (by omega)]; omega) | (rw [if_pos (by omega), if_neg (by omega)]; omega) | (rw [if_neg (by omega), if_pos (by omega)]; omega) | (rw [if_neg (by omega), if_neg (by omega)]; omega)) (by omega)
          · refine g_iload 5 dX7_timeOf_77 rfl ?_
            refine g_iconst dX7_timeOf_79 ?_
            refine g_iadd dX7_timeOf_80 ?_
            refine g_top (show (i : Int) + 1 = ((i + 1 : Nat) : Int) from by omega) ?_
            refine g_aload_n 2 dX7_timeOf_81 rfl rfl ?_
            refine g_getf 0 (.ref (a 12)) fX7_44 om_0 dX7_timeOf_82 rfl ?_
            refine g_iload_n 3 dX7_timeOf_85 rfl rfl ?_
            refine g_iald 12 m am_12 dX7_timeOf_86 rfl (by omega) ?_
            refine g_top (show V 12 m = (cr : Int) from hcr) ?_
            refine g_irem dX7_timeOf_87 (by omega) (by omega) ?_
            refine g_top (show ((i + 1 : Nat) : Int) % (cr : Int) = (((i + 1) % cr : Nat) : Int) from by rw [Int.natCast_emod]) ?_
            refine g_if_ne 95 dX7_timeOf_88 (by decide) (fun c_6 => ?_) (fun c_6 => ?_)
            · refine g_iconst dX7_timeOf_95 ?_
              refine g_istore [(7, .int (iN 0)), (6, .int (iN 0)), (5, .int (iN (V 15 (40 * m + i)))), (0, .ref (a 0)), (1, .int (iN (m : Int))), (2, .long (jN t0)), (4, .int (iN (i : Int)))] dX7_timeOf_96 (by decide) rfl ?_
              refine g_lload_n 5 dX7_timeOf_98 rfl rfl ?_
              refine g_iload 1 dX7_timeOf_99 rfl ?_
              refine g_if_eq 113 dX7_timeOf_101 (by decide) (fun _ => ?_) (fun c_7 => absurd c_7 (by decide))
              refine g_aload_n 3 dX7_timeOf_113 rfl rfl ?_
              refine g_aload_n 3 dX7_timeOf_114 rfl rfl ?_
              refine g_getf 0 (.ref (a 15)) fX7_53 om_0 dX7_timeOf_115 rfl ?_
              refine g_bipush dX7_timeOf_118 rfl ?_
              refine g_iload_n 4 dX7_timeOf_120 rfl rfl ?_
              refine g_imul dX7_timeOf_121 ?_
              refine g_iload 6 dX7_timeOf_122 rfl ?_
              refine g_iadd dX7_timeOf_124 ?_
              refine g_iconst dX7_timeOf_125 ?_
              refine g_isub dX7_timeOf_126 ?_
              refine g_iald 15 (40 * m + (i - 1)) am_15 dX7_timeOf_127 (by omega) (by omega) ?_
              refine g_top (show V 15 (40 * m + (i - 1)) = (((V 15 (40 * m + (i - 1))).toNat : Nat) : Int) from by omega) ?_
              refine g_iload 2 dX7_timeOf_128 rfl ?_
              refine g_top (show V 15 (40 * m + i) = (((V 15 (40 * m + i)).toNat : Nat) : Int) from by omega) ?_
              refine g_callL (k := 0) [.int (iN (((V 15 (40 * m + (i - 1))).toNat : Nat) : Int)), .int (iN (((V 15 (40 * m + i)).toNat : Nat) : Int))] (met_X7_between ha (V 15 (40 * m + (i - 1))).toNat (V 15 (40 * m + i)).toNat (by omega) (by omega) hx hy hn40) vX7_161 om_0 rfl rfl ⟨rfl, rfl, Nat.le_of_ble_eq_true rfl, Nat.le_of_ble_eq_true rfl⟩ rfl (Nat.le_of_ble_eq_true rfl) dX7_timeOf_130 rfl ?_
              rintro z9 V9 ⟨hz9, hV9⟩
              replace hV9 := hV9.symm
              subst hV9
              rw [show (((V 15 (40 * m + (i - 1))).toNat : Nat) : Int) = V 15 (40 * m + (i - 1)) by omega, show (((V 15 (40 * m + i)).toNat : Nat) : Int) = V 15 (40 * m + i) by omega] at hz9
              replace hz9 := hz9.symm
              subst hz9
              refine g_ladd dX7_timeOf_133 ?_
              refine g_lstore_n [(2, .long (jN (t0 + (way (V 8) (V 9) (V 0 10) (V 15 (40 * m + (i - 1))) (V 15 (40 * m + i)))))), (7, .int (iN 0)), (6, .int (iN 0)), (5, .int (iN (V 15 (40 * m + i)))), (0, .ref (a 0)), (1, .int (iN (m : Int))), (4, .int (iN (i : Int)))] dX7_timeOf_134 rfl (by decide) rfl ?_
              refine g_lload_n 0 dX7_timeOf_135 rfl rfl ?_
              refine g_iload 1 dX7_timeOf_136 rfl ?_
              refine g_if_eq 150 dX7_timeOf_138 (by decide) (fun _ => ?_) (fun c_8 => absurd c_8 (by decide))
              refine g_lconst 0 dX7_timeOf_150 rfl ?_
              refine g_ladd dX7_timeOf_151 ?_
              refine g_lstore_n [(2, .long (jN ((t0 + (way (V 8) (V 9) (V 0 10) (V 15 (40 * m + (i - 1))) (V 15 (40 * m + i)))) + 0))), (7, .int (iN 0)), (6, .int (iN 0)), (5, .int (iN (V 15 (40 * m + i)))), (0, .ref (a 0)), (1, .int (iN (m : Int))), (4, .int (iN (i : Int)))] dX7_timeOf_152 rfl (by decide) rfl ?_
              refine g_iinc 6 [(4, .int (iN ((i : Int) + 1))), (2, .long (jN ((t0 + (way (V 8) (V 9) (V 0 10) (V 15 (40 * m + (i - 1))) (V 15 (40 * m + i)))) + 0))), (7, .int (iN 0)), (6, .int (iN 0)), (5, .int (iN (V 15 (40 * m + i)))), (0, .ref (a 0)), (1, .int (iN (m : Int)))] dX7_timeOf_153 rfl (by decide) rfl ?_
              refine g_goto 20 dX7_timeOf_156 (by decide) ?_
              refine g_lv [5, 6, 1, 0] rfl ?_
              exact ih_20 (i + 1) ((t0 + (way (V 8) (V 9) (V 0 10) (V 15 (40 * m + (i - 1))) (V 15 (40 * m + i)))) + 0) (by omega) (by
                  rw [trM_s hcr6.1 (by omega) (fun p => way_sym _ _ _ _ _), ht0]
                  first | (rw [if_pos (by omega), if_pos (by omega)]; omega) | (rw [if_pos (by omega), if_neg (by omega)]; omega) | (rw [if_neg (by omega), if_pos (by omega)]; omega) | (rw [if_neg (by omega), if_neg (by omega)]; omega)) (by omega)
            · refine g_iconst dX7_timeOf_91 ?_
              refine g_goto 96 dX7_timeOf_92 (by decide) ?_
              refine g_istore [(7, .int (iN 1)), (6, .int (iN 0)), (5, .int (iN (V 15 (40 * m + i)))), (0, .ref (a 0)), (1, .int (iN (m : Int))), (2, .long (jN t0)), (4, .int (iN (i : Int)))] dX7_timeOf_96 (by decide) rfl ?_
              refine g_lload_n 5 dX7_timeOf_98 rfl rfl ?_
              refine g_iload 1 dX7_timeOf_99 rfl ?_
              refine g_if_eq 113 dX7_timeOf_101 (by decide) (fun _ => ?_) (fun c_9 => absurd c_9 (by decide))
              refine g_aload_n 3 dX7_timeOf_113 rfl rfl ?_
              refine g_aload_n 3 dX7_timeOf_114 rfl rfl ?_
              refine g_getf 0 (.ref (a 15)) fX7_53 om_0 dX7_timeOf_115 rfl ?_
              refine g_bipush dX7_timeOf_118 rfl ?_
              refine g_iload_n 4 dX7_timeOf_120 rfl rfl ?_
              refine g_imul dX7_timeOf_121 ?_
              refine g_iload 6 dX7_timeOf_122 rfl ?_
              refine g_iadd dX7_timeOf_124 ?_
              refine g_iconst dX7_timeOf_125 ?_
              refine g_isub dX7_timeOf_126 ?_
              refine g_iald 15 (40 * m + (i - 1)) am_15 dX7_timeOf_127 (by omega) (by omega) ?_
              refine g_top (show V 15 (40 * m + (i - 1)) = (((V 15 (40 * m + (i - 1))).toNat : Nat) : Int) from by omega) ?_
              refine g_iload 2 dX7_timeOf_128 rfl ?_
              refine g_top (show V 15 (40 * m + i) = (((V 15 (40 * m + i)).toNat : Nat) : Int) from by omega) ?_
              refine g_callL (k := 0) [.int (iN (((V 15 (40 * m + (i - 1))).toNat : Nat) : Int)), .int (iN (((V 15 (40 * m + i)).toNat : Nat) : Int))] (met_X7_between ha (V 15 (40 * m + (i - 1))).toNat (V 15 (40 * m + i)).toNat (by omega) (by omega) hx hy hn40) vX7_161 om_0 rfl rfl ⟨rfl, rfl, Nat.le_of_ble_eq_true rfl, Nat.le_of_ble_eq_true rfl⟩ rfl (Nat.le_of_ble_eq_true rfl) dX7_timeOf_130 rfl ?_
              rintro z9 V9 ⟨hz9, hV9⟩
              replace hV9 := hV9.symm
              subst hV9
              rw [show (((V 15 (40 * m + (i - 1))).toNat : Nat) : Int) = V 15 (40 * m + (i - 1)) by omega, show (((V 15 (40 * m + i)).toNat : Nat) : Int) = V 15 (40 * m + i) by omega] at hz9
              replace hz9 := hz9.symm
              subst hz9
              refine g_ladd dX7_timeOf_133 ?_
              refine g_lstore_n [(2, .long (jN (t0 + (way (V 8) (V 9) (V 0 10) (V 15 (40 * m + (i - 1))) (V 15 (40 * m + i)))))), (7, .int (iN 1)), (6, .int (iN 0)), (5, .int (iN (V 15 (40 * m + i)))), (0, .ref (a 0)), (1, .int (iN (m : Int))), (4, .int (iN (i : Int)))] dX7_timeOf_134 rfl (by decide) rfl ?_
              refine g_lload_n 0 dX7_timeOf_135 rfl rfl ?_
              refine g_iload 1 dX7_timeOf_136 rfl ?_
              refine g_if_eq 150 dX7_timeOf_138 (by decide) (fun c_10 => absurd c_10 (by decide)) (fun _ => ?_)
              refine g_aload_n 4 dX7_timeOf_141 rfl rfl ?_
              refine g_iload 3 dX7_timeOf_142 rfl ?_
              refine g_top (show V 15 (40 * m + i) = (((V 15 (40 * m + i)).toNat : Nat) : Int) from by omega) ?_
              refine g_callL (k := 0) [.int (iN (((V 15 (40 * m + i)).toNat : Nat) : Int))] (met_X7_fromHome ha (V 15 (40 * m + i)).toNat (by omega) hx hy hn40) vX7_152 om_0 rfl rfl ⟨rfl, rfl, Nat.le_of_ble_eq_true rfl, Nat.le_of_ble_eq_true rfl⟩ rfl (Nat.le_of_ble_eq_true rfl) dX7_timeOf_144 rfl ?_
              rintro z9 V9 ⟨hz9, hV9⟩
              replace hV9 := hV9.symm
              subst hV9
              rw [show (((V 15 (40 * m + i)).toNat : Nat) : Int) = V 15 (40 * m + i) by omega] at hz9
              replace hz9 := hz9.symm
              subst hz9
              refine g_goto 151 dX7_timeOf_147 (by decide) ?_
              refine g_ladd dX7_timeOf_151 ?_
              refine g_lstore_n [(2, .long (jN ((t0 + (way (V 8) (V 9) (V 0 10) (V 15 (40 * m + (i - 1))) (V 15 (40 * m + i)))) + (way (V 8) (V 9) (V 0 10) (V 15 (40 * m + i)) (-1))))), (7, .int (iN 1)), (6, .int (iN 0)), (5, .int (iN (V 15 (40 * m + i)))), (0, .ref (a 0)), (1, .int (iN (m : Int))), (4, .int (iN (i : Int)))] dX7_timeOf_152 rfl (by decide) rfl ?_
              refine g_iinc 6 [(4, .int (iN ((i : Int) + 1))), (2, .long (jN ((t0 + (way (V 8) (V 9) (V 0 10) (V 15 (40 * m + (i - 1))) (V 15 (40 * m + i)))) + (way (V 8) (V 9) (V 0 10) (V 15 (40 * m + i)) (-1))))), (7, .int (iN 1)), (6, .int (iN 0)), (5, .int (iN (V 15 (40 * m + i)))), (0, .ref (a 0)), (1, .int (iN (m : Int)))] dX7_timeOf_153 rfl (by decide) rfl ?_
              refine g_goto 20 dX7_timeOf_156 (by decide) ?_
              refine g_lv [5, 6, 1, 0] rfl ?_
              exact ih_20 (i + 1) ((t0 + (way (V 8) (V 9) (V 0 10) (V 15 (40 * m + (i - 1))) (V 15 (40 * m + i)))) + (way (V 8) (V 9) (V 0 10) (V 15 (40 * m + i)) (-1))) (by omega) (by
                  rw [trM_s hcr6.1 (by omega) (fun p => way_sym _ _ _ _ _), ht0]
                  first | (rw [if_pos (by omega), if_pos (by omega)]; omega) | (rw [if_pos (by omega), if_neg (by omega)]; omega) | (rw [if_neg (by omega), if_pos (by omega)]; omega) | (rw [if_neg (by omega), if_neg (by omega)]; omega)) (by omega)
        · refine g_iconst dX7_timeOf_57 ?_
          refine g_goto 62 dX7_timeOf_58 (by decide) ?_
          refine g_istore [(6, .int (iN 1)), (5, .int (iN (V 15 (40 * m + i)))), (0, .ref (a 0)), (1, .int (iN (m : Int))), (2, .long (jN t0)), (4, .int (iN (i : Int)))] dX7_timeOf_62 (by decide) rfl ?_
          refine g_iload 5 dX7_timeOf_64 rfl ?_
          refine g_aload_n 2 dX7_timeOf_66 rfl rfl ?_
          refine g_getf 0 (.ref (a 14)) fX7_50 om_0 dX7_timeOf_67 rfl ?_
          refine g_iload_n 3 dX7_timeOf_70 rfl rfl ?_
          refine g_iald 14 m am_14 dX7_timeOf_71 rfl (by omega) ?_
          refine g_top (show V 14 m = (cn : Int) from hcn) ?_
          refine g_iconst dX7_timeOf_72 ?_
          refine g_isub dX7_timeOf_73 ?_
          refine g_icmp_eq 91 dX7_timeOf_74 (by decide) (fun c_11 => ?_) (fun c_11 => ?_)
          · refine g_iconst dX7_timeOf_91 ?_
            refine g_goto 96 dX7_timeOf_92 (by decide) ?_
            refine g_istore [(7, .int (iN 1)), (6, .int (iN 1)), (5, .int (iN (V 15 (40 * m + i)))), (0, .ref (a 0)), (1, .int (iN (m : Int))), (2, .long (jN t0)), (4, .int (iN (i : Int)))] dX7_timeOf_96 (by decide) rfl ?_
            refine g_lload_n 5 dX7_timeOf_98 rfl rfl ?_
            refine g_iload 1 dX7_timeOf_99 rfl ?_
            refine g_if_eq 113 dX7_timeOf_101 (by decide) (fun c_12 => absurd c_12 (by decide)) (fun _ => ?_)
            refine g_aload_n 3 dX7_timeOf_104 rfl rfl ?_
            refine g_iload 2 dX7_timeOf_105 rfl ?_
            refine g_top (show V 15 (40 * m + i) = (((V 15 (40 * m + i)).toNat : Nat) : Int) from by omega) ?_
            refine g_callL (k := 0) [.int (iN (((V 15 (40 * m + i)).toNat : Nat) : Int))] (met_X7_fromHome ha (V 15 (40 * m + i)).toNat (by omega) hx hy hn40) vX7_152 om_0 rfl rfl ⟨rfl, rfl, Nat.le_of_ble_eq_true rfl, Nat.le_of_ble_eq_true rfl⟩ rfl (Nat.le_of_ble_eq_true rfl) dX7_timeOf_107 rfl ?_
            rintro z9 V9 ⟨hz9, hV9⟩
            replace hV9 := hV9.symm
            subst hV9
            rw [show (((V 15 (40 * m + i)).toNat : Nat) : Int) = V 15 (40 * m + i) by omega] at hz9
            replace hz9 := hz9.symm
            subst hz9
            refine g_goto 133 dX7_timeOf_110 (by decide) ?_
            refine g_ladd dX7_timeOf_133 ?_
            refine g_lstore_n [(2, .long (jN (t0 + (way (V 8) (V 9) (V 0 10) (V 15 (40 * m + i)) (-1))))), (7, .int (iN 1)), (6, .int (iN 1)), (5, .int (iN (V 15 (40 * m + i)))), (0, .ref (a 0)), (1, .int (iN (m : Int))), (4, .int (iN (i : Int)))] dX7_timeOf_134 rfl (by decide) rfl ?_
            refine g_lload_n 0 dX7_timeOf_135 rfl rfl ?_
            refine g_iload 1 dX7_timeOf_136 rfl ?_
            refine g_if_eq 150 dX7_timeOf_138 (by decide) (fun c_13 => absurd c_13 (by decide)) (fun _ => ?_)
            refine g_aload_n 4 dX7_timeOf_141 rfl rfl ?_
            refine g_iload 3 dX7_timeOf_142 rfl ?_
            refine g_top (show V 15 (40 * m + i) = (((V 15 (40 * m + i)).toNat : Nat) : Int) from by omega) ?_
            refine g_callL (k := 0) [.int (iN (((V 15 (40 * m + i)).toNat : Nat) : Int))] (met_X7_fromHome ha (V 15 (40 * m + i)).toNat (by omega) hx hy hn40) vX7_152 om_0 rfl rfl ⟨rfl, rfl, Nat.le_of_ble_eq_true rfl, Nat.le_of_ble_eq_true rfl⟩ rfl (Nat.le_of_ble_eq_true rfl) dX7_timeOf_144 rfl ?_
            rintro z9 V9 ⟨hz9, hV9⟩
            replace hV9 := hV9.symm
            subst hV9
            rw [show (((V 15 (40 * m + i)).toNat : Nat) : Int) = V 15 (40 * m + i) by omega] at hz9
            replace hz9 := hz9.symm
            subst hz9
            refine g_goto 151 dX7_timeOf_147 (by decide) ?_
            refine g_ladd dX7_timeOf_151 ?_
            refine g_lstore_n [(2, .long (jN ((t0 + (way (V 8) (V 9) (V 0 10) (V 15 (40 * m + i)) (-1))) + (way (V 8) (V 9) (V 0 10) (V 15 (40 * m + i)) (-1))))), (7, .int (iN 1)), (6, .int (iN 1)), (5, .int (iN (V 15 (40 * m + i)))), (0, .ref (a 0)), (1, .int (iN (m : Int))), (4, .int (iN (i : Int)))] dX7_timeOf_152 rfl (by decide) rfl ?_
            refine g_iinc 6 [(4, .int (iN ((i : Int) + 1))), (2, .long (jN ((t0 + (way (V 8) (V 9) (V 0 10) (V 15 (40 * m + i)) (-1))) + (way (V 8) (V 9) (V 0 10) (V 15 (40 * m + i)) (-1))))), (7, .int (iN 1)), (6, .int (iN 1)), (5, .int (iN (V 15 (40 * m + i)))), (0, .ref (a 0)), (1, .int (iN (m : Int)))] dX7_timeOf_153 rfl (by decide) rfl ?_
            refine g_goto 20 dX7_timeOf_156 (by decide) ?_
            refine g_lv [5, 6, 1, 0] rfl ?_
            exact ih_20 (i + 1) ((t0 + (way (V 8) (V 9) (V 0 10) (V 15 (40 * m + i)) (-1))) + (way (V 8) (V 9) (V 0 10) (V 15 (40 * m + i)) (-1))) (by omega) (by
                rw [trM_s hcr6.1 (by omega) (fun p => way_sym _ _ _ _ _), ht0]
                first | (rw [if_pos (by omega), if_pos (by omega)]; omega) | (rw [if_pos (by omega), if_neg (by omega)]; omega) | (rw [if_neg (by omega), if_pos (by omega)]; omega) | (rw [if_neg (by omega), if_neg (by omega)]; omega)) (by omega)
          · refine g_iload 5 dX7_timeOf_77 rfl ?_
            refine g_iconst dX7_timeOf_79 ?_
            refine g_iadd dX7_timeOf_80 ?_
            refine g_top (show (i : Int) + 1 = ((i + 1 : Nat) : Int) from by omega) ?_
            refine g_aload_n 2 dX7_timeOf_81 rfl rfl ?_
            refine g_getf 0 (.ref (a 12)) fX7_44 om_0 dX7_timeOf_82 rfl ?_
            refine g_iload_n 3 dX7_timeOf_85 rfl rfl ?_
            refine g_iald 12 m am_12 dX7_timeOf_86 rfl (by omega) ?_
            refine g_top (show V 12 m = (cr : Int) from hcr) ?_
            refine g_irem dX7_timeOf_87 (by omega) (by omega) ?_
            refine g_top (show ((i + 1 : Nat) : Int) % (cr : Int) = (((i + 1) % cr : Nat) : Int) from by rw [Int.natCast_emod]) ?_
            refine g_if_ne 95 dX7_timeOf_88 (by decide) (fun c_14 => ?_) (fun c_14 => ?_)
            · refine g_iconst dX7_timeOf_95 ?_
              refine g_istore [(7, .int (iN 0)), (6, .int (iN 1)), (5, .int (iN (V 15 (40 * m + i)))), (0, .ref (a 0)), (1, .int (iN (m : Int))), (2, .long (jN t0)), (4, .int (iN (i : Int)))] dX7_timeOf_96 (by decide) rfl ?_
              refine g_lload_n 5 dX7_timeOf_98 rfl rfl ?_
              refine g_iload 1 dX7_timeOf_99 rfl ?_
              refine g_if_eq 113 dX7_timeOf_101 (by decide) (fun c_15 => absurd c_15 (by decide)) (fun _ => ?_)
              refine g_aload_n 3 dX7_timeOf_104 rfl rfl ?_
              refine g_iload 2 dX7_timeOf_105 rfl ?_
              refine g_top (show V 15 (40 * m + i) = (((V 15 (40 * m + i)).toNat : Nat) : Int) from by omega) ?_
              refine g_callL (k := 0) [.int (iN (((V 15 (40 * m + i)).toNat : Nat) : Int))] (met_X7_fromHome ha (V 15 (40 * m + i)).toNat (by omega) hx hy hn40) vX7_152 om_0 rfl rfl ⟨rfl, rfl, Nat.le_of_ble_eq_true rfl, Nat.le_of_ble_eq_true rfl⟩ rfl (Nat.le_of_ble_eq_true rfl) dX7_timeOf_107 rfl ?_
              rintro z9 V9 ⟨hz9, hV9⟩
              replace hV9 := hV9.symm
              subst hV9
              rw [show (((V 15 (40 * m + i)).toNat : Nat) : Int) = V 15 (40 * m + i) by omega] at hz9
              replace hz9 := hz9.symm
              subst hz9
              refine g_goto 133 dX7_timeOf_110 (by decide) ?_
              refine g_ladd dX7_timeOf_133 ?_
              refine g_lstore_n [(2, .long (jN (t0 + (way (V 8) (V 9) (V 0 10) (V 15 (40 * m + i)) (-1))))), (7, .int (iN 0)), (6, .int (iN 1)), (5, .int (iN (V 15 (40 * m + i)))), (0, .ref (a 0)), (1, .int (iN (m : Int))), (4, .int (iN (i : Int)))] dX7_timeOf_134 rfl (by decide) rfl ?_
              refine g_lload_n 0 dX7_timeOf_135 rfl rfl ?_
              refine g_iload 1 dX7_timeOf_136 rfl ?_
              refine g_if_eq 150 dX7_timeOf_138 (by decide) (fun _ => ?_) (fun c_16 => absurd c_16 (by decide))
              refine g_lconst 0 dX7_timeOf_150 rfl ?_
              refine g_ladd dX7_timeOf_151 ?_
              refine g_lstore_n [(2, .long (jN ((t0 + (way (V 8) (V 9) (V 0 10) (V 15 (40 * m + i)) (-1))) + 0))), (7, .int (iN 0)), (6, .int (iN 1)), (5, .int (iN (V 15 (40 * m + i)))), (0, .ref (a 0)), (1, .int (iN (m : Int))), (4, .int (iN (i : Int)))] dX7_timeOf_152 rfl (by decide) rfl ?_
              refine g_iinc 6 [(4, .int (iN ((i : Int) + 1))), (2, .long (jN ((t0 + (way (V 8) (V 9) (V 0 10) (V 15 (40 * m + i)) (-1))) + 0))), (7, .int (iN 0)), (6, .int (iN 1)), (5, .int (iN (V 15 (40 * m + i)))), (0, .ref (a 0)), (1, .int (iN (m : Int)))] dX7_timeOf_153 rfl (by decide) rfl ?_
              refine g_goto 20 dX7_timeOf_156 (by decide) ?_
              refine g_lv [5, 6, 1, 0] rfl ?_
              exact ih_20 (i + 1) ((t0 + (way (V 8) (V 9) (V 0 10) (V 15 (40 * m + i)) (-1))) + 0) (by omega) (by
                  rw [trM_s hcr6.1 (by omega) (fun p => way_sym _ _ _ _ _), ht0]
                  first | (rw [if_pos (by omega), if_pos (by omega)]; omega) | (rw [if_pos (by omega), if_neg (by omega)]; omega) | (rw [if_neg (by omega), if_pos (by omega)]; omega) | (rw [if_neg (by omega), if_neg (by omega)]; omega)) (by omega)
            · refine g_iconst dX7_timeOf_91 ?_
              refine g_goto 96 dX7_timeOf_92 (by decide) ?_
              refine g_istore [(7, .int (iN 1)), (6, .int (iN 1)), (5, .int (iN (V 15 (40 * m + i)))), (0, .ref (a 0)), (1, .int (iN (m : Int))), (2, .long (jN t0)), (4, .int (iN (i : Int)))] dX7_timeOf_96 (by decide) rfl ?_
              refine g_lload_n 5 dX7_timeOf_98 rfl rfl ?_
              refine g_iload 1 dX7_timeOf_99 rfl ?_
              refine g_if_eq 113 dX7_timeOf_101 (by decide) (fun c_17 => absurd c_17 (by decide)) (fun _ => ?_)
              refine g_aload_n 3 dX7_timeOf_104 rfl rfl ?_
              refine g_iload 2 dX7_timeOf_105 rfl ?_
              refine g_top (show V 15 (40 * m + i) = (((V 15 (40 * m + i)).toNat : Nat) : Int) from by omega) ?_
              refine g_callL (k := 0) [.int (iN (((V 15 (40 * m + i)).toNat : Nat) : Int))] (met_X7_fromHome ha (V 15 (40 * m + i)).toNat (by omega) hx hy hn40) vX7_152 om_0 rfl rfl ⟨rfl, rfl, Nat.le_of_ble_eq_true rfl, Nat.le_of_ble_eq_true rfl⟩ rfl (Nat.le_of_ble_eq_true rfl) dX7_timeOf_107 rfl ?_
              rintro z9 V9 ⟨hz9, hV9⟩
              replace hV9 := hV9.symm
              subst hV9
              rw [show (((V 15 (40 * m + i)).toNat : Nat) : Int) = V 15 (40 * m + i) by omega] at hz9
              replace hz9 := hz9.symm
              subst hz9
              refine g_goto 133 dX7_timeOf_110 (by decide) ?_
              refine g_ladd dX7_timeOf_133 ?_
              refine g_lstore_n [(2, .long (jN (t0 + (way (V 8) (V 9) (V 0 10) (V 15 (40 * m + i)) (-1))))), (7, .int (iN 1)), (6, .int (iN 1)), (5, .int (iN (V 15 (40 * m + i)))), (0, .ref (a 0)), (1, .int (iN (m : Int))), (4, .int (iN (i : Int)))] dX7_timeOf_134 rfl (by decide) rfl ?_
              refine g_lload_n 0 dX7_timeOf_135 rfl rfl ?_
              refine g_iload 1 dX7_timeOf_136 rfl ?_
              refine g_if_eq 150 dX7_timeOf_138 (by decide) (fun c_18 => absurd c_18 (by decide)) (fun _ => ?_)
              refine g_aload_n 4 dX7_timeOf_141 rfl rfl ?_
              refine g_iload 3 dX7_timeOf_142 rfl ?_
              refine g_top (show V 15 (40 * m + i) = (((V 15 (40 * m + i)).toNat : Nat) : Int) from by omega) ?_
              refine g_callL (k := 0) [.int (iN (((V 15 (40 * m + i)).toNat : Nat) : Int))] (met_X7_fromHome ha (V 15 (40 * m + i)).toNat (by omega) hx hy hn40) vX7_152 om_0 rfl rfl ⟨rfl, rfl, Nat.le_of_ble_eq_true rfl, Nat.le_of_ble_eq_true rfl⟩ rfl (Nat.le_of_ble_eq_true rfl) dX7_timeOf_144 rfl ?_
              rintro z9 V9 ⟨hz9, hV9⟩
              replace hV9 := hV9.symm
              subst hV9
              rw [show (((V 15 (40 * m + i)).toNat : Nat) : Int) = V 15 (40 * m + i) by omega] at hz9
              replace hz9 := hz9.symm
              subst hz9
              refine g_goto 151 dX7_timeOf_147 (by decide) ?_
              refine g_ladd dX7_timeOf_151 ?_
              refine g_lstore_n [(2, .long (jN ((t0 + (way (V 8) (V 9) (V 0 10) (V 15 (40 * m + i)) (-1))) + (way (V 8) (V 9) (V 0 10) (V 15 (40 * m + i)) (-1))))), (7, .int (iN 1)), (6, .int (iN 1)), (5, .int (iN (V 15 (40 * m + i)))), (0, .ref (a 0)), (1, .int (iN (m : Int))), (4, .int (iN (i : Int)))] dX7_timeOf_152 rfl (by decide) rfl ?_
              refine g_iinc 6 [(4, .int (iN ((i : Int) + 1))), (2, .long (jN ((t0 + (way (V 8) (V 9) (V 0 10) (V 15 (40 * m + i)) (-1))) + (way (V 8) (V 9) (V 0 10) (V 15 (40 * m + i)) (-1))))), (7, .int (iN 1)), (6, .int (iN 1)), (5, .int (iN (V 15 (40 * m + i)))), (0, .ref (a 0)), (1, .int (iN (m : Int)))] dX7_timeOf_153 rfl (by decide) rfl ?_
              refine g_goto 20 dX7_timeOf_156 (by decide) ?_
              refine g_lv [5, 6, 1, 0] rfl ?_
              exact ih_20 (i + 1) ((t0 + (way (V 8) (V 9) (V 0 10) (V 15 (40 * m + i)) (-1))) + (way (V 8) (V 9) (V 0 10) (V 15 (40 * m + i)) (-1))) (by omega) (by
                  rw [trM_s hcr6.1 (by omega) (fun p => way_sym _ _ _ _ _), ht0]
                  first | (rw [if_pos (by omega), if_pos (by omega)]; omega) | (rw [if_pos (by omega), if_neg (by omega)]; omega) | (rw [if_neg (by omega), if_pos (by omega)]; omega) | (rw [if_neg (by omega), if_neg (by omega)]; omega)) (by omega)
  refine g_lv [2, 3, 1, 0] rfl ?_
  exact lp_20 _ 0 ((sup (fun k => cnt (fun i => V 7 (V 15 (40 * m + i)).toNat) (k : Int) cn) (V 6) (V 5) (V 4) kc) + (20 * (chg (fun i => V 2 (V 7 (V 15 (40 * m + i)).toNat).toNat) cn))) (by omega) (by
      have : trM (way (V 8) (V 9) (V 0 10)) cr (fun i => V 15 (40 * m + i)) cn 0 = 0 := by unfold trM; rw [if_neg (fun q => absurd q.1 (Nat.lt_irrefl _))]; rfl
      rw [this]; omega) (Nat.lt_succ_self _)

set_option maxHeartbeats 4000000 in
/-- draw(n) -/
theorem met_X7_draw {l : Launch} {D : va_G} {τ : Nat → ClassId} {a : Nat → Nat} (ha : Apart (LM τ) a) {V : Mem} (n : Int) (hn : 0 < n ∧ n ≤ 2147483647) : CI l D (tysL τ) (LM τ) a yX7_draw mX7_draw [.ref (a 0), .int (iN n)] V (fun z V' => z = drw (lcg (V 0 1)) % n ∧ V' = up V 0 1 (lcg (V 0 1))) := by
  refine CI.of (by decide +kernel) rfl (Nat.le_of_ble_eq_true rfl) ha (fun x hq => ?_)
  show G l D (tysL τ) (LM τ) a mX7_draw x 0 [(0, .ref (a 0)), (1, .int (iN n))] [] V
  refine g_aload_n 0 dX7_draw_0 rfl rfl ?_
  refine g_aload_n 0 dX7_draw_1 rfl rfl ?_
  refine g_getf 0 (.long (jN (V 0 1))) fX7_75 om_0 dX7_draw_2 rfl ?_
  refine g_ldc2 6364136223846793005 kX7_183 rfl dX7_draw_5 ?_
  refine g_lmul dX7_draw_8 ?_
  refine g_ldc2 1442695040888963407 kX7_185 rfl dX7_draw_9 ?_
  refine g_ladd dX7_draw_12 ?_
  refine g_topl (show ((V 0 1) * 6364136223846793005) + 1442695040888963407 = lcg (V 0 1) from rfl) ?_
  refine g_putf 0 (v := lcg (V 0 1)) (.long (jN (lcg (V 0 1)))) pX7_75 om_0 dX7_draw_13 rfl rfl (Nat.le_of_ble_eq_true rfl) rfl ?_
  obtain ⟨V_1, eV_1⟩ : ∃ V9 : Mem, V9 = up V 0 1 (lcg (V 0 1)) := ⟨_, rfl⟩
  refine g_mem eV_1.symm ?_
  refine g_aload_n 0 dX7_draw_16 rfl rfl ?_
  refine g_getf 0 (.long (jN (V_1 0 1))) fX7_75 om_0 dX7_draw_17 rfl ?_
  refine g_topl (show _ = lcg (V 0 1) from by rw [eV_1, up_eq]) ?_
  refine g_bipush dX7_draw_20 rfl ?_
  refine g_lushr (drw (lcg (V 0 1))) dX7_draw_22 (drw_j _) ?_
  have hdr := drw_in (lcg (V 0 1))
  refine g_iload_n 1 dX7_draw_23 rfl rfl ?_
  refine g_i2l dX7_draw_24 (by omega) ?_
  refine g_lrem dX7_draw_25 (by omega) (by omega) ?_
  refine g_l2i dX7_draw_26 ?_
  exact g_iret hq rfl rfl dX7_draw_27 (⟨rfl, by rw [eV_1]⟩)
