theorem rTm_in {V : Mem} {m cr n kc : Nat} {f : Nat → Int} (hx : ∀ p, p < 40 → 0 ≤ V 8 p ∧ V 8 p ≤ 100000) (hy : ∀ p, p < 40 → 0 ≤ V 9 p ∧ V 9 p ≤ 100000) (hn : V 0 10 ≤ 40) (hn40 : n ≤ 40) (hk : kc ≤ 10) (hbe : ∀ k, k < kc → 1 ≤ V 6 k ∧ V 6 k ≤ 1000) (hab : ∀ k, k < kc → 0 ≤ V 5 k ∧ V 5 k < V 6 k) : -1000000000 ≤ rTm V m cr n kc f ∧ rTm V m cr n kc f ≤ 1000000000 := by
  have h1 := moveT_in (wy := way (V 8) (V 9) (V 0 10)) (cr := cr) (f := f) (g := fun i => V 2 (V 7 (f i).toNat).toNat) (fun p q => way_in hx hy hn) n hn40
  have h2 := sup_in (am := fun k => cnt (fun i => V 7 (f i).toNat) (k : Int) n) (be := V 6) (ab := V 5) (rf := V 4) (n := kc) (fun k hk => by have := cnt_in (fun i => V 7 (f i).toNat) (k : Int) n; omega) hbe hab
  unfold rTm
  omega
set_option maxHeartbeats 4000000 in
/-- exchange() -/
theorem met_X7_exchange {l : Launch} {D : va_G} {τ : Nat → ClassId} {a : Nat → Nat} (ha : Apart (LM τ) a) {V : Mem} (kc : Nat) (hkc : V 0 3 = (kc : Int)) (us : Nat) (hus : V 0 18 = (us : Int)) (hok : okR V) (hus0 : 0 < us) : CI l D (tysL τ) (LM τ) a yX7_exchange mX7_exchange [.ref (a 0)] V (fun z V' => ∃ m : Nat, m < us ∧ (m : Int) = drw (lcg (V 0 1)) % (us : Int) ∧ rxR V m (V 14 m).toNat (V 12 m).toNat kc z V') := by
  refine CI.of (by decide +kernel) rfl (Nat.le_of_ble_eq_true rfl) ha (fun x hq => ?_)
  show G l D (tysL τ) (LM τ) a mX7_exchange x 0 [(0, .ref (a 0))] [] V
  obtain ⟨r2, r3, r10, r15, r18, q1, q1k, q2, q3, q4, q5, q6, q7, q7k, q8, q9, q10, q11, q12, q14, qr, qf⟩ := id hok
  refine g_aload_n 0 dX7_exchange_0 rfl rfl ?_
  refine g_aload_n 0 dX7_exchange_1 rfl rfl ?_
  refine g_getf 0 (.int (iN (V 0 18))) fX7_109 om_0 dX7_exchange_2 rfl ?_
  refine g_top (show V 0 18 = (us : Int) from hus) ?_
  refine g_callI (k := 0) [.int (iN (us : Int))] (met_X7_draw (V := V) ha (us : Int) (by omega)) vX7_187 om_0 rfl rfl ⟨rfl, rfl, Nat.le_of_ble_eq_true rfl, Nat.le_of_ble_eq_true rfl⟩ rfl (Nat.le_of_ble_eq_true rfl) dX7_exchange_5 rfl ?_
  rintro z9 Wm ⟨hz9, eWm⟩
  have hdrm := drw_in (lcg (V 0 1))
  have hbm : 0 ≤ drw (lcg (V 0 1)) % (us : Int) ∧ drw (lcg (V 0 1)) % (us : Int) < us := ⟨Int.emod_nonneg _ (by omega), Int.emod_lt_of_pos _ (by omega)⟩
  obtain ⟨m, hdm⟩ : ∃ q : Nat, (q : Int) = drw (lcg (V 0 1)) % (us : Int) := ⟨(drw (lcg (V 0 1)) % (us : Int)).toNat, by omega⟩
  rw [← hdm] at hz9
  replace hz9 := hz9.symm
  subst hz9
  have sWm : Wm 0 1 = lcg (V 0 1) := by rw [eWm, up_eq]
  have oWm : rxO V Wm m := by rw [eWm]; exact rxO_trans (rxO_refl _ _) rxO_s
  obtain ⟨cn, hcn⟩ : ∃ q : Nat, V 14 m = (q : Int) := ⟨(V 14 m).toNat, by have := q14 m (by omega); omega⟩
  have qcn := q14 m (by omega)
  have hm : m < us := by omega
  have hm3 : m < 3 := by omega
  obtain ⟨cr, hcr⟩ : ∃ q : Nat, V 12 m = (q : Int) := ⟨(V 12 m).toNat, by have := q12 m (by omega); omega⟩
  have qcr := q12 m (by omega)
  have hrw : ∀ i, i < cn → 0 ≤ V 15 (40 * m + i) ∧ V 15 (40 * m + i) < V 0 10 := fun i hi => qr m hm3 i (by omega)
  refine g_istore_n [(1, .int (iN (m : Int))), (0, .ref (a 0))] dX7_exchange_8 rfl (by decide) rfl ?_
  refine g_aload_n 1 dX7_exchange_9 rfl rfl ?_
  refine g_getf 0 (.ref (a 14)) fX7_50 om_0 dX7_exchange_10 rfl ?_
  refine g_iload_n 0 dX7_exchange_13 rfl rfl ?_
  refine g_iald 14 m am_14 dX7_exchange_14 rfl (by omega) ?_
  refine g_top (show Wm 14 m = (cn : Int) from by rw [oWm.1 14 (by omega) (by omega) (by omega) (by omega) (by omega)]; exact hcn) ?_
  refine g_iconst dX7_exchange_15 ?_
  refine g_icmp_ge 21 dX7_exchange_16 (by decide) (fun c_1 => ?_) (fun c_1 => ?_)
  · refine g_aload_n 1 dX7_exchange_21 rfl rfl ?_
    refine g_aload_n 1 dX7_exchange_22 rfl rfl ?_
    refine g_getf 0 (.ref (a 14)) fX7_50 om_0 dX7_exchange_23 rfl ?_
    refine g_iload_n 0 dX7_exchange_26 rfl rfl ?_
    refine g_iald 14 m am_14 dX7_exchange_27 rfl (by omega) ?_
    refine g_top (show Wm 14 m = (cn : Int) from by rw [oWm.1 14 (by omega) (by omega) (by omega) (by omega) (by omega)]; exact hcn) ?_
    refine g_callI (k := 0) [.int (iN (cn : Int))] (met_X7_draw (V := Wm) ha (cn : Int) (by omega)) vX7_187 om_0 rfl rfl ⟨rfl, rfl, Nat.le_of_ble_eq_true rfl, Nat.le_of_ble_eq_true rfl⟩ rfl (Nat.le_of_ble_eq_true rfl) dX7_exchange_28 rfl ?_
    rintro z9 Wa0 ⟨hz9, eWa0⟩
    have hdra0 := drw_in (lcg (Wm 0 1))
    have hba0 : 0 ≤ drw (lcg (Wm 0 1)) % (cn : Int) ∧ drw (lcg (Wm 0 1)) % (cn : Int) < cn := ⟨Int.emod_nonneg _ (by omega), Int.emod_lt_of_pos _ (by omega)⟩
    obtain ⟨a0, hda0⟩ : ∃ q : Nat, (q : Int) = drw (lcg (Wm 0 1)) % (cn : Int) := ⟨(drw (lcg (Wm 0 1)) % (cn : Int)).toNat, by omega⟩
    rw [← hda0] at hz9
    replace hz9 := hz9.symm
    subst hz9
    have sWa0 : Wa0 0 1 = lcg (Wm 0 1) := by rw [eWa0, up_eq]
    have oWa0 : rxO V Wa0 m := by rw [eWa0]; exact rxO_trans oWm rxO_s
    refine g_istore_n [(2, .int (iN (a0 : Int))), (1, .int (iN (m : Int))), (0, .ref (a 0))] dX7_exchange_31 rfl (by decide) rfl ?_
    refine g_aload_n 2 dX7_exchange_32 rfl rfl ?_
    refine g_aload_n 2 dX7_exchange_33 rfl rfl ?_
    refine g_getf 0 (.ref (a 14)) fX7_50 om_0 dX7_exchange_34 rfl ?_
    refine g_iload_n 1 dX7_exchange_37 rfl rfl ?_
    refine g_iald 14 m am_14 dX7_exchange_38 rfl (by omega) ?_
    refine g_top (show Wa0 14 m = (cn : Int) from by rw [oWa0.1 14 (by omega) (by omega) (by omega) (by omega) (by omega)]; exact hcn) ?_
    refine g_callI (k := 0) [.int (iN (cn : Int))] (met_X7_draw (V := Wa0) ha (cn : Int) (by omega)) vX7_187 om_0 rfl rfl ⟨rfl, rfl, Nat.le_of_ble_eq_true rfl, Nat.le_of_ble_eq_true rfl⟩ rfl (Nat.le_of_ble_eq_true rfl) dX7_exchange_39 rfl ?_
    rintro z9 Wb0 ⟨hz9, eWb0⟩
    have hdrb0 := drw_in (lcg (Wa0 0 1))
    have hbb0 : 0 ≤ drw (lcg (Wa0 0 1)) % (cn : Int) ∧ drw (lcg (Wa0 0 1)) % (cn : Int) < cn := ⟨Int.emod_nonneg _ (by omega), Int.emod_lt_of_pos _ (by omega)⟩
    obtain ⟨b0, hdb0⟩ : ∃ q : Nat, (q : Int) = drw (lcg (Wa0 0 1)) % (cn : Int) := ⟨(drw (lcg (Wa0 0 1)) % (cn : Int)).toNat, by omega⟩
    rw [← hdb0] at hz9
    replace hz9 := hz9.symm
    subst hz9
    have sWb0 : Wb0 0 1 = lcg (Wa0 0 1) := by rw [eWb0, up_eq]
    have oWb0 : rxO V Wb0 m := by rw [eWb0]; exact rxO_trans oWa0 rxO_s
    refine g_istore_n [(3, .int (iN (b0 : Int))), (2, .int (iN (a0 : Int))), (1, .int (iN (m : Int))), (0, .ref (a 0))] dX7_exchange_42 rfl (by decide) rfl ?_
    refine g_bipush dX7_exchange_43 rfl ?_
    refine g_iload_n 2 dX7_exchange_45 rfl rfl ?_
    refine g_imul dX7_exchange_46 ?_
    refine g_iload_n 1 dX7_exchange_47 rfl rfl ?_
    refine g_iadd dX7_exchange_48 ?_
    refine g_istore [(4, .int (iN ((40 * (m : Int)) + (a0 : Int)))), (3, .int (iN (b0 : Int))), (2, .int (iN (a0 : Int))), (1, .int (iN (m : Int))), (0, .ref (a 0))] dX7_exchange_49 (by decide) rfl ?_
    refine g_lve (show ([(4, .int (iN ((40 * (m : Int)) + (a0 : Int)))), (3, .int (iN (b0 : Int))), (2, .int (iN (a0 : Int))), (1, .int (iN (m : Int))), (0, .ref (a 0))] : List (Nat × Value)) = ([(4, .int (iN ((40 * m + a0 : Nat) : Int))), (3, .int (iN (b0 : Int))), (2, .int (iN (a0 : Int))), (1, .int (iN (m : Int))), (0, .ref (a 0))] : List (Nat × Value)) from by rw [show (40 * (m : Int)) + (a0 : Int) = ((40 * m + a0 : Nat) : Int) from by omega]) ?_
    refine g_bipush dX7_exchange_51 rfl ?_
    refine g_iload_n 3 dX7_exchange_53 rfl rfl ?_
    refine g_imul dX7_exchange_54 ?_
    refine g_iload_n 1 dX7_exchange_55 rfl rfl ?_
    refine g_iadd dX7_exchange_56 ?_
    refine g_istore [(5, .int (iN ((40 * (m : Int)) + (b0 : Int)))), (4, .int (iN ((40 * m + a0 : Nat) : Int))), (3, .int (iN (b0 : Int))), (2, .int (iN (a0 : Int))), (1, .int (iN (m : Int))), (0, .ref (a 0))] dX7_exchange_57 (by decide) rfl ?_
    refine g_lve (show ([(5, .int (iN ((40 * (m : Int)) + (b0 : Int)))), (4, .int (iN ((40 * m + a0 : Nat) : Int))), (3, .int (iN (b0 : Int))), (2, .int (iN (a0 : Int))), (1, .int (iN (m : Int))), (0, .ref (a 0))] : List (Nat × Value)) = ([(5, .int (iN ((40 * m + b0 : Nat) : Int))), (4, .int (iN ((40 * m + a0 : Nat) : Int))), (3, .int (iN (b0 : Int))), (2, .int (iN (a0 : Int))), (1, .int (iN (m : Int))), (0, .ref (a 0))] : List (Nat × Value)) from by rw [show (40 * (m : Int)) + (b0 : Int) = ((40 * m + b0 : Nat) : Int) from by omega]) ?_
    have hra := hrw a0
    have hrb := hrw b0
    have h10a := q10 (V 15 (40 * m + a0)).toNat
    have h10b := q10 (V 15 (40 * m + b0)).toNat
    refine g_aload_n 5 dX7_exchange_59 rfl rfl ?_
    refine g_getf 0 (.ref (a 10)) fX7_38 om_0 dX7_exchange_60 rfl ?_
    refine g_aload_n 5 dX7_exchange_63 rfl rfl ?_
    refine g_getf 0 (.ref (a 15)) fX7_53 om_0 dX7_exchange_64 rfl ?_
    refine g_iload 1 dX7_exchange_67 rfl ?_
    refine g_iald 15 (40 * m + a0) am_15 dX7_exchange_69 (by omega) (by omega) ?_
    refine g_top (show Wb0 15 (40 * m + a0) = (((V 15 (40 * m + a0)).toNat : Nat) : Int) from by rw [eWb0, eWa0, eWm, up_ne1 (by omega), up_ne1 (by omega), up_ne1 (by omega)]; omega) ?_
    refine g_lald 10 ((V 15 (40 * m + a0)).toNat) am_10 dX7_exchange_70 rfl (by omega) ?_
    refine g_topl (show Wb0 10 ((V 15 (40 * m + a0)).toNat) = V 10 (V 15 (40 * m + a0)).toNat from by rw [oWb0.1 10 (by omega) (by omega) (by omega) (by omega) (by omega)]) ?_
    refine g_aload_n 5 dX7_exchange_71 rfl rfl ?_
    refine g_getf 0 (.ref (a 10)) fX7_38 om_0 dX7_exchange_72 rfl ?_
    refine g_aload_n 5 dX7_exchange_75 rfl rfl ?_
    refine g_getf 0 (.ref (a 15)) fX7_53 om_0 dX7_exchange_76 rfl ?_
    refine g_iload 0 dX7_exchange_79 rfl ?_
    refine g_iald 15 (40 * m + b0) am_15 dX7_exchange_81 (by omega) (by omega) ?_
    refine g_top (show Wb0 15 (40 * m + b0) = (((V 15 (40 * m + b0)).toNat : Nat) : Int) from by rw [eWb0, eWa0, eWm, up_ne1 (by omega), up_ne1 (by omega), up_ne1 (by omega)]; omega) ?_
    refine g_lald 10 ((V 15 (40 * m + b0)).toNat) am_10 dX7_exchange_82 rfl (by omega) ?_
    refine g_topl (show Wb0 10 ((V 15 (40 * m + b0)).toNat) = V 10 (V 15 (40 * m + b0)).toNat from by rw [oWb0.1 10 (by omega) (by omega) (by omega) (by omega) (by omega)]) ?_
    refine g_lcmp (cmpz (V 10 (V 15 (40 * m + a0)).toNat) (V 10 (V 15 (40 * m + b0)).toNat)) dX7_exchange_83 (cmpz_j (by omega) (by omega)) ?_
    have hcmp_2 := cmpz_c (V 10 (V 15 (40 * m + a0)).toNat) (V 10 (V 15 (40 * m + b0)).toNat)
    refine g_if_eq 89 dX7_exchange_84 (by decide) (fun c_3 => ?_) (fun c_3 => ?_)
    · refine g_aload_n 5 dX7_exchange_89 rfl rfl ?_
      refine g_iload_n 4 dX7_exchange_90 rfl rfl ?_
      have wb014 : Wb0 14 = V 14 := oWb0.1 14 (by omega) (by omega) (by omega) (by omega) (by omega)
      have wb012 : Wb0 12 = V 12 := oWb0.1 12 (by omega) (by omega) (by omega) (by omega) (by omega)
      have wb010 : Wb0 10 = V 10 := oWb0.1 10 (by omega) (by omega) (by omega) (by omega) (by omega)
      have wb08 : Wb0 8 = V 8 := oWb0.1 8 (by omega) (by omega) (by omega) (by omega) (by omega)
      have wb09 : Wb0 9 = V 9 := oWb0.1 9 (by omega) (by omega) (by omega) (by omega) (by omega)
      have wb07 : Wb0 7 = V 7 := oWb0.1 7 (by omega) (by omega) (by omega) (by omega) (by omega)
      have wb02 : Wb0 2 = V 2 := oWb0.1 2 (by omega) (by omega) (by omega) (by omega) (by omega)
      have wb06 : Wb0 6 = V 6 := oWb0.1 6 (by omega) (by omega) (by omega) (by omega) (by omega)
      have wb05 : Wb0 5 = V 5 := oWb0.1 5 (by omega) (by omega) (by omega) (by omega) (by omega)
      have wb04 : Wb0 4 = V 4 := oWb0.1 4 (by omega) (by omega) (by omega) (by omega) (by omega)
      have wb00_10 : Wb0 0 10 = V 0 10 := oWb0.2.1 10 (by omega) (by omega)
      have wb00_3 : Wb0 0 3 = V 0 3 := oWb0.2.1 3 (by omega) (by omega)
      have wb015 : Wb0 15 = V 15 := by rw [eWb0, eWa0, eWm, up_ne1 (by omega), up_ne1 (by omega), up_ne1 (by omega)]
      refine g_callL (k := 0) [.int (iN (m : Int))] (met_X7_timeOf (V := Wb0) ha m cn (by rw [wb014]; exact hcn) cr (by rw [wb012]; exact hcr) kc (by rw [wb00_3]; exact hkc) hm3 (by omega) (by rw [wb015, wb00_10]; exact hrw) (by rw [wb00_10]; omega) (by rw [wb07]; exact q7) (by omega) (fun k hk => by rw [wb06]; exact q6 k (by omega)) (fun k hk => by rw [wb05, wb06]; exact q5 k (by omega)) (fun k hk => by rw [wb04]; exact q4 k (by omega)) (by omega) (by rw [wb02]; exact q2) (by rw [wb08]; exact q8) (by rw [wb09]; exact q9)) vX7_190 om_0 rfl rfl ⟨rfl, rfl, Nat.le_of_ble_eq_true rfl, Nat.le_of_ble_eq_true rfl⟩ rfl (Nat.le_of_ble_eq_true rfl) dX7_exchange_91 rfl ?_
      rintro z9 V9 ⟨hz9, hV9⟩
      replace hV9 := hV9.symm
      subst hV9
      rw [wb08, wb09, wb00_10, wb02, wb07, wb06, wb05, wb04, wb015] at hz9
      have hz8 : z9 = rTm V m cr cn kc (fun i => V 15 (40 * m + i)) := hz9
      replace hz8 := hz8.symm
      subst hz8
      have ht_t1 : -1000000000 ≤ rTm V m cr cn kc (fun i => V 15 (40 * m + i)) ∧ rTm V m cr cn kc (fun i => V 15 (40 * m + i)) ≤ 1000000000 := rTm_in q8 q9 (by omega) (by omega) (by omega) (fun k hk => q6 k (by omega)) (fun k hk => q5 k (by omega))
      refine g_lstore [(6, .long (jN (rTm V m cr cn kc (fun i => V 15 (40 * m + i))))), (5, .int (iN ((40 * m + b0 : Nat) : Int))), (4, .int (iN ((40 * m + a0 : Nat) : Int))), (3, .int (iN (b0 : Int))), (2, .int (iN (a0 : Int))), (1, .int (iN (m : Int))), (0, .ref (a 0))] dX7_exchange_94 (by decide) rfl ?_
      refine g_iconst dX7_exchange_96 ?_
      refine g_istore [(8, .int (iN 0)), (6, .long (jN (rTm V m cr cn kc (fun i => V 15 (40 * m + i))))), (5, .int (iN ((40 * m + b0 : Nat) : Int))), (4, .int (iN ((40 * m + a0 : Nat) : Int))), (3, .int (iN (b0 : Int))), (2, .int (iN (a0 : Int))), (1, .int (iN (m : Int))), (0, .ref (a 0))] dX7_exchange_97 (by decide) rfl ?_
      have lp_99 : ∀ (fuel : Nat) (k : Nat) (U : Mem), (k ≤ 40) → (bfI Wb0 U m k) → (40 - k) < fuel → G l D (tysL τ) (LM τ) a mX7_exchange x 99 [(0, .ref (a 0)), (1, .int (iN (m : Int))), (2, .int (iN (a0 : Int))), (3, .int (iN (b0 : Int))), (4, .int (iN ((40 * m + a0 : Nat) : Int))), (5, .int (iN ((40 * m + b0 : Nat) : Int))), (6, .long (jN (rTm V m cr cn kc (fun i => V 15 (40 * m + i))))), (8, .int (iN (k : Int)))] [] U := by
        intro fuel
        induction fuel with
        | zero => intro k U hk hbf hfu; exact absurd hfu (Nat.not_lt_zero _)
        | succ fuel ih_99 =>
          intro k U hk hbf hfu
          refine g_iload 7 dX7_exchange_99 rfl ?_
          refine g_bipush dX7_exchange_101 rfl ?_
          refine g_icmp_ge 131 dX7_exchange_103 (by decide) (fun c_4 => ?_) (fun c_4 => ?_)
          · refine g_aload_n 0 dX7_exchange_131 rfl rfl ?_
            refine g_getf 0 (.ref (a 15)) fX7_53 om_0 dX7_exchange_132 rfl ?_
            refine g_iload 4 dX7_exchange_135 rfl ?_
            refine g_iald 15 (40 * m + a0) am_15 dX7_exchange_137 (by omega) (by omega) ?_
            refine g_istore [(8, .int (iN (U 15 (40 * m + a0)))), (0, .ref (a 0)), (1, .int (iN (m : Int))), (2, .int (iN (a0 : Int))), (3, .int (iN (b0 : Int))), (4, .int (iN ((40 * m + a0 : Nat) : Int))), (5, .int (iN ((40 * m + b0 : Nat) : Int))), (6, .long (jN (rTm V m cr cn kc (fun i => V 15 (40 * m + i)))))] dX7_exchange_138 (by decide) rfl ?_
            refine g_aload_n 1 dX7_exchange_140 rfl rfl ?_
            refine g_getf 0 (.ref (a 15)) fX7_53 om_0 dX7_exchange_141 rfl ?_
            refine g_iload 5 dX7_exchange_144 rfl ?_
            refine g_aload_n 1 dX7_exchange_146 rfl rfl ?_
            refine g_getf 0 (.ref (a 15)) fX7_53 om_0 dX7_exchange_147 rfl ?_
            refine g_iload 6 dX7_exchange_150 rfl ?_
            refine g_iald 15 (40 * m + b0) am_15 dX7_exchange_152 (by omega) (by omega) ?_
            refine g_iast 15 (40 * m + a0) am_15 dX7_exchange_153 (by omega) (by omega) ?_
            obtain ⟨V_5, eV_5⟩ : ∃ V9 : Mem, V9 = up U 15 (40 * m + a0) (U 15 (40 * m + b0)) := ⟨_, rfl⟩
            refine g_mem eV_5.symm ?_
            refine g_aload_n 1 dX7_exchange_154 rfl rfl ?_
            refine g_getf 0 (.ref (a 15)) fX7_53 om_0 dX7_exchange_155 rfl ?_
            refine g_iload 6 dX7_exchange_158 rfl ?_
            refine g_iload 0 dX7_exchange_160 rfl ?_
            refine g_iast 15 (40 * m + b0) am_15 dX7_exchange_162 (by omega) (by omega) ?_
            obtain ⟨V_6, eV_6⟩ : ∃ V9 : Mem, V9 = up V_5 15 (40 * m + b0) (U 15 (40 * m + a0)) := ⟨_, rfl⟩
            refine g_mem eV_6.symm ?_
            have hbf2 : bfI Wb0 U m 40 := by rw [show k = 40 by omega] at hbf; exact hbf
            obtain ⟨X1, eX1⟩ : ∃ V9 : Mem, V9 = V_6 := ⟨_, rfl⟩
            refine g_mem eX1.symm ?_
            have eXs : X1 = up (up U 15 (40 * m + a0) (U 15 (40 * m + b0))) 15 (40 * m + b0) (U 15 (40 * m + a0)) := by rw [eX1, eV_6, eV_5]
            have u15 : U 15 = V 15 := by rw [hbf.2 15 (by omega)]; exact wb015
            have oU : rxO V U m := rxO_trans oWb0 ⟨fun c _ _ _ _ e => hbf.2 c e, fun j _ _ => by rw [hbf.2 0 (by omega)], fun j _ => by rw [hbf.2 15 (by omega)]⟩
            have oX1 : rxO V X1 m := by rw [eXs]; exact rxO_trans oU (rxO_trans (rxO_row (by omega)) (rxO_row (by omega)))
            have hX1s : (fun i => X1 15 (40 * m + i)) = swp (fun i => V 15 (40 * m + i)) a0 b0 := by rw [swp_at eXs, u15]
            have hX1b : ∀ i, i < 40 → X1 21 i = V 15 (40 * m + i) := fun i hi => by rw [eXs, up_ne (by omega), up_ne (by omega), hbf2.1 i hi, wb015]
            have sX1 : X1 0 1 = lcg (lcg (lcg (V 0 1))) := by rw [eXs, up_ne (by omega), up_ne (by omega), hbf.2 0 (by omega), sWb0, sWa0, sWm]
            have hrw1 : ∀ i, i < cn → 0 ≤ X1 15 (40 * m + i) ∧ X1 15 (40 * m + i) < V 0 10 := fun i hi => by
              have := swp_P (P := fun z => 0 ≤ z ∧ z < V 0 10) (f := (fun i => V 15 (40 * m + i))) (a := a0) (b := b0) (n := cn) hrw (by omega) (by omega) i hi
              rw [← hX1s] at this
              exact this
            have x114 : X1 14 = V 14 := oX1.1 14 (by omega) (by omega) (by omega) (by omega) (by omega)
            have x112 : X1 12 = V 12 := oX1.1 12 (by omega) (by omega) (by omega) (by omega) (by omega)
            have x110 : X1 10 = V 10 := oX1.1 10 (by omega) (by omega) (by omega) (by omega) (by omega)
            have x18 : X1 8 = V 8 := oX1.1 8 (by omega) (by omega) (by omega) (by omega) (by omega)
            have x19 : X1 9 = V 9 := oX1.1 9 (by omega) (by omega) (by omega) (by omega) (by omega)
            have x17 : X1 7 = V 7 := oX1.1 7 (by omega) (by omega) (by omega) (by omega) (by omega)
            have x12 : X1 2 = V 2 := oX1.1 2 (by omega) (by omega) (by omega) (by omega) (by omega)
            have x16 : X1 6 = V 6 := oX1.1 6 (by omega) (by omega) (by omega) (by omega) (by omega)
            have x15 : X1 5 = V 5 := oX1.1 5 (by omega) (by omega) (by omega) (by omega) (by omega)
            have x14 : X1 4 = V 4 := oX1.1 4 (by omega) (by omega) (by omega) (by omega) (by omega)
            have x10_10 : X1 0 10 = V 0 10 := oX1.2.1 10 (by omega) (by omega)
            have x10_3 : X1 0 3 = V 0 3 := oX1.2.1 3 (by omega) (by omega)
            refine g_aload_n 1 dX7_exchange_163 rfl rfl ?_
            refine g_iload_n 2 dX7_exchange_164 rfl rfl ?_
            refine g_iload_n 3 dX7_exchange_165 rfl rfl ?_
            refine g_aload_n 1 dX7_exchange_166 rfl rfl ?_
            refine g_getf 0 (.ref (a 12)) fX7_44 om_0 dX7_exchange_167 rfl ?_
            refine g_iload_n 2 dX7_exchange_170 rfl rfl ?_
            refine g_iald 12 m am_12 dX7_exchange_171 rfl (by omega) ?_
            refine g_top (show X1 12 m = (cr : Int) from by rw [x112]; exact hcr) ?_
            refine g_idiv dX7_exchange_172 (by omega) (by omega) ?_
            refine g_aload_n 1 dX7_exchange_173 rfl rfl ?_
            refine g_getf 0 (.ref (a 12)) fX7_44 om_0 dX7_exchange_174 rfl ?_
            refine g_iload_n 2 dX7_exchange_177 rfl rfl ?_
            refine g_iald 12 m am_12 dX7_exchange_178 rfl (by omega) ?_
            refine g_top (show X1 12 m = (cr : Int) from by rw [x112]; exact hcr) ?_
            refine g_imul dX7_exchange_179 ?_
            refine g_top (show ((a0 : Int) / (cr : Int)) * (cr : Int) = ((a0 / cr * cr : Nat) : Int) from by rw [Int.natCast_mul, Int.natCast_ediv]) ?_
            have hdX2 : a0 / cr * cr ≤ a0 := Nat.div_mul_le_self _ _
            refine g_callV (k := 0) [.int (iN (m : Int)), .int (iN ((a0 / cr * cr : Nat) : Int))] (met_X7_arrange (V := X1) ha m (a0 / cr * cr) cn cr (min cr (cn - a0 / cr * cr)) (by rw [x114]; exact hcn) (by rw [x112]; exact hcr) rfl hm3 (by omega) (by omega) (by omega) (by rw [x10_10]; exact hrw1) (by rw [x10_10]; omega) (by rw [x110]; exact q10) (by rw [x18]; exact q8) (by rw [x19]; exact q9)) vX7_193 om_0 rfl rfl ⟨rfl, rfl, Nat.le_of_ble_eq_true rfl, Nat.le_of_ble_eq_true rfl⟩ rfl (Nat.le_of_ble_eq_true rfl) dX7_exchange_180 rfl ?_
            intro X2 harX2
            have hsgX2 := arr_seg rfl harX2
            obtain ⟨gX2, -, h2X2, h3X2, h4X2, h5X2⟩ := harX2
            have oX2 : rxO V X2 m := rxO_trans oX1 (arr_rxO (n := cn) (by omega) h3X2 h4X2 h5X2)
            have sX2 : X2 0 1 = lcg (lcg (lcg (V 0 1))) := by rw [h4X2 1 (by omega)]; exact sX1
            have bX2 : ∀ i, i < 40 → X2 21 i = V 15 (40 * m + i) := fun i hi => by rw [h5X2 21 (by omega) (by omega) (by omega) (by omega)]; exact hX1b i hi
            rw [x110, x18, x19, x10_10] at hsgX2
            have hrw2 : ∀ i, i < cn → 0 ≤ X2 15 (40 * m + i) ∧ X2 15 (40 * m + i) < V 0 10 := fun i hi => arrSeg_P (P := fun z => 0 ≤ z ∧ z < V 0 10) hsgX2 hrw1 (by omega) i hi
            have x214 : X2 14 = V 14 := oX2.1 14 (by omega) (by omega) (by omega) (by omega) (by omega)
            have x212 : X2 12 = V 12 := oX2.1 12 (by omega) (by omega) (by omega) (by omega) (by omega)
            have x210 : X2 10 = V 10 := oX2.1 10 (by omega) (by omega) (by omega) (by omega) (by omega)
            have x28 : X2 8 = V 8 := oX2.1 8 (by omega) (by omega) (by omega) (by omega) (by omega)
            have x29 : X2 9 = V 9 := oX2.1 9 (by omega) (by omega) (by omega) (by omega) (by omega)
            have x27 : X2 7 = V 7 := oX2.1 7 (by omega) (by omega) (by omega) (by omega) (by omega)
            have x22 : X2 2 = V 2 := oX2.1 2 (by omega) (by omega) (by omega) (by omega) (by omega)
            have x26 : X2 6 = V 6 := oX2.1 6 (by omega) (by omega) (by omega) (by omega) (by omega)
            have x25 : X2 5 = V 5 := oX2.1 5 (by omega) (by omega) (by omega) (by omega) (by omega)
            have x24 : X2 4 = V 4 := oX2.1 4 (by omega) (by omega) (by omega) (by omega) (by omega)
            have x20_10 : X2 0 10 = V 0 10 := oX2.2.1 10 (by omega) (by omega)
            have x20_3 : X2 0 3 = V 0 3 := oX2.2.1 3 (by omega) (by omega)
            refine g_aload_n 1 dX7_exchange_183 rfl rfl ?_
            refine g_iload_n 2 dX7_exchange_184 rfl rfl ?_
            refine g_iload_n 4 dX7_exchange_185 rfl rfl ?_
            refine g_aload_n 1 dX7_exchange_186 rfl rfl ?_
            refine g_getf 0 (.ref (a 12)) fX7_44 om_0 dX7_exchange_187 rfl ?_
            refine g_iload_n 2 dX7_exchange_190 rfl rfl ?_
            refine g_iald 12 m am_12 dX7_exchange_191 rfl (by omega) ?_
            refine g_top (show X2 12 m = (cr : Int) from by rw [x212]; exact hcr) ?_
            refine g_idiv dX7_exchange_192 (by omega) (by omega) ?_
            refine g_aload_n 1 dX7_exchange_193 rfl rfl ?_
            refine g_getf 0 (.ref (a 12)) fX7_44 om_0 dX7_exchange_194 rfl ?_
            refine g_iload_n 2 dX7_exchange_197 rfl rfl ?_
            refine g_iald 12 m am_12 dX7_exchange_198 rfl (by omega) ?_
            refine g_top (show X2 12 m = (cr : Int) from by rw [x212]; exact hcr) ?_
            refine g_imul dX7_exchange_199 ?_
            refine g_top (show ((b0 : Int) / (cr : Int)) * (cr : Int) = ((b0 / cr * cr : Nat) : Int) from by rw [Int.natCast_mul, Int.natCast_ediv]) ?_
            have hdX3 : b0 / cr * cr ≤ b0 := Nat.div_mul_le_self _ _
            refine g_callV (k := 0) [.int (iN (m : Int)), .int (iN ((b0 / cr * cr : Nat) : Int))] (met_X7_arrange (V := X2) ha m (b0 / cr * cr) cn cr (min cr (cn - b0 / cr * cr)) (by rw [x214]; exact hcn) (by rw [x212]; exact hcr) rfl hm3 (by omega) (by omega) (by omega) (by rw [x20_10]; exact hrw2) (by rw [x20_10]; omega) (by rw [x210]; exact q10) (by rw [x28]; exact q8) (by rw [x29]; exact q9)) vX7_193 om_0 rfl rfl ⟨rfl, rfl, Nat.le_of_ble_eq_true rfl, Nat.le_of_ble_eq_true rfl⟩ rfl (Nat.le_of_ble_eq_true rfl) dX7_exchange_200 rfl ?_
            intro X3 harX3
            have hsgX3 := arr_seg rfl harX3
            obtain ⟨gX3, -, h2X3, h3X3, h4X3, h5X3⟩ := harX3
            have oX3 : rxO V X3 m := rxO_trans oX2 (arr_rxO (n := cn) (by omega) h3X3 h4X3 h5X3)
            have sX3 : X3 0 1 = lcg (lcg (lcg (V 0 1))) := by rw [h4X3 1 (by omega)]; exact sX2
            have bX3 : ∀ i, i < 40 → X3 21 i = V 15 (40 * m + i) := fun i hi => by rw [h5X3 21 (by omega) (by omega) (by omega) (by omega)]; exact bX2 i hi
            rw [x210, x28, x29, x20_10] at hsgX3
            have hrw3 : ∀ i, i < cn → 0 ≤ X3 15 (40 * m + i) ∧ X3 15 (40 * m + i) < V 0 10 := fun i hi => arrSeg_P (P := fun z => 0 ≤ z ∧ z < V 0 10) hsgX3 hrw2 (by omega) i hi
            have x314 : X3 14 = V 14 := oX3.1 14 (by omega) (by omega) (by omega) (by omega) (by omega)
            have x312 : X3 12 = V 12 := oX3.1 12 (by omega) (by omega) (by omega) (by omega) (by omega)
            have x310 : X3 10 = V 10 := oX3.1 10 (by omega) (by omega) (by omega) (by omega) (by omega)
            have x38 : X3 8 = V 8 := oX3.1 8 (by omega) (by omega) (by omega) (by omega) (by omega)
            have x39 : X3 9 = V 9 := oX3.1 9 (by omega) (by omega) (by omega) (by omega) (by omega)
            have x37 : X3 7 = V 7 := oX3.1 7 (by omega) (by omega) (by omega) (by omega) (by omega)
            have x32 : X3 2 = V 2 := oX3.1 2 (by omega) (by omega) (by omega) (by omega) (by omega)
            have x36 : X3 6 = V 6 := oX3.1 6 (by omega) (by omega) (by omega) (by omega) (by omega)
            have x35 : X3 5 = V 5 := oX3.1 5 (by omega) (by omega) (by omega) (by omega) (by omega)
            have x34 : X3 4 = V 4 := oX3.1 4 (by omega) (by omega) (by omega) (by omega) (by omega)
            have x30_10 : X3 0 10 = V 0 10 := oX3.2.1 10 (by omega) (by omega)
            have x30_3 : X3 0 3 = V 0 3 := oX3.2.1 3 (by omega) (by omega)
            obtain ⟨f3, ef3⟩ : ∃ f : Nat → Int, f = fun i => X3 15 (40 * m + i) := ⟨_, rfl⟩
            refine g_aload_n 1 dX7_exchange_203 rfl rfl ?_
            refine g_iload_n 2 dX7_exchange_204 rfl rfl ?_
            refine g_callL (k := 0) [.int (iN (m : Int))] (met_X7_timeOf (V := X3) ha m cn (by rw [x314]; exact hcn) cr (by rw [x312]; exact hcr) kc (by rw [x30_3]; exact hkc) hm3 (by omega) (fun i hi => by rw [x30_10]; exact hrw3 i hi) (by rw [x30_10]; omega) (by rw [x37]; exact q7) (by omega) (fun k hk => by rw [x36]; exact q6 k (by omega)) (fun k hk => by rw [x35, x36]; exact q5 k (by omega)) (fun k hk => by rw [x34]; exact q4 k (by omega)) (by omega) (by rw [x32]; exact q2) (by rw [x38]; exact q8) (by rw [x39]; exact q9)) vX7_190 om_0 rfl rfl ⟨rfl, rfl, Nat.le_of_ble_eq_true rfl, Nat.le_of_ble_eq_true rfl⟩ rfl (Nat.le_of_ble_eq_true rfl) dX7_exchange_205 rfl ?_
            rintro z9 V9 ⟨hz9, hV9⟩
            replace hV9 := hV9.symm
            subst hV9
            rw [x38, x39, x30_10, x32, x37, x36, x35, x34] at hz9
            have hz8 : z9 = rTm V m cr cn kc f3 := by rw [hz9, ef3]; rfl
            replace hz8 := hz8.symm
            subst hz8
            have ht_t2 : -1000000000 ≤ rTm V m cr cn kc f3 ∧ rTm V m cr cn kc f3 ≤ 1000000000 := rTm_in q8 q9 (by omega) (by omega) (by omega) (fun k hk => q6 k (by omega)) (fun k hk => q5 k (by omega))
            refine g_lload 7 dX7_exchange_208 rfl ?_
            refine g_lcmp (cmpz (rTm V m cr cn kc f3) (rTm V m cr cn kc (fun i => V 15 (40 * m + i)))) dX7_exchange_210 (cmpz_j (by omega) (by omega)) ?_
            have hcmp_7 := cmpz_c (rTm V m cr cn kc f3) (rTm V m cr cn kc (fun i => V 15 (40 * m + i)))
            refine g_if_ge 216 dX7_exchange_211 (by decide) (fun c_8 => ?_) (fun c_8 => ?_)
            · refine g_iconst dX7_exchange_216 ?_
              refine g_istore [(9, .int (iN 0)), (8, .int (iN (U 15 (40 * m + a0)))), (0, .ref (a 0)), (1, .int (iN (m : Int))), (2, .int (iN (a0 : Int))), (3, .int (iN (b0 : Int))), (4, .int (iN ((40 * m + a0 : Nat) : Int))), (5, .int (iN ((40 * m + b0 : Nat) : Int))), (6, .long (jN (rTm V m cr cn kc (fun i => V 15 (40 * m + i)))))] dX7_exchange_217 (by decide) rfl ?_
              have lp_219 : ∀ (fuel : Nat) (k : Nat) (U9 : Mem), (k ≤ 40) → (rsI X3 U9 m k) → (40 - k) < fuel → G l D (tysL τ) (LM τ) a mX7_exchange x 219 [(0, .ref (a 0)), (1, .int (iN (m : Int))), (9, .int (iN (k : Int)))] [] U9 := by
                intro fuel
                induction fuel with
                | zero => intro k U9 hk hrs hfu; exact absurd hfu (Nat.not_lt_zero _)
                | succ fuel ih_219 =>
                  intro k U9 hk hrs hfu
                  refine g_iload 2 dX7_exchange_219 rfl ?_
                  refine g_bipush dX7_exchange_221 rfl ?_
                  refine g_icmp_ge 251 dX7_exchange_223 (by decide) (fun c_9 => ?_) (fun c_9 => ?_)
                  · refine g_iconst dX7_exchange_251 ?_
                    exact g_iret hq rfl rfl dX7_exchange_252 (⟨m, hm, hdm, Or.inr ⟨by omega, (by rw [hrs.2.2 0 (by omega)]; exact sX3), (rxO_trans oX3 ⟨fun c _ b _ _ _ => hrs.2.2 c b, fun j _ _ => by rw [hrs.2.2 0 (by omega)], fun j hj => hrs.2.1 j (by omega)⟩), a0, b0, by rw [show (V 14 m).toNat = cn by omega, hda0, sWm], by rw [show (V 14 m).toNat = cn by omega, hdb0, sWa0, sWm], by omega, by omega, Or.inr ⟨by omega, (fun i => X2 15 (40 * m + i)), f3, by rw [← hX1s, show (V 14 m).toNat = cn by omega, show (V 12 m).toNat = cr by omega]; exact hsgX2, by rw [ef3, show (V 14 m).toNat = cn by omega, show (V 12 m).toNat = cr by omega]; exact hsgX3, Or.inr ⟨rfl, by rw [show (V 14 m).toNat = cn by omega, show (V 12 m).toNat = cr by omega]; omega, fun i hi => by rw [hrs.1 i (by omega)]; exact bX3 i hi⟩⟩⟩⟩)
                  · refine g_aload_n 0 dX7_exchange_226 rfl rfl ?_
                    refine g_getf 0 (.ref (a 15)) fX7_53 om_0 dX7_exchange_227 rfl ?_
                    refine g_bipush dX7_exchange_230 rfl ?_
                    refine g_iload_n 1 dX7_exchange_232 rfl rfl ?_
                    refine g_imul dX7_exchange_233 ?_
                    refine g_iload 2 dX7_exchange_234 rfl ?_
                    refine g_iadd dX7_exchange_236 ?_
                    refine g_aload_n 0 dX7_exchange_237 rfl rfl ?_
                    refine g_getf 0 (.ref (a 21)) fX7_72 om_0 dX7_exchange_238 rfl ?_
                    refine g_iload 2 dX7_exchange_241 rfl ?_
                    refine g_iald 21 k am_21 dX7_exchange_243 rfl (by omega) ?_
                    refine g_iast 15 (40 * m + k) am_15 dX7_exchange_244 (by omega) (by omega) ?_
                    obtain ⟨V_10, eV_10⟩ : ∃ V9 : Mem, V9 = up U9 15 (40 * m + k) (U9 21 k) := ⟨_, rfl⟩
                    refine g_mem eV_10.symm ?_
                    refine g_iinc 2 [(9, .int (iN ((k : Int) + 1))), (0, .ref (a 0)), (1, .int (iN (m : Int)))] dX7_exchange_245 rfl (by decide) rfl ?_
                    refine g_goto 219 dX7_exchange_248 (by decide) ?_
                    refine g_lv [1, 2, 0] rfl ?_
                    exact ih_219 (k + 1) V_10 (by omega) (by rw [eV_10]; exact rsI_s hrs) (by omega)
              refine g_lv [2, 3, 0] rfl ?_
              exact lp_219 _ 0 X3 (by omega) (⟨fun i h => absurd h (Nat.not_lt_zero _), fun _ _ => rfl, fun _ _ => rfl⟩) (Nat.lt_succ_self _)
            · refine g_iconst dX7_exchange_214 ?_
              exact g_iret hq rfl rfl dX7_exchange_215 (⟨m, hm, hdm, Or.inr ⟨by omega, sX3, oX3, a0, b0, by rw [show (V 14 m).toNat = cn by omega, hda0, sWm], by rw [show (V 14 m).toNat = cn by omega, hdb0, sWa0, sWm], by omega, by omega, Or.inr ⟨by omega, (fun i => X2 15 (40 * m + i)), f3, by rw [← hX1s, show (V 14 m).toNat = cn by omega, show (V 12 m).toNat = cr by omega]; exact hsgX2, by rw [ef3, show (V 14 m).toNat = cn by omega, show (V 12 m).toNat = cr by omega]; exact hsgX3, Or.inl ⟨rfl, by rw [show (V 14 m).toNat = cn by omega, show (V 12 m).toNat = cr by omega]; omega, fun i hi => by rw [ef3]⟩⟩⟩⟩)
          · refine g_aload_n 0 dX7_exchange_106 rfl rfl ?_
            refine g_getf 0 (.ref (a 21)) fX7_72 om_0 dX7_exchange_107 rfl ?_
            refine g_iload 7 dX7_exchange_110 rfl ?_
            refine g_aload_n 0 dX7_exchange_112 rfl rfl ?_
            refine g_getf 0 (.ref (a 15)) fX7_53 om_0 dX7_exchange_113 rfl ?_
            refine g_bipush dX7_exchange_116 rfl ?_
            refine g_iload_n 1 dX7_exchange_118 rfl rfl ?_
            refine g_imul dX7_exchange_119 ?_
            refine g_iload 7 dX7_exchange_120 rfl ?_
            refine g_iadd dX7_exchange_122 ?_
            refine g_iald 15 (40 * m + k) am_15 dX7_exchange_123 (by omega) (by omega) ?_
            refine g_iast 21 k am_21 dX7_exchange_124 rfl (by omega) ?_
            obtain ⟨V_11, eV_11⟩ : ∃ V9 : Mem, V9 = up U 21 k (U 15 (40 * m + k)) := ⟨_, rfl⟩
            refine g_mem eV_11.symm ?_
            refine g_iinc 7 [(8, .int (iN ((k : Int) + 1))), (0, .ref (a 0)), (1, .int (iN (m : Int))), (2, .int (iN (a0 : Int))), (3, .int (iN (b0 : Int))), (4, .int (iN ((40 * m + a0 : Nat) : Int))), (5, .int (iN ((40 * m + b0 : Nat) : Int))), (6, .long (jN (rTm V m cr cn kc (fun i => V 15 (40 * m + i)))))] dX7_exchange_125 rfl (by decide) rfl ?_
            refine g_goto 99 dX7_exchange_128 (by decide) ?_
            refine g_lv [1, 2, 3, 4, 5, 6, 7, 0] rfl ?_
            exact ih_99 (k + 1) V_11 (by omega) (by rw [eV_11]; exact bfI_s hbf) (by omega)
      refine g_lv [7, 6, 5, 4, 3, 2, 1, 0] rfl ?_
      exact lp_99 _ 0 Wb0 (by omega) (⟨fun i h => absurd h (Nat.not_lt_zero _), fun _ _ => rfl⟩) (Nat.lt_succ_self _)
    · refine g_iconst dX7_exchange_87 ?_
      exact g_iret hq rfl rfl dX7_exchange_88 (⟨m, hm, hdm, Or.inr ⟨by omega, (by rw [sWb0, sWa0, sWm]), oWb0, a0, b0, by rw [show (V 14 m).toNat = cn by omega, hda0, sWm], by rw [show (V 14 m).toNat = cn by omega, hdb0, sWa0, sWm], by omega, by omega, Or.inl ⟨rfl, by omega, fun i hi => by rw [eWb0, eWa0, eWm, up_ne1 (by omega), up_ne1 (by omega), up_ne1 (by omega)]⟩⟩⟩)
  · refine g_iconst dX7_exchange_19 ?_
    exact g_iret hq rfl rfl dX7_exchange_20 (⟨m, hm, hdm, Or.inl ⟨by omega, rfl, eWm⟩⟩)
