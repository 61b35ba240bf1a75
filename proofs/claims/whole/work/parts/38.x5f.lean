set_option maxHeartbeats 4000000 in
/-- TripPlan.arrange(parts, machine, trip) -/
theorem met_X5_arrange {l : Launch} {D : va_G} {τ : Nat → ClassId} {a : Nat → Nat} (ha : Apart (LX τ) a) {V : Mem} {m : Nat} (hm0 : m < 3) (tr cr n fr sz : Nat) (hcr : V (15 + 4 * m) 4 = (cr : Int)) (hcr6 : 1 ≤ cr ∧ cr ≤ 6) (hn : V (15 + 4 * m) 5 = (n : Int)) (hn40 : n ≤ 40) (hfr : fr = tr * cr) (hfrn : fr < n) (hszd : sz = min cr (n - fr)) (htr : tr < 100) (hrw : ∀ i, i < n → 0 ≤ V (15 + 4 * m + 1) i ∧ V (15 + 4 * m + 1) i < 40) (hc : 0 ≤ V 9 4 ∧ V 9 4 ≤ 40) (hh : ∀ p, p < 40 → 0 ≤ V 13 p ∧ V 13 p ≤ 10000) (hx : ∀ p, p < 40 → 0 ≤ V 11 p ∧ V 11 p ≤ 100000) (hy : ∀ p, p < 40 → 0 ≤ V 12 p ∧ V 12 p ≤ 100000) : CV l D (tysL τ) (LX τ) a yX5_arrange mX5_arrange [.ref (a 44), .ref (a 9), .ref (a (15 + 4 * m)), .int (iN (tr : Int))] V (fun V' => ∃ g, isArr (V 13) (V 11) (V 12) (V 9 4) (fun i => V (15 + 4 * m + 1) (fr + i)) g sz ∧ (∀ j, V' (15 + 4 * m + 1) j = if fr ≤ j ∧ j < fr + sz then g (j - fr) else V (15 + 4 * m + 1) j) ∧ ∀ c, ¬ (44 ≤ c ∧ c < 120) → c ≠ 15 + 4 * m + 1 → V' c = V c) := by
  refine CV.of (by decide +kernel) rfl (Nat.le_of_ble_eq_true rfl) ha (fun x hq => ?_)
  show G l D (tysL τ) (LX τ) a mX5_arrange x 0 [(0, .ref (a 44)), (1, .ref (a 9)), (2, .ref (a (15 + 4 * m))), (3, .int (iN (tr : Int)))] [] V
  refine g_iload_n 3 dX5_arrange_0 rfl rfl ?_
  refine g_aload_n 2 dX5_arrange_1 rfl rfl ?_
  refine g_getf (15 + 4 * m) (.int (iN (V (15 + 4 * m) 4))) fX5_30 (ox_M (m := m) hm0) dX5_arrange_2 rfl ?_
  refine g_top (show V (15 + 4 * m) 4 = (cr : Int) from hcr) ?_
  refine g_imul dX5_arrange_5 ?_
  refine g_top (show (tr : Int) * (cr : Int) = (fr : Int) from by rw [hfr, Int.natCast_mul]) ?_
  refine g_istore [(4, .int (iN (fr : Int))), (0, .ref (a 44)), (1, .ref (a 9)), (2, .ref (a (15 + 4 * m))), (3, .int (iN (tr : Int)))] dX5_arrange_6 (by decide) rfl ?_
  refine g_aload_n 3 dX5_arrange_8 rfl rfl ?_
  refine g_getf (15 + 4 * m) (.int (iN (V (15 + 4 * m) 5))) fX5_35 (ox_M (m := m) hm0) dX5_arrange_9 rfl ?_
  refine g_top (show V (15 + 4 * m) 5 = (n : Int) from hn) ?_
  refine g_iload 0 dX5_arrange_12 rfl ?_
  refine g_aload_n 3 dX5_arrange_14 rfl rfl ?_
  refine g_getf (15 + 4 * m) (.int (iN (V (15 + 4 * m) 4))) fX5_30 (ox_M (m := m) hm0) dX5_arrange_15 rfl ?_
  refine g_top (show V (15 + 4 * m) 4 = (cr : Int) from hcr) ?_
  refine g_iadd dX5_arrange_18 ?_
  refine g_mmin jX5_36 ⟨Nat.le_of_ble_eq_true rfl, Nat.le_of_ble_eq_true rfl⟩ (Nat.le_of_ble_eq_true rfl) dX5_arrange_19 (by omega) (by omega) ?_
  refine g_istore [(5, .int (iN (min (n : Int) ((fr : Int) + (cr : Int))))), (4, .int (iN (fr : Int))), (0, .ref (a 44)), (1, .ref (a 9)), (2, .ref (a (15 + 4 * m))), (3, .int (iN (tr : Int)))] dX5_arrange_22 (by decide) rfl ?_
  refine g_lve (show ([(5, .int (iN (min (n : Int) ((fr : Int) + (cr : Int))))), (4, .int (iN (fr : Int))), (0, .ref (a 44)), (1, .ref (a 9)), (2, .ref (a (15 + 4 * m))), (3, .int (iN (tr : Int)))] : List (Nat × Value)) = ([(5, .int (iN ((fr + sz : Nat) : Int))), (4, .int (iN (fr : Int))), (0, .ref (a 44)), (1, .ref (a 9)), (2, .ref (a (15 + 4 * m))), (3, .int (iN (tr : Int)))] : List (Nat × Value)) from by rw [show min (n : Int) ((fr : Int) + (cr : Int)) = ((fr + sz : Nat) : Int) from by omega]) ?_
  refine g_iload 1 dX5_arrange_24 rfl ?_
  refine g_if_lt 39 dX5_arrange_26 (by decide) (fun c_1 => ?_) (fun c_1 => ?_)
  · omega
  · refine g_iload 0 dX5_arrange_29 rfl ?_
    refine g_iload 1 dX5_arrange_31 rfl ?_
    refine g_isub dX5_arrange_33 ?_
    refine g_bipush dX5_arrange_34 rfl ?_
    refine g_icmp_le 40 dX5_arrange_36 (by decide) (fun c_2 => ?_) (fun c_2 => ?_)
    · refine g_aload_n 2 dX5_arrange_40 rfl rfl ?_
      refine g_iconst dX5_arrange_41 ?_
      refine g_putf 44 (v := 0) (.int (iN 0)) pX5_26 ox_44 dX5_arrange_42 rfl rfl (Nat.le_of_ble_eq_true rfl) rfl ?_
      obtain ⟨V_3, eV_3⟩ : ∃ V9 : Mem, V9 = up V 44 4 0 := ⟨_, rfl⟩
      refine g_mem eV_3.symm ?_
      refine g_iload 1 dX5_arrange_45 rfl ?_
      refine g_istore [(6, .int (iN (fr : Int))), (5, .int (iN ((fr + sz : Nat) : Int))), (4, .int (iN (fr : Int))), (0, .ref (a 44)), (1, .ref (a 9)), (2, .ref (a (15 + 4 * m))), (3, .int (iN (tr : Int)))] dX5_arrange_47 (by decide) rfl ?_
      refine g_lve (show ([(6, .int (iN (fr : Int))), (5, .int (iN ((fr + sz : Nat) : Int))), (4, .int (iN (fr : Int))), (0, .ref (a 44)), (1, .ref (a 9)), (2, .ref (a (15 + 4 * m))), (3, .int (iN (tr : Int)))] : List (Nat × Value)) = ([(6, .int (iN ((fr + 0 : Nat) : Int))), (5, .int (iN ((fr + sz : Nat) : Int))), (4, .int (iN (fr : Int))), (0, .ref (a 44)), (1, .ref (a 9)), (2, .ref (a (15 + 4 * m))), (3, .int (iN (tr : Int)))] : List (Nat × Value)) from by rw [show (fr : Int) = ((fr + 0 : Nat) : Int) from rfl]) ?_
      have lp_49 : ∀ (fuel : Nat) (k : Nat) (U : Mem), (k ≤ sz) → (poolInv U V (fun i => V (15 + 4 * m + 1) (fr + i)) k) → (sz - k) < fuel → G l D (tysL τ) (LX τ) a mX5_arrange x 49 [(0, .ref (a 44)), (1, .ref (a 9)), (2, .ref (a (15 + 4 * m))), (4, .int (iN (fr : Int))), (5, .int (iN ((fr + sz : Nat) : Int))), (6, .int (iN ((fr + k : Nat) : Int)))] [] U := by
        intro fuel
        induction fuel with
        | zero => intro k U hk hinv hfu; exact absurd hfu (Nat.not_lt_zero _)
        | succ fuel ih_49 =>
          intro k U hk hinv hfu
          obtain ⟨hsk, hpl, hoffU⟩ := id hinv
          refine g_iload 5 dX5_arrange_49 rfl ?_
          refine g_iload 4 dX5_arrange_51 rfl ?_
          refine g_icmp_ge 73 dX5_arrange_53 (by decide) (fun c_4 => ?_) (fun c_4 => ?_)
          · refine g_aload_n 0 dX5_arrange_73 rfl rfl ?_
            refine g_aload_n 1 dX5_arrange_74 rfl rfl ?_
            have ek : k = sz := by omega
            subst ek
            have hUr : ∀ i, i < k → 0 ≤ U 45 i ∧ U 45 i < 40 := fun i hi => by rw [hpl i hi]; exact poolF_all (P := fun z => 0 ≤ z ∧ z < 40) (fun i hi => hrw (fr + i) (by omega)) i hi
            have u9 : U 9 = V 9 := hoffU 9 (by omega) (by omega)
            have u11 : U 11 = V 11 := hoffU 11 (by omega) (by omega)
            have u12 : U 12 = V 12 := hoffU 12 (by omega) (by omega)
            have u13 : U 13 = V 13 := hoffU 13 (by omega) (by omega)
            refine g_callV (k := 44) [.ref (a 9)] (met_X5_measure (V := U) ha k hsk (by omega) hUr (by rw [u9]; exact hc) (by rw [u13]; exact hh) (by rw [u11]; exact hx) (by rw [u12]; exact hy)) vX5_49 ox_44 rfl rfl ⟨rfl, rfl, Nat.le_of_ble_eq_true rfl, Nat.le_of_ble_eq_true rfl⟩ rfl (Nat.le_of_ble_eq_true rfl) dX5_arrange_75 rfl ?_
            rintro V2 ⟨ho2, hr2⟩
            have hrow2 : ∀ i, i < k → mRow V2 k (fun i => V 13 (poolF (fun i => V (15 + 4 * m + 1) (fr + i)) k i).toNat) (fun i j => way (V 11) (V 12) (V 9 4) (poolF (fun i => V (15 + 4 * m + 1) (fr + i)) k i) (poolF (fun i => V (15 + 4 * m + 1) (fr + i)) k j)) (fun i => way (V 11) (V 12) (V 9 4) (poolF (fun i => V (15 + 4 * m + 1) (fr + i)) k i) (-1)) i := fun i hi => mRow_congr hi (hr2 i hi) (fun j hj => by rw [u13, hpl j hj]) (fun i j hi hj => by rw [u9, u11, u12, hpl i hi, hpl j hj]) (fun i hi => by rw [u9, u11, u12, hpl i hi])
            refine g_aload_n 0 dX5_arrange_78 rfl rfl ?_
            refine g_callV (k := 44) [] (met_X5_weigh (V := V2) ha k (by rw [ho2 44 (by omega) (by omega)]; exact hsk) (by omega) _ _ _ hrow2 (fun i j _ _ => way_in hx hy hc.2) (fun i _ => way_in hx hy hc.2)) vX5_53 ox_44 rfl rfl ⟨rfl, rfl, Nat.le_of_ble_eq_true rfl, Nat.le_of_ble_eq_true rfl⟩ rfl (Nat.le_of_ble_eq_true rfl) dX5_arrange_79 rfl ?_
            rintro V3 ⟨ho3, hW3, hA3⟩
            have hrow3 : ∀ i, i < k → mRow V3 k (fun i => V 13 (poolF (fun i => V (15 + 4 * m + 1) (fr + i)) k i).toNat) (fun i j => way (V 11) (V 12) (V 9 4) (poolF (fun i => V (15 + 4 * m + 1) (fr + i)) k i) (poolF (fun i => V (15 + 4 * m + 1) (fr + i)) k j)) (fun i => way (V 11) (V 12) (V 9 4) (poolF (fun i => V (15 + 4 * m + 1) (fr + i)) k i) (-1)) i := fun i hi => mRow_keep (hrow2 i hi) (fun j => by rw [ho3 (48 + i) (by omega)]) (by rw [ho3 54 (by omega)]) (by rw [ho3 46 (by omega)])
            refine g_aload_n 0 dX5_arrange_82 rfl rfl ?_
            refine g_aload_n 2 dX5_arrange_83 rfl rfl ?_
            refine g_getf (15 + 4 * m) (.ref (a (15 + 4 * m + 1))) fX5_42 (ox_M (m := m) hm0) dX5_arrange_84 rfl ?_
            refine g_iload 3 dX5_arrange_87 rfl ?_
            refine g_callV (k := 44) [.ref (a (15 + 4 * m + 1)), .int (iN (fr : Int))] (met_X5_layOut (V := V3) ha (ax_R (m := m) hm0) fr k (by rw [ho3 44 (by omega), ho2 44 (by omega) (by omega)]; exact hsk) (by omega) _ _ _ (by omega) (by omega) hrow3 (fun i j _ _ => way_in hx hy hc.2) (fun i _ => way_in hx hy hc.2) hW3 hA3) vX5_56 ox_44 rfl rfl ⟨rfl, rfl, Nat.le_of_ble_eq_true rfl, Nat.le_of_ble_eq_true rfl⟩ rfl (Nat.le_of_ble_eq_true rfl) dX5_arrange_89 rfl ?_
            rintro V4 ⟨q, hq4, e4⟩
            exact g_vret hq rfl dX5_arrange_92 (⟨fun t => poolF (fun i => V (15 + 4 * m + 1) (fr + i)) k (q t), ⟨q, hq4, fun _ _ => rfl⟩, fun j => by
                  have hqk : ∀ t, t < k → q t < k := fun t ht => (hq4.choose_spec.2 t ht).1.1
                  have e45 : ∀ i, i < k → V3 45 i = poolF (fun i => V (15 + 4 * m + 1) (fr + i)) k i := fun i hi => by rw [ho3 45 (by omega), ho2 45 (by omega) (by omega)]; exact hpl i hi
                  have eR : V3 (15 + 4 * m + 1) = V (15 + 4 * m + 1) := by rw [ho3 _ (by omega), ho2 _ (by omega) (by omega)]; exact hoffU _ (by omega) (by omega)
                  rw [e4]
                  show (if _ then _ else _) = _
                  by_cases hj : fr ≤ j ∧ j < fr + k
                  · rw [if_pos ⟨rfl, hj⟩, if_pos hj, e45 _ (hqk _ (by omega))]
                  · rw [if_neg (fun z => hj z.2), if_neg hj, eR], fun c h1 h2 => by rw [e4, layM_ne h2, ho3 c (by omega), ho2 c (by omega) (by omega)]; exact hoffU c (by omega) (by omega)⟩)
          · refine g_aload_n 0 dX5_arrange_56 rfl rfl ?_
            refine g_aload_n 2 dX5_arrange_57 rfl rfl ?_
            refine g_getf (15 + 4 * m) (.ref (a (15 + 4 * m + 1))) fX5_42 (ox_M (m := m) hm0) dX5_arrange_58 rfl ?_
            refine g_iload 5 dX5_arrange_61 rfl ?_
            refine g_iald (15 + 4 * m + 1) (fr + k) (ax_R (m := m) (by omega)) dX5_arrange_63 rfl (by omega) ?_
            refine g_top (show U (15 + 4 * m + 1) (fr + k) = V (15 + 4 * m + 1) (fr + k) from by rw [hoffU _ (by omega) (by omega)]) ?_
            have hUr : ∀ i, i < k → 0 ≤ U 45 i ∧ U 45 i < 40 := fun i hi => by rw [hpl i hi]; exact poolF_all (P := fun z => 0 ≤ z ∧ z < 40) (fun i hi => hrw (fr + i) (by omega)) i hi
            have hrk := hrw (fr + k) (by omega)
            refine g_callV (k := 44) [.int (iN (V (15 + 4 * m + 1) (fr + k)))] (met_X5_takeIn (V := U) ha (V (15 + 4 * m + 1) (fr + k)) k (by omega) hsk (by omega) hUr) vX5_45 ox_44 rfl rfl ⟨rfl, rfl, Nat.le_of_ble_eq_true rfl, Nat.le_of_ble_eq_true rfl⟩ rfl (Nat.le_of_ble_eq_true rfl) dX5_arrange_64 rfl ?_
            intro V9 e9
            refine g_iinc 5 [(6, .int (iN (((fr + k : Nat) : Int) + 1))), (0, .ref (a 44)), (1, .ref (a 9)), (2, .ref (a (15 + 4 * m))), (4, .int (iN (fr : Int))), (5, .int (iN ((fr + sz : Nat) : Int)))] dX5_arrange_67 rfl (by decide) rfl ?_
            refine g_goto 49 dX5_arrange_70 (by decide) ?_
            refine g_lve (show ([(6, .int (iN (((fr + k : Nat) : Int) + 1))), (0, .ref (a 44)), (1, .ref (a 9)), (2, .ref (a (15 + 4 * m))), (4, .int (iN (fr : Int))), (5, .int (iN ((fr + sz : Nat) : Int)))] : List (Nat × Value)) = ([(6, .int (iN ((fr + k + 1 : Nat) : Int))), (0, .ref (a 44)), (1, .ref (a 9)), (2, .ref (a (15 + 4 * m))), (4, .int (iN (fr : Int))), (5, .int (iN ((fr + sz : Nat) : Int)))] : List (Nat × Value)) from by rw [show ((fr + k : Nat) : Int) + 1 = ((fr + k + 1 : Nat) : Int) from by omega]) ?_
            refine g_lv [1, 2, 3, 4, 5, 0] rfl ?_
            exact ih_49 (k + 1) V9 (by omega) (by rw [e9]; exact poolInv_s hinv) (by omega)
      refine g_lv [3, 4, 5, 2, 1, 0] rfl ?_
      exact lp_49 _ 0 V_3 (Nat.zero_le _) (by rw [eV_3]; exact ⟨up_eq, fun j h => absurd h (Nat.not_lt_zero _), fun c h _ => up_ne1 h⟩) (Nat.lt_succ_self _)
    · omega
