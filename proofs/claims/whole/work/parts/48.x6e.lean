set_option maxHeartbeats 4000000 in
/-- setUp(m) -/
theorem met_X6_setUp {l : Launch} {D : va_G} {τ : Nat → ClassId} {a : Nat → Nat} (ha : Apart (LX τ) a) {V : Mem} (m : Nat) (hm : m < 3) (kc : Nat) (hkc : V 2 6 = (kc : Int)) (hkc10 : kc ≤ 10) (np : Nat) (hnp : V 9 4 = (np : Int)) (hnp40 : np ≤ 40) (sl : Nat) (hsl : V 0 0 = (sl : Int)) (hsl120 : sl ≤ 120) (cr : Nat) (hcr : V (15 + 4 * m) 4 = (cr : Int)) (hcr6 : 1 ≤ cr ∧ cr ≤ 6) (hwd : ∀ k, k < 10 → 0 ≤ V 3 k ∧ V 3 k ≤ 4) (hwk : ∀ k, k < kc → 1 ≤ V 3 k) (hhm : ∀ k, k < 10 → -1 ≤ V 28 k ∧ V 28 k ≤ 2) (hfx : ∀ k, k < 10 → -1 ≤ V 5 k ∧ V 5 k ≤ 120) (hko : ∀ p, p < 40 → 0 ≤ V 10 p ∧ V 10 p < 10) (hnz : ∀ k, k < 10 → 0 ≤ V 4 k ∧ V 4 k ≤ 7) (hh : ∀ p, p < 40 → 0 ≤ V 13 p ∧ V 13 p ≤ 10000) (hc : 0 ≤ V 9 4 ∧ V 9 4 ≤ 40) (hx : ∀ p, p < 40 → 0 ≤ V 11 p ∧ V 11 p ≤ 100000) (hy : ∀ p, p < 40 → 0 ≤ V 12 p ∧ V 12 p ≤ 100000) : CV l D (tysL τ) (LX τ) a yX6_setUp mX6_setUp [.ref (a 0), .int (iN (m : Int))] V (fun V' => ∃ g, othR (V 3) (V 5) (V 28) kc sl (m : Int) (fixF (V 5) (V 28) (m : Int) (fun _ => -1) kc) kc g ∧ (∀ k, k < 10 → V' (15 + 4 * m + 2) k = g k) ∧ V' (15 + 4 * m) 5 = (nAct (fun p => decide (g (V 10 p).toNat ≠ -1)) np : Int) ∧ (∀ k, k < 10 → V' (15 + 4 * m + 3) k = amF (fun p => decide (g (V 10 p).toNat ≠ -1)) (V 10) k np) ∧ (∀ t, t * cr < nAct (fun p => decide (g (V 10 p).toNat ≠ -1)) np → isArr (V 13) (V 11) (V 12) (V 9 4) (fun i => lnF (V 13) (V 11) (V 12) (fun p => decide (g (V 10 p).toNat ≠ -1)) np (t * cr + i)) (fun i => V' (15 + 4 * m + 1) (t * cr + i)) (min cr (nAct (fun p => decide (g (V 10 p).toNat ≠ -1)) np - t * cr))) ∧ V' (15 + 4 * m) 6 = moveT (way (V 11) (V 12) (V 9 4)) cr (V' (15 + 4 * m + 1)) (fun i => V 4 (V 10 (V' (15 + 4 * m + 1) i).toNat).toNat) (nAct (fun p => decide (g (V 10 p).toNat ≠ -1)) np) ∧ (∀ j, j ≠ 5 → j ≠ 6 → V' (15 + 4 * m) j = V (15 + 4 * m) j) ∧ ∀ c, ¬ (44 ≤ c ∧ c < 120) → c ≠ 15 + 4 * m → c ≠ 15 + 4 * m + 1 → c ≠ 15 + 4 * m + 2 → c ≠ 15 + 4 * m + 3 → V' c = V c) := by
  refine CV.of (by decide +kernel) rfl (Nat.le_of_ble_eq_true rfl) ha (fun x hq => ?_)
  show G l D (tysL τ) (LX τ) a mX6_setUp x 0 [(0, .ref (a 0)), (1, .int (iN (m : Int)))] [] V
  refine g_aload_n 0 dX6_setUp_0 rfl rfl ?_
  refine g_getf 0 (.ref (a 14)) fX6_26 ox_0 dX6_setUp_1 rfl ?_
  refine g_iload_n 1 dX6_setUp_4 rfl rfl ?_
  refine g_aald 14 m ax_14 dX6_setUp_5 rfl (by omega) ?_
  refine g_astore_n [(2, .ref (a (15 + 4 * m))), (0, .ref (a 0)), (1, .int (iN (m : Int)))] dX6_setUp_6 rfl (by decide) rfl ?_
  refine g_aload_n 0 dX6_setUp_7 rfl rfl ?_
  refine g_callV (k := 15 + 4 * m) [] (met_X2_clear ha hm) vX6_235 (ox_M (m := m) (by omega)) rfl rfl ⟨rfl, rfl, Nat.le_of_ble_eq_true rfl, Nat.le_of_ble_eq_true rfl⟩ rfl (Nat.le_of_ble_eq_true rfl) dX6_setUp_8 rfl ?_
  intro V1 e1
  have o1 : ∀ c, c ≠ 15 + 4 * m → c ≠ 15 + 4 * m + 2 → c ≠ 15 + 4 * m + 3 → V1 c = V c := fun c h1 h2 h3 => by rw [e1, up_ne1 h1]; funext j; rw [fillM_ne (Or.inl h3), fillM_ne (Or.inl h2)]
  have oC : ∀ j, j ≠ 5 → V1 (15 + 4 * m) j = V (15 + 4 * m) j := fun j h => by rw [e1, up_ne (Or.inr h), fillM_ne (by omega), fillM_ne (by omega)]
  have oF : ∀ j, j < 10 → V1 (15 + 4 * m + 2) j = -1 := fun j h => by rw [e1, up_ne (by omega), fillM_ne (by omega), fillM_in h]
  have oA : ∀ j, j < 10 → V1 (15 + 4 * m + 3) j = 0 := fun j h => by rw [e1, up_ne (by omega), fillM_in h]
  have oS : V1 (15 + 4 * m) 5 = 0 := by rw [e1, up_eq]
  refine g_aload_n 1 dX6_setUp_11 rfl rfl ?_
  refine g_aload_n 0 dX6_setUp_12 rfl rfl ?_
  refine g_iload_n 2 dX6_setUp_13 rfl rfl ?_
  refine g_callV (k := 0) [.ref (a (15 + 4 * m)), .int (iN (m : Int))] (met_X6_placeFixedFeeders (V := V1) ha hm m kc (by rw [o1 2 (by omega) (by omega) (by omega)]; exact hkc) hkc10 hm (by rw [o1 28 (by omega) (by omega) (by omega)]; exact hhm) (by rw [o1 5 (by omega) (by omega) (by omega)]; exact hfx)) vX6_236 ox_0 rfl rfl ⟨rfl, rfl, Nat.le_of_ble_eq_true rfl, Nat.le_of_ble_eq_true rfl⟩ rfl (Nat.le_of_ble_eq_true rfl) dX6_setUp_14 rfl ?_
  intro V2 e2
  have o2 : ∀ c, c ≠ 15 + 4 * m + 2 → V2 c = V1 c := fun c h => by rw [e2, setR_ne h]
  have e5 : V1 5 = V 5 := o1 5 (by omega) (by omega) (by omega)
  have e28 : V1 28 = V 28 := o1 28 (by omega) (by omega) (by omega)
  have e2F : V2 (15 + 4 * m + 2) = fixF (V 5) (V 28) (m : Int) (V1 (15 + 4 * m + 2)) kc := by rw [e2, setR_eq, e5, e28]
  refine g_aload_n 1 dX6_setUp_17 rfl rfl ?_
  refine g_aload_n 0 dX6_setUp_18 rfl rfl ?_
  refine g_iload_n 2 dX6_setUp_19 rfl rfl ?_
  have q0 : V2 0 = V 0 := (o2 0 (by omega)).trans (o1 0 (by omega) (by omega) (by omega))
  have q2 : V2 2 = V 2 := (o2 2 (by omega)).trans (o1 2 (by omega) (by omega) (by omega))
  have q3 : V2 3 = V 3 := (o2 3 (by omega)).trans (o1 3 (by omega) (by omega) (by omega))
  have q5 : V2 5 = V 5 := (o2 5 (by omega)).trans (o1 5 (by omega) (by omega) (by omega))
  have q28 : V2 28 = V 28 := (o2 28 (by omega)).trans (o1 28 (by omega) (by omega) (by omega))
  refine g_callV (k := 0) [.ref (a (15 + 4 * m)), .int (iN (m : Int))] (met_X6_placeOtherFeeders (V := V2) ha hm m kc (by rw [q2]; exact hkc) hkc10 sl (by rw [q0]; exact hsl) hsl120 hm (by rw [q3]; exact hwd) (by rw [q3]; exact hwk) (by rw [q28]; exact hhm) (by rw [q5]; exact hfx) (fun k hk => by
        rw [e2F]
        unfold fixF
        split
        · exact hfx k hk
        · rw [oF k hk]; omega)) vX6_240 ox_0 rfl rfl ⟨rfl, rfl, Nat.le_of_ble_eq_true rfl, Nat.le_of_ble_eq_true rfl⟩ rfl (Nat.le_of_ble_eq_true rfl) dX6_setUp_20 rfl ?_
  rintro V3 ⟨g0, hg0, hg0r, e3⟩
  rw [q3, q5, q28, e2F] at hg0
  obtain ⟨g, hg, hgg⟩ := othR_congr hkc10 (f' := fixF (V 5) (V 28) (m : Int) (fun _ => -1) kc) (fun k hk => by unfold fixF; rw [oF k hk]) hg0
  have o3 : ∀ c, c ≠ 15 + 4 * m → c ≠ 15 + 4 * m + 2 → c ≠ 15 + 4 * m + 3 → V3 c = V c := fun c h1 h2 h3 => by rw [e3, setR_ne h2, o2 c h2]; exact o1 c h1 h2 h3
  have hgr : ∀ k, k < 10 → -1 ≤ g k ∧ g k ≤ 120 := fun k hk => by rw [← hgg k hk]; exact hg0r k hk
  have o3F : ∀ k, k < 10 → V3 (15 + 4 * m + 2) k = g k := fun k hk => by rw [e3, setR_eq]; exact hgg k hk
  have o3C : ∀ j, V3 (15 + 4 * m) j = V1 (15 + 4 * m) j := fun j => by rw [e3, setR_ne (by omega), o2 _ (by omega)]
  have o3A : ∀ j, V3 (15 + 4 * m + 3) j = V1 (15 + 4 * m + 3) j := fun j => by rw [e3, setR_ne (by omega), o2 _ (by omega)]
  have t10 : V3 10 = V 10 := o3 10 (by omega) (by omega) (by omega)
  have t9 : V3 9 = V 9 := o3 9 (by omega) (by omega) (by omega)
  have t11 : V3 11 = V 11 := o3 11 (by omega) (by omega) (by omega)
  have t12 : V3 12 = V 12 := o3 12 (by omega) (by omega) (by omega)
  have t13 : V3 13 = V 13 := o3 13 (by omega) (by omega) (by omega)
  have t4 : V3 4 = V 4 := o3 4 (by omega) (by omega) (by omega)
  refine g_iconst dX6_setUp_23 ?_
  refine g_istore_n [(3, .int (iN 0)), (2, .ref (a (15 + 4 * m))), (0, .ref (a 0)), (1, .int (iN (m : Int)))] dX6_setUp_24 rfl (by decide) rfl ?_
  have lp_25 : ∀ (fuel : Nat) (p : Nat) (U : Mem), (p ≤ np) → (lnInv V3 U m (fun p => decide (g (V 10 p).toNat ≠ -1)) p) → (np - p) < fuel → G l D (tysL τ) (LX τ) a mX6_setUp x 25 [(0, .ref (a 0)), (1, .int (iN (m : Int))), (2, .ref (a (15 + 4 * m))), (3, .int (iN (p : Int)))] [] U := by
    intro fuel
    induction fuel with
    | zero => intro p U hp hinv hfu; exact absurd hfu (Nat.not_lt_zero _)
    | succ fuel ih_25 =>
      intro p U hp hinv hfu
      have ui : ∀ c, c ≠ 15 + 4 * m → c ≠ 15 + 4 * m + 1 → c ≠ 15 + 4 * m + 3 → U c = V3 c := hinv.2.2.2.2
      have u10 : U 10 = V 10 := (ui 10 (by omega) (by omega) (by omega)).trans t10
      have u9 : U 9 = V 9 := (ui 9 (by omega) (by omega) (by omega)).trans t9
      have u11 : U 11 = V 11 := (ui 11 (by omega) (by omega) (by omega)).trans t11
      have u12 : U 12 = V 12 := (ui 12 (by omega) (by omega) (by omega)).trans t12
      have u13 : U 13 = V 13 := (ui 13 (by omega) (by omega) (by omega)).trans t13
      have u_F : ∀ k, U (15 + 4 * m + 2) k = V3 (15 + 4 * m + 2) k := fun k => by rw [ui _ (by omega) (by omega) (by omega)]
      have hkp := hko p
      refine g_iload_n 3 dX6_setUp_25 rfl rfl ?_
      refine g_aload_n 0 dX6_setUp_26 rfl rfl ?_
      refine g_getf 0 (.ref (a 9)) fX6_19 ox_0 dX6_setUp_27 rfl ?_
      refine g_getf 9 (.int (iN (U 9 4))) fX6_243 ox_9 dX6_setUp_30 rfl ?_
      refine g_top (show U 9 4 = (np : Int) from by rw [u9]; exact hnp) ?_
      refine g_icmp_ge 69 dX6_setUp_33 (by decide) (fun c_1 => ?_) (fun c_1 => ?_)
      · obtain ⟨n, hnd⟩ : ∃ n, n = nAct (fun p => decide (g (V 10 p).toNat ≠ -1)) np := ⟨_, rfl⟩
        have epn : p = np := by omega
        subst epn
        have hnl := nAct_le (act := (fun p => decide (g (V 10 p).toNat ≠ -1))) (k := p)
        refine g_iconst dX6_setUp_69 ?_
        refine g_istore_n [(3, .int (iN 0)), (0, .ref (a 0)), (1, .int (iN (m : Int))), (2, .ref (a (15 + 4 * m)))] dX6_setUp_70 rfl (by decide) rfl ?_
        have lp_71 : ∀ (fuel : Nat) (tr : Nat) (W : Mem), (tr ≤ 41) → (∀ c, ¬ (44 ≤ c ∧ c < 120) → c ≠ 15 + 4 * m + 1 → W c = U c) → (∀ j, tr * cr ≤ j → W (15 + 4 * m + 1) j = U (15 + 4 * m + 1) j) → (∀ t, t < tr → isArr (V 13) (V 11) (V 12) (V 9 4) (fun i => lnF (V 13) (V 11) (V 12) (fun p => decide (g (V 10 p).toNat ≠ -1)) p (t * cr + i)) (fun i => W (15 + 4 * m + 1) (t * cr + i)) (min cr (n - t * cr))) → (∀ i, i < n → 0 ≤ W (15 + 4 * m + 1) i ∧ W (15 + 4 * m + 1) i < 40) → (42 - tr) < fuel → G l D (tysL τ) (LX τ) a mX6_setUp x 71 [(0, .ref (a 0)), (1, .int (iN (m : Int))), (2, .ref (a (15 + 4 * m))), (3, .int (iN (tr : Int)))] [] W := by
          intro fuel
          induction fuel with
          | zero => intro tr W htr hoW hge harr hrng hfu; exact absurd hfu (Nat.not_lt_zero _)
          | succ fuel ih_71 =>
            intro tr W htr hoW hge harr hrng hfu
            have w9 : W 9 = V 9 := (hoW 9 (by omega) (by omega)).trans u9
            have w10 : W 10 = V 10 := (hoW 10 (by omega) (by omega)).trans u10
            have w11 : W 11 = V 11 := (hoW 11 (by omega) (by omega)).trans u11
            have w12 : W 12 = V 12 := (hoW 12 (by omega) (by omega)).trans u12
            have w13 : W 13 = V 13 := (hoW 13 (by omega) (by omega)).trans u13
            have w4x : W 4 = V 4 := (hoW 4 (by omega) (by omega)).trans ((ui 4 (by omega) (by omega) (by omega)).trans t4)
            have wC : W (15 + 4 * m) = U (15 + 4 * m) := hoW _ (by omega) (by omega)
            have w5 : W (15 + 4 * m) 5 = (n : Int) := by rw [wC, hinv.1, hnd]
            have w4 : W (15 + 4 * m) 4 = (cr : Int) := by rw [wC, hinv.2.2.2.1 4 (by omega), o3C, oC 4 (by omega)]; exact hcr
            refine g_iload_n 3 dX6_setUp_71 rfl rfl ?_
            refine g_aload_n 2 dX6_setUp_72 rfl rfl ?_
            refine g_callI (k := 15 + 4 * m) [] (met_X2_tripCount (V := W) ha hm (by rw [w5]; omega) (by rw [w4]; omega)) vX6_166 (ox_M (m := m) hm) rfl rfl ⟨rfl, rfl, Nat.le_of_ble_eq_true rfl, Nat.le_of_ble_eq_true rfl⟩ rfl (Nat.le_of_ble_eq_true rfl) dX6_setUp_73 rfl ?_
            rintro z9 V9 ⟨hz9, hV9⟩
            replace hV9 := hV9.symm
            subst hV9
            rw [w5, w4] at hz9
            have hz8 : z9 = ((if 0 < n then (n - 1) / cr + 1 else 0 : Nat) : Int) := by
              rw [hz9]
              by_cases hn0 : 0 < n
              · rw [if_pos (by omega), if_pos hn0, show (n : Int) - 1 = ((n - 1 : Nat) : Int) by omega, ← Int.natCast_ediv]; rfl
              · rw [if_neg (by omega), if_neg hn0]; rfl
            replace hz8 := hz8.symm
            subst hz8
            have htc : (if 0 < n then (n - 1) / cr + 1 else 0) ≤ 41 := by split <;> have := Nat.div_le_self (n - 1) cr <;> omega
            refine g_icmp_ge 98 dX6_setUp_76 (by decide) (fun c_2 => ?_) (fun c_2 => ?_)
            · refine g_aload_n 2 dX6_setUp_98 rfl rfl ?_
              refine g_aload_n 0 dX6_setUp_99 rfl rfl ?_
              refine g_aload_n 2 dX6_setUp_100 rfl rfl ?_
              have hWY : ∀ p q, 0 ≤ way (V 11) (V 12) (V 9 4) p q ∧ way (V 11) (V 12) (V 9 4) p q ≤ 100000 := fun p q => way_in hx hy hc.2
              refine g_callI (k := 0) [.ref (a (15 + 4 * m))] (met_X6_moveTime (V := W) ha hm n w5 (by omega) hrng cr w4 hcr6 (by rw [w10]; exact hko) (by rw [w4x]; exact hnz) (by rw [w9]; exact hc) (by rw [w11]; exact hx) (by rw [w12]; exact hy)) vX6_255 ox_0 rfl rfl ⟨rfl, rfl, Nat.le_of_ble_eq_true rfl, Nat.le_of_ble_eq_true rfl⟩ rfl (Nat.le_of_ble_eq_true rfl) dX6_setUp_101 rfl ?_
              rintro z9 V9 ⟨hz9, hV9⟩
              replace hV9 := hV9.symm
              subst hV9
              rw [w11, w12, w9, w10, w4x] at hz9
              replace hz9 := hz9.symm
              subst hz9
              refine g_putf (15 + 4 * m) (v := moveT (way (V 11) (V 12) (V 9 4)) cr (W (15 + 4 * m + 1)) (fun i => V 4 (V 10 (W (15 + 4 * m + 1) i).toNat).toNat) n) (.int (iN (moveT (way (V 11) (V 12) (V 9 4)) cr (W (15 + 4 * m + 1)) (fun i => V 4 (V 10 (W (15 + 4 * m + 1) i).toNat).toNat) n))) pX6_258 (ox_M (m := m) hm) dX6_setUp_104 rfl rfl (Nat.le_of_ble_eq_true rfl) rfl ?_
              obtain ⟨V_3, eV_3⟩ : ∃ V9 : Mem, V9 = up W (15 + 4 * m) 6 (moveT (way (V 11) (V 12) (V 9 4)) cr (W (15 + 4 * m + 1)) (fun i => V 4 (V 10 (W (15 + 4 * m + 1) i).toNat).toNat) n) := ⟨_, rfl⟩
              refine g_mem eV_3.symm ?_
              exact g_vret hq rfl dX6_setUp_107 (⟨g, hg, fun k hk => by rw [eV_3, up_ne (by omega), hoW _ (by omega) (by omega), u_F, o3F k hk], by rw [eV_3, up_ne (by omega), w5, hnd], fun k hk => by rw [eV_3, up_ne (by omega), hoW _ (by omega) (by omega), hinv.2.2.1 k hk, t10], fun t ht => by
                    rw [← hnd] at ht ⊢
                    rw [eV_3]
                    refine isArr_congr (harr t (lt_trip (by omega) (by omega) ht)) (fun _ _ => rfl) (fun i hi => by rw [up_ne (by omega)]), by rw [eV_3, up_eq, up_ne1 (by omega), hnd], fun j h5 h6 => by rw [eV_3, up_ne (by omega), wC, hinv.2.2.2.1 j h5, o3C, oC j h5], fun c h1 h2 h3 h4 h5 => by rw [eV_3, up_ne1 h2, hoW c h1 h3, ui c h2 h3 h5]; exact o3 c h2 h4 h5⟩)
            · refine g_aload_n 0 dX6_setUp_79 rfl rfl ?_
              refine g_getf 0 (.ref (a 44)) fX6_40 ox_0 dX6_setUp_80 rfl ?_
              refine g_aload_n 0 dX6_setUp_83 rfl rfl ?_
              refine g_getf 0 (.ref (a 9)) fX6_19 ox_0 dX6_setUp_84 rfl ?_
              refine g_aload_n 2 dX6_setUp_87 rfl rfl ?_
              refine g_iload_n 3 dX6_setUp_88 rfl rfl ?_
              have hfrn : tr * cr < n := trip_lt (by omega) (by omega)
              have htr41 : tr < 100 := by omega
              refine g_callV (k := 44) [.ref (a 9), .ref (a (15 + 4 * m)), .int (iN (tr : Int))] (met_X5_arrange (V := W) ha hm tr cr n (tr * cr) (min cr (n - tr * cr)) w4 hcr6 w5 (by omega) rfl hfrn rfl htr41 hrng (by rw [w9]; exact hc) (by rw [w13]; exact hh) (by rw [w11]; exact hx) (by rw [w12]; exact hy)) vX6_251 ox_44 rfl rfl ⟨rfl, rfl, Nat.le_of_ble_eq_true rfl, Nat.le_of_ble_eq_true rfl⟩ rfl (Nat.le_of_ble_eq_true rfl) dX6_setUp_89 rfl ?_
              rintro V5 ⟨g5, ha5, hr5, ho5⟩
              refine g_iinc 3 [(3, .int (iN ((tr : Int) + 1))), (0, .ref (a 0)), (1, .int (iN (m : Int))), (2, .ref (a (15 + 4 * m)))] dX6_setUp_92 rfl (by decide) rfl ?_
              refine g_goto 71 dX6_setUp_95 (by decide) ?_
              refine g_lv [1, 2, 3, 0] rfl ?_
              exact ih_71 (tr + 1) V5 (by omega) (fun c h1 h2 => (ho5 c h1 h2).trans (hoW c h1 h2)) (fun j hj => by rw [hr5 j, if_neg (by rw [Nat.add_mul] at hj; omega)]; exact hge j (by rw [Nat.add_mul] at hj; omega)) (fun t ht => by
                      by_cases e : t = tr
                      · subst e
                        rw [w13, w11, w12, w9] at ha5
                        refine isArr_congr ha5 (fun i hi => ?_) (fun i hi => ?_)
                        · rw [hge _ (by omega), hinv.2.1 _ (by rw [← hnd]; omega), t13, t11, t12]
                        · rw [hr5, if_pos (by omega), show t * cr + i - t * cr = i by omega]
                      · refine isArr_congr (harr t (by omega)) (fun _ _ => rfl) (fun i hi => ?_)
                        have hlt : t * cr + cr ≤ tr * cr := by
                          have := Nat.mul_le_mul_right cr (show t + 1 ≤ tr by omega)
                          rw [Nat.add_mul] at this; omega
                        rw [hr5, if_neg (by omega)]) (fun i hi => by
                      rw [hr5]
                      split
                      · exact isArr_all (P := fun z => 0 ≤ z ∧ z < 40) ha5 (fun i hi => hrng _ (by omega)) _ (by omega)
                      · exact hrng i hi) (by omega)
        refine g_lv [1, 2, 3, 0] rfl ?_
        exact lp_71 _ 0 U (Nat.zero_le _) (fun _ _ _ => rfl) (fun _ _ => rfl) (fun t h => absurd h (Nat.not_lt_zero _)) (fun i hi => by rw [hinv.2.1 i (by rw [← hnd]; exact hi)]; have := lnF_in (h := V3 13) (x := V3 11) (y := V3 12) (sel := (fun p => decide (g (V 10 p).toNat ≠ -1))) (p := p) (j := i) (by rw [← hnd]; exact hi); omega) (Nat.lt_succ_self _)
      · refine g_aload_n 2 dX6_setUp_36 rfl rfl ?_
        refine g_getf (15 + 4 * m) (.ref (a (15 + 4 * m + 2))) fX6_151 (ox_M (m := m) hm) dX6_setUp_37 rfl ?_
        refine g_aload_n 0 dX6_setUp_40 rfl rfl ?_
        refine g_getf 0 (.ref (a 9)) fX6_19 ox_0 dX6_setUp_41 rfl ?_
        refine g_getf 9 (.ref (a 10)) fX6_244 ox_9 dX6_setUp_44 rfl ?_
        refine g_iload_n 3 dX6_setUp_47 rfl rfl ?_
        refine g_iald 10 p ax_10 dX6_setUp_48 rfl (by omega) ?_
        refine g_top (show U 10 p = (((V 10 p).toNat : Nat) : Int) from by rw [u10]; omega) ?_
        refine g_iald (15 + 4 * m + 2) ((V 10 p).toNat) (ax_F (m := m) (by omega)) dX6_setUp_49 rfl (by omega) ?_
        have hgk := hgr (V 10 p).toNat (by omega)
        refine g_top (show U (15 + 4 * m + 2) ((V 10 p).toNat) = g (V 10 p).toNat from by rw [u_F, o3F _ (by omega)]) ?_
        refine g_iconst dX6_setUp_50 ?_
        refine g_icmp_eq 63 dX6_setUp_51 (by decide) (fun c_4 => ?_) (fun c_4 => ?_)
        · refine g_iinc 3 [(3, .int (iN ((p : Int) + 1))), (0, .ref (a 0)), (1, .int (iN (m : Int))), (2, .ref (a (15 + 4 * m)))] dX6_setUp_63 rfl (by decide) rfl ?_
          refine g_goto 25 dX6_setUp_66 (by decide) ?_
          refine g_lv [1, 2, 3, 0] rfl ?_
          exact ih_25 (p + 1) U (by omega) (lnInv_skip hinv (fun q => absurd (of_decide_eq_true q) (by omega))) (by omega)
        · refine g_aload_n 2 dX6_setUp_54 rfl rfl ?_
          refine g_iload_n 3 dX6_setUp_55 rfl rfl ?_
          refine g_aload_n 0 dX6_setUp_56 rfl rfl ?_
          refine g_getf 0 (.ref (a 9)) fX6_19 ox_0 dX6_setUp_57 rfl ?_
          have hselp : (fun p => decide (g (V 10 p).toNat ≠ -1)) p = true := decide_eq_true (by omega)
          have hnl := nAct_le (act := (fun p => decide (g (V 10 p).toNat ≠ -1))) (k := p)
          refine g_callV (k := 15 + 4 * m) [.int (iN (p : Int)), .ref (a 9)] (met_X2_insert (V := U) ha hm p (V 10 p).toNat (nAct (fun p => decide (g (V 10 p).toNat ≠ -1)) p) (by omega) (by rw [u10]; omega) (by omega) hinv.1 (by omega) (fun i hi => by
                rw [hinv.2.1 i hi]
                have := lnF_in (h := V3 13) (x := V3 11) (y := V3 12) (sel := (fun p => decide (g (V 10 p).toNat ≠ -1))) hi
                omega) (by rw [u13]; exact hh) (by rw [u11]; exact hx) (by rw [u12]; exact hy)) vX6_247 (ox_M (m := m) hm) rfl rfl ⟨rfl, rfl, Nat.le_of_ble_eq_true rfl, Nat.le_of_ble_eq_true rfl⟩ rfl (Nat.le_of_ble_eq_true rfl) dX6_setUp_60 rfl ?_
          intro V4 e4
          refine g_iinc 3 [(3, .int (iN ((p : Int) + 1))), (0, .ref (a 0)), (1, .int (iN (m : Int))), (2, .ref (a (15 + 4 * m)))] dX6_setUp_63 rfl (by decide) rfl ?_
          refine g_goto 25 dX6_setUp_66 (by decide) ?_
          refine g_lv [1, 2, 3, 0] rfl ?_
          exact ih_25 (p + 1) V4 (by omega) (by rw [e4]; exact lnInv_add hinv hselp (by rw [t10]; omega) (by omega) rfl (by rw [u13, t13]) (by rw [u11, t11]) (by rw [u12, t12])) (by omega)
  refine g_lv [2, 3, 1, 0] rfl ?_
  exact lp_25 _ 0 V3 (Nat.zero_le _) (⟨by rw [o3C, oS]; rfl, fun j h => absurd h (Nat.not_lt_zero _), fun k hk => by rw [o3A, oA k hk]; rfl, fun _ _ => rfl, fun _ _ _ _ => rfl⟩) (Nat.lt_succ_self _)
