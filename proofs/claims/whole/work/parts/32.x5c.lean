set_option maxHeartbeats 4000000 in
/-- TripPlan.measure(parts) -/
theorem met_X5_measure {l : Launch} {D : va_G} {τ : Nat → ClassId} {a : Nat → Nat} (ha : Apart (LX τ) a) {V : Mem} (sz : Nat) (hsz : V 44 4 = (sz : Int)) (hsz6 : sz ≤ 6) (hpool : ∀ i, i < sz → 0 ≤ V 45 i ∧ V 45 i < 40) (hc : 0 ≤ V 9 4 ∧ V 9 4 ≤ 40) (hh : ∀ p, p < 40 → 0 ≤ V 13 p ∧ V 13 p ≤ 10000) (hx : ∀ p, p < 40 → 0 ≤ V 11 p ∧ V 11 p ≤ 100000) (hy : ∀ p, p < 40 → 0 ≤ V 12 p ∧ V 12 p ≤ 100000) : CV l D (tysL τ) (LX τ) a yX5_measure mX5_measure [.ref (a 44), .ref (a 9)] V (fun V' => offP V' V ∧ ∀ k, k < sz → mRow V' sz (fun i => V 13 (V 45 i).toNat) (fun i j => way (V 11) (V 12) (V 9 4) (V 45 i) (V 45 j)) (fun i => way (V 11) (V 12) (V 9 4) (V 45 i) (-1)) k) := by
  refine CV.of (by decide +kernel) rfl (Nat.le_of_ble_eq_true rfl) ha (fun x hq => ?_)
  show G l D (tysL τ) (LX τ) a mX5_measure x 0 [(0, .ref (a 44)), (1, .ref (a 9))] [] V
  refine g_iconst dX5_measure_0 ?_
  refine g_istore_n [(2, .int (iN 0)), (0, .ref (a 44)), (1, .ref (a 9))] dX5_measure_1 rfl (by decide) rfl ?_
  have lp_2 : ∀ (fuel : Nat) (i : Nat) (U : Mem), (i ≤ sz) → (offP U V) → (∀ k, k < i → mRow U sz (fun i => V 13 (V 45 i).toNat) (fun i j => way (V 11) (V 12) (V 9 4) (V 45 i) (V 45 j)) (fun i => way (V 11) (V 12) (V 9 4) (V 45 i) (-1)) k) → (sz - i) < fuel → G l D (tysL τ) (LX τ) a mX5_measure x 2 [(0, .ref (a 44)), (1, .ref (a 9)), (2, .int (iN (i : Int)))] [] U := by
    intro fuel
    induction fuel with
    | zero => intro i U hi hoff hrows hfu; exact absurd hfu (Nat.not_lt_zero _)
    | succ fuel ih_2 =>
      intro i U hi hoff hrows hfu
      have u9 : U 9 = V 9 := hoff 9 (by omega) (by omega)
      have u11 : U 11 = V 11 := hoff 11 (by omega) (by omega)
      have u12 : U 12 = V 12 := hoff 12 (by omega) (by omega)
      have u13 : U 13 = V 13 := hoff 13 (by omega) (by omega)
      have u44 : U 44 = V 44 := hoff 44 (by omega) (by omega)
      have u45 : U 45 = V 45 := hoff 45 (by omega) (by omega)
      have hpi := hpool i
      refine g_iload_n 2 dX5_measure_2 rfl rfl ?_
      refine g_aload_n 0 dX5_measure_3 rfl rfl ?_
      refine g_getf 44 (.int (iN (U 44 4))) fX5_26 ox_44 dX5_measure_4 rfl ?_
      refine g_top (show U 44 4 = (sz : Int) from by rw [u44]; exact hsz) ?_
      refine g_icmp_ge 138 dX5_measure_7 (by decide) (fun c_1 => ?_) (fun c_1 => ?_)
      · exact g_vret hq rfl dX5_measure_138 (⟨hoff, fun k hk => hrows k (by omega)⟩)
      · refine g_aload_n 0 dX5_measure_10 rfl rfl ?_
        refine g_getf 44 (.ref (a 46)) fX5_15 ox_44 dX5_measure_11 rfl ?_
        refine g_iload_n 2 dX5_measure_14 rfl rfl ?_
        refine g_iconst dX5_measure_15 ?_
        refine g_iast 46 i ax_46 dX5_measure_16 rfl (by omega) ?_
        obtain ⟨V_2, eV_2⟩ : ∃ V9 : Mem, V9 = up U 46 i 0 := ⟨_, rfl⟩
        refine g_mem eV_2.symm ?_
        refine g_aload_n 0 dX5_measure_17 rfl rfl ?_
        refine g_getf 44 (.ref (a 47)) fX5_20 ox_44 dX5_measure_18 rfl ?_
        refine g_iload_n 2 dX5_measure_21 rfl rfl ?_
        refine g_aald 47 i ax_47 dX5_measure_22 rfl (by omega) ?_
        refine g_bipush dX5_measure_23 rfl ?_
        refine g_aload_n 1 dX5_measure_25 rfl rfl ?_
        refine g_aload_n 0 dX5_measure_26 rfl rfl ?_
        refine g_getf 44 (.ref (a 45)) fX5_9 ox_44 dX5_measure_27 rfl ?_
        refine g_iload_n 2 dX5_measure_30 rfl rfl ?_
        refine g_iald 45 i ax_45 dX5_measure_31 rfl (by omega) ?_
        refine g_top (show _ = U 45 i from by rw [eV_2, up_ne (by omega)]) ?_
        refine g_top (show U 45 i = V 45 i from by rw [u45]) ?_
        refine g_iconst dX5_measure_32 ?_
        have q9 : V_2 9 = V 9 := by rw [eV_2, up_ne1 (by omega), u9]
        have q11 : V_2 11 = V 11 := by rw [eV_2, up_ne1 (by omega), u11]
        have q12 : V_2 12 = V 12 := by rw [eV_2, up_ne1 (by omega), u12]
        refine g_callI (k := 9) [.int (iN (V 45 i)), .int (iN (-1))] (met_X3_wayBetween (V := V_2) ha (V 45 i) (-1) (by omega) (by omega) (by rw [q9]; exact hc) (by rw [q11]; exact hx) (by rw [q12]; exact hy)) vX5_60 ox_9 rfl rfl ⟨rfl, rfl, Nat.le_of_ble_eq_true rfl, Nat.le_of_ble_eq_true rfl⟩ rfl (Nat.le_of_ble_eq_true rfl) dX5_measure_33 rfl ?_
        rintro z9 V9 ⟨hz9, hV9⟩
        replace hV9 := hV9.symm
        subst hV9
        rw [q9, q11, q12] at hz9
        replace hz9 := hz9.symm
        subst hz9
        refine g_iast (48 + i) 6 (ax_Y (i := i) (by omega)) dX5_measure_36 rfl (by decide) ?_
        obtain ⟨V_3, eV_3⟩ : ∃ V9 : Mem, V9 = up V_2 (48 + i) 6 (way (V 11) (V 12) (V 9 4) (V 45 i) (-1)) := ⟨_, rfl⟩
        refine g_mem eV_3.symm ?_
        refine g_aload_n 0 dX5_measure_37 rfl rfl ?_
        refine g_getf 44 (.ref (a 47)) fX5_20 ox_44 dX5_measure_38 rfl ?_
        refine g_bipush dX5_measure_41 rfl ?_
        refine g_aald 47 6 ax_47 dX5_measure_43 rfl (by decide) ?_
        refine g_iload_n 2 dX5_measure_44 rfl rfl ?_
        refine g_aload_n 0 dX5_measure_45 rfl rfl ?_
        refine g_getf 44 (.ref (a 47)) fX5_20 ox_44 dX5_measure_46 rfl ?_
        refine g_iload_n 2 dX5_measure_49 rfl rfl ?_
        refine g_aald 47 i ax_47 dX5_measure_50 rfl (by omega) ?_
        refine g_bipush dX5_measure_51 rfl ?_
        refine g_iald (48 + i) 6 (ax_Y (i := i) (by omega)) dX5_measure_53 rfl (by decide) ?_
        refine g_top (show _ = way (V 11) (V 12) (V 9 4) (V 45 i) (-1) from by rw [eV_3, up_eq]) ?_
        refine g_iast (48 + 6) i (ax_Y (i := 6) (by omega)) dX5_measure_54 rfl (by omega) ?_
        obtain ⟨V_4, eV_4⟩ : ∃ V9 : Mem, V9 = up V_3 (48 + 6) i (way (V 11) (V 12) (V 9 4) (V 45 i) (-1)) := ⟨_, rfl⟩
        refine g_mem eV_4.symm ?_
        refine g_iconst dX5_measure_55 ?_
        refine g_istore_n [(3, .int (iN 0)), (0, .ref (a 44)), (1, .ref (a 9)), (2, .int (iN (i : Int)))] dX5_measure_56 rfl (by decide) rfl ?_
        have lp_57 : ∀ (fuel : Nat) (j : Nat) (W : Mem) (lo : Nat), (j ≤ sz) → (offP W V) → (∀ k, k < i → mRow W sz (fun i => V 13 (V 45 i).toNat) (fun i j => way (V 11) (V 12) (V 9 4) (V 45 i) (V 45 j)) (fun i => way (V 11) (V 12) (V 9 4) (V 45 i) (-1)) k) → (W (48 + i) 6 = way (V 11) (V 12) (V 9 4) (V 45 i) (-1)) → (W 54 i = way (V 11) (V 12) (V 9 4) (V 45 i) (-1)) → (∀ j', j' < j → W (48 + i) j' = way (V 11) (V 12) (V 9 4) (V 45 i) (V 45 j')) → (W 46 i = (lo : Int)) → (lo < 64) → (∀ k, lo.testBit k = decide (k < j ∧ V 13 (V 45 k).toNat < V 13 (V 45 i).toNat)) → (sz - j) < fuel → G l D (tysL τ) (LX τ) a mX5_measure x 57 [(0, .ref (a 44)), (1, .ref (a 9)), (2, .int (iN (i : Int))), (3, .int (iN (j : Int)))] [] W := by
          intro fuel
          induction fuel with
          | zero => intro j W lo hj hoffW hrowsW hw6 hw54 hds hlo hlo64 hbit hfu; exact absurd hfu (Nat.not_lt_zero _)
          | succ fuel ih_57 =>
            intro j W lo hj hoffW hrowsW hw6 hw54 hds hlo hlo64 hbit hfu
            have w9 : W 9 = V 9 := hoffW 9 (by omega) (by omega)
            have w11 : W 11 = V 11 := hoffW 11 (by omega) (by omega)
            have w12 : W 12 = V 12 := hoffW 12 (by omega) (by omega)
            have w13 : W 13 = V 13 := hoffW 13 (by omega) (by omega)
            have w44 : W 44 = V 44 := hoffW 44 (by omega) (by omega)
            have w45 : W 45 = V 45 := hoffW 45 (by omega) (by omega)
            have hpj := hpool j
            have hhi := hh (V 45 i).toNat
            have hhj := hh (V 45 j).toNat
            refine g_iload_n 3 dX5_measure_57 rfl rfl ?_
            refine g_aload_n 0 dX5_measure_58 rfl rfl ?_
            refine g_getf 44 (.int (iN (W 44 4))) fX5_26 ox_44 dX5_measure_59 rfl ?_
            refine g_top (show W 44 4 = (sz : Int) from by rw [w44]; exact hsz) ?_
            refine g_icmp_ge 132 dX5_measure_62 (by decide) (fun c_5 => ?_) (fun c_5 => ?_)
            · refine g_iinc 2 [(2, .int (iN ((i : Int) + 1))), (0, .ref (a 44)), (1, .ref (a 9)), (3, .int (iN (j : Int)))] dX5_measure_132 rfl (by decide) rfl ?_
              refine g_goto 2 dX5_measure_135 (by decide) ?_
              refine g_lv [1, 2, 0] rfl ?_
              exact ih_2 (i + 1) W (by omega) hoffW (fun k hk => by by_cases e : k = i; (· rw [e]; have ej : j = sz := (by omega); rw [ej] at hds hbit; exact ⟨hw6, hw54, hds, lo, hlo, hlo64, hbit⟩); (· exact hrowsW k (by omega))) (by omega)
            · refine g_aload_n 0 dX5_measure_65 rfl rfl ?_
              refine g_getf 44 (.ref (a 47)) fX5_20 ox_44 dX5_measure_66 rfl ?_
              refine g_iload_n 2 dX5_measure_69 rfl rfl ?_
              refine g_aald 47 i ax_47 dX5_measure_70 rfl (by omega) ?_
              refine g_iload_n 3 dX5_measure_71 rfl rfl ?_
              refine g_aload_n 1 dX5_measure_72 rfl rfl ?_
              refine g_aload_n 0 dX5_measure_73 rfl rfl ?_
              refine g_getf 44 (.ref (a 45)) fX5_9 ox_44 dX5_measure_74 rfl ?_
              refine g_iload_n 2 dX5_measure_77 rfl rfl ?_
              refine g_iald 45 i ax_45 dX5_measure_78 rfl (by omega) ?_
              refine g_top (show W 45 i = V 45 i from by rw [w45]) ?_
              refine g_aload_n 0 dX5_measure_79 rfl rfl ?_
              refine g_getf 44 (.ref (a 45)) fX5_9 ox_44 dX5_measure_80 rfl ?_
              refine g_iload_n 3 dX5_measure_83 rfl rfl ?_
              refine g_iald 45 j ax_45 dX5_measure_84 rfl (by omega) ?_
              refine g_top (show W 45 j = V 45 j from by rw [w45]) ?_
              have q9 : W 9 = V 9 := by rw [w9]
              have q11 : W 11 = V 11 := by rw [w11]
              have q12 : W 12 = V 12 := by rw [w12]
              refine g_callI (k := 9) [.int (iN (V 45 i)), .int (iN (V 45 j))] (met_X3_wayBetween (V := W) ha (V 45 i) (V 45 j) (by omega) (by omega) (by rw [q9]; exact hc) (by rw [q11]; exact hx) (by rw [q12]; exact hy)) vX5_60 ox_9 rfl rfl ⟨rfl, rfl, Nat.le_of_ble_eq_true rfl, Nat.le_of_ble_eq_true rfl⟩ rfl (Nat.le_of_ble_eq_true rfl) dX5_measure_85 rfl ?_
              rintro z9 V9 ⟨hz9, hV9⟩
              replace hV9 := hV9.symm
              subst hV9
              rw [q9, q11, q12] at hz9
              replace hz9 := hz9.symm
              subst hz9
              refine g_iast (48 + i) j (ax_Y (i := i) (by omega)) dX5_measure_88 rfl (by omega) ?_
              obtain ⟨V_6, eV_6⟩ : ∃ V9 : Mem, V9 = up W (48 + i) j (way (V 11) (V 12) (V 9 4) (V 45 i) (V 45 j)) := ⟨_, rfl⟩
              refine g_mem eV_6.symm ?_
              refine g_aload_n 1 dX5_measure_89 rfl rfl ?_
              refine g_getf 9 (.ref (a 13)) fX5_65 ox_9 dX5_measure_90 rfl ?_
              refine g_aload_n 0 dX5_measure_93 rfl rfl ?_
              refine g_getf 44 (.ref (a 45)) fX5_9 ox_44 dX5_measure_94 rfl ?_
              refine g_iload_n 3 dX5_measure_97 rfl rfl ?_
              refine g_iald 45 j ax_45 dX5_measure_98 rfl (by omega) ?_
              refine g_top (show _ = W 45 j from by rw [eV_6, up_ne (by omega)]) ?_
              refine g_top (show W 45 j = V 45 j from by rw [w45]) ?_
              refine g_iald 13 ((V 45 j).toNat) ax_13 dX5_measure_99 (by omega) (by omega) ?_
              refine g_top (show _ = W 13 ((V 45 j).toNat) from by rw [eV_6, up_ne (by omega)]) ?_
              refine g_top (show W 13 ((V 45 j).toNat) = V 13 ((V 45 j).toNat) from by rw [w13]) ?_
              refine g_aload_n 1 dX5_measure_100 rfl rfl ?_
              refine g_getf 9 (.ref (a 13)) fX5_65 ox_9 dX5_measure_101 rfl ?_
              refine g_aload_n 0 dX5_measure_104 rfl rfl ?_
              refine g_getf 44 (.ref (a 45)) fX5_9 ox_44 dX5_measure_105 rfl ?_
              refine g_iload_n 2 dX5_measure_108 rfl rfl ?_
              refine g_iald 45 i ax_45 dX5_measure_109 rfl (by omega) ?_
              refine g_top (show _ = W 45 i from by rw [eV_6, up_ne (by omega)]) ?_
              refine g_top (show W 45 i = V 45 i from by rw [w45]) ?_
              refine g_iald 13 ((V 45 i).toNat) ax_13 dX5_measure_110 (by omega) (by omega) ?_
              refine g_top (show _ = W 13 ((V 45 i).toNat) from by rw [eV_6, up_ne (by omega)]) ?_
              refine g_top (show W 13 ((V 45 i).toNat) = V 13 ((V 45 i).toNat) from by rw [w13]) ?_
              refine g_icmp_ge 126 dX5_measure_111 (by decide) (fun c_7 => ?_) (fun c_7 => ?_)
              · refine g_iinc 3 [(3, .int (iN ((j : Int) + 1))), (0, .ref (a 44)), (1, .ref (a 9)), (2, .int (iN (i : Int)))] dX5_measure_126 rfl (by decide) rfl ?_
                refine g_goto 57 dX5_measure_129 (by decide) ?_
                refine g_lv [1, 2, 3, 0] rfl ?_
                exact ih_57 (j + 1) V_6 lo (by omega) (by rw [eV_6]; exact (offP_up hoffW (by omega))) (by rw [eV_6]; exact (mRow_up (by omega) (by omega) hrowsW)) (by rw [eV_6, up_ne (by omega)]; exact hw6) (by rw [eV_6, up_ne (by omega)]; exact hw54) (fun j' hj' => by by_cases e : j' = j; (· rw [e, eV_6, up_eq]); (· rw [eV_6, up_ne (by omega)]; exact hds j' (by omega))) (by rw [eV_6, up_ne (by omega)]; exact hlo) hlo64 (fBitN hbit (by omega)) (by omega)
              · refine g_aload_n 0 dX5_measure_114 rfl rfl ?_
                refine g_getf 44 (.ref (a 46)) fX5_15 ox_44 dX5_measure_115 rfl ?_
                refine g_iload_n 2 dX5_measure_118 rfl rfl ?_
                refine g_dup2 dX5_measure_119 rfl rfl ?_
                refine g_iald 46 i ax_46 dX5_measure_120 rfl (by omega) ?_
                refine g_top (show _ = W 46 i from by rw [eV_6, up_ne (by omega)]) ?_
                refine g_top (show W 46 i = (lo : Int) from hlo) ?_
                refine g_iconst dX5_measure_121 ?_
                refine g_iload_n 3 dX5_measure_122 rfl rfl ?_
                refine g_ishl ((2 ^ j : Nat) : Int) dX5_measure_123 (iN_bit (by omega)) ?_
                refine g_ior ((lo ||| (2 ^ j) : Nat) : Int) dX5_measure_124 (iN_or _ _) ?_
                refine g_iast 46 i ax_46 dX5_measure_125 rfl (by omega) ?_
                obtain ⟨V_8, eV_8⟩ : ∃ V9 : Mem, V9 = up V_6 46 i ((lo ||| (2 ^ j) : Nat) : Int) := ⟨_, rfl⟩
                refine g_mem eV_8.symm ?_
                refine g_iinc 3 [(3, .int (iN ((j : Int) + 1))), (0, .ref (a 44)), (1, .ref (a 9)), (2, .int (iN (i : Int)))] dX5_measure_126 rfl (by decide) rfl ?_
                refine g_goto 57 dX5_measure_129 (by decide) ?_
                refine g_lv [1, 2, 3, 0] rfl ?_
                exact ih_57 (j + 1) V_8 (lo ||| 2 ^ j) (by omega) (by rw [eV_8, eV_6]; exact (offP_up (offP_up hoffW (by omega)) (by omega))) (by rw [eV_8, eV_6]; exact (mRow_up (by omega) (by omega) (mRow_up (by omega) (by omega) hrowsW))) (by rw [eV_8, up_ne (by omega), eV_6, up_ne (by omega)]; exact hw6) (by rw [eV_8, up_ne (by omega), eV_6, up_ne (by omega)]; exact hw54) (fun j' hj' => by by_cases e : j' = j; (· rw [e, eV_8, up_ne (by omega), eV_6, up_eq]); (· rw [eV_8, up_ne (by omega), eV_6, up_ne (by omega)]; exact hds j' (by omega))) (by rw [eV_8, up_eq]) (tOr_lt (sz := 6) hlo64 (by omega)) (fBit hbit rfl (by omega)) (by omega)
        refine g_lv [1, 2, 3, 0] rfl ?_
        exact lp_57 _ 0 V_4 0 (Nat.zero_le _) (by rw [eV_4, eV_3, eV_2]; exact (offP_up (offP_up (offP_up hoff (by omega)) (by omega)) (by omega))) (by rw [eV_4, eV_3, eV_2]; exact (mRow_up (by omega) (by omega) (mRow_up (by omega) (by omega) (mRow_up (by omega) (by omega) hrows)))) (by rw [eV_4, up_ne (by omega), eV_3, up_eq]) (by rw [eV_4]; exact up_eq) (fun j h => absurd h (Nat.not_lt_zero _)) (by rw [eV_4, up_ne (by omega), eV_3, up_ne (by omega), eV_2, up_eq]; rfl) (by omega) (fun k => by rw [Nat.zero_testBit]; exact (decide_eq_false (by omega)).symm) (Nat.lt_succ_self _)
  refine g_lv [1, 2, 0] rfl ?_
  exact lp_2 _ 0 V (Nat.zero_le _) (fun _ _ _ => rfl) (fun k h => absurd h (Nat.not_lt_zero _)) (Nat.lt_succ_self _)
