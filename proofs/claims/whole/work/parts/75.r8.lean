set_option maxHeartbeats 4000000 in
/-- size(v) -/
theorem met_X7_size {l : Launch} {D : va_G} {τ : Nat → ClassId} {a : Nat → Nat} (ha : Apart (LM τ) a) {V : Mem} (v : Int) (hv : -1000000000 ≤ v ∧ v ≤ 1000000000) : CL l D (tysL τ) (LM τ) a yX7_size mX7_size [.long (jN v)] V (fun z V' => z = zabs v ∧ V' = V) := by
  refine CL.of (by decide +kernel) rfl (Nat.le_of_ble_eq_true rfl) ha (fun x hq => ?_)
  show G l D (tysL τ) (LM τ) a mX7_size x 0 [(0, .long (jN v))] [] V
  refine g_lload_n 0 dX7_size_0 rfl rfl ?_
  refine g_lconst 0 dX7_size_1 rfl ?_
  refine g_lcmp (cmpz v 0) dX7_size_2 (cmpz_j (by omega) (by omega)) ?_
  have hcmp_1 := cmpz_c v 0
  refine g_if_ge 12 dX7_size_3 (by decide) (fun c_2 => ?_) (fun c_2 => ?_)
  · refine g_lload_n 0 dX7_size_12 rfl rfl ?_
    exact g_lret hq rfl dX7_size_13 (⟨by unfold zabs; rw [if_pos (by omega)], rfl⟩)
  · refine g_lconst 0 dX7_size_6 rfl ?_
    refine g_lload_n 0 dX7_size_7 rfl rfl ?_
    refine g_lsub dX7_size_8 ?_
    refine g_goto 13 dX7_size_9 (by decide) ?_
    exact g_lret hq rfl dX7_size_13 (⟨by unfold zabs; rw [if_neg (by omega)]; omega, rfl⟩)

set_option maxHeartbeats 4000000 in
/-- greater(u, v) -/
theorem met_X7_greater {l : Launch} {D : va_G} {τ : Nat → ClassId} {a : Nat → Nat} (ha : Apart (LM τ) a) {V : Mem} (u v : Int) (hu : -9223372036854775808 ≤ u ∧ u ≤ 9223372036854775807) (hv : -9223372036854775808 ≤ v ∧ v ≤ 9223372036854775807) : CL l D (tysL τ) (LM τ) a yX7_greater mX7_greater [.long (jN u), .long (jN v)] V (fun z V' => z = max u v ∧ V' = V) := by
  refine CL.of (by decide +kernel) rfl (Nat.le_of_ble_eq_true rfl) ha (fun x hq => ?_)
  show G l D (tysL τ) (LM τ) a mX7_greater x 0 [(0, .long (jN u)), (2, .long (jN v))] [] V
  refine g_lload_n 0 dX7_greater_0 rfl rfl ?_
  refine g_lload_n 1 dX7_greater_1 rfl rfl ?_
  refine g_lcmp (cmpz u v) dX7_greater_2 (cmpz_j (by omega) (by omega)) ?_
  have hcmp_1 := cmpz_c u v
  refine g_if_le 10 dX7_greater_3 (by decide) (fun c_2 => ?_) (fun c_2 => ?_)
  · refine g_lload_n 1 dX7_greater_10 rfl rfl ?_
    exact g_lret hq rfl dX7_greater_11 (⟨by omega, rfl⟩)
  · refine g_lload_n 0 dX7_greater_6 rfl rfl ?_
    refine g_goto 11 dX7_greater_7 (by decide) ?_
    exact g_lret hq rfl dX7_greater_11 (⟨by omega, rfl⟩)

set_option maxHeartbeats 4000000 in
/-- fromHome(p) -/
theorem met_X7_fromHome {l : Launch} {D : va_G} {τ : Nat → ClassId} {a : Nat → Nat} (ha : Apart (LM τ) a) {V : Mem} (p : Nat) (hp : (p : Int) < V 0 10) (hx : ∀ p, p < 40 → 0 ≤ V 8 p ∧ V 8 p ≤ 100000) (hy : ∀ p, p < 40 → 0 ≤ V 9 p ∧ V 9 p ≤ 100000) (hn40 : V 0 10 ≤ 40) : CL l D (tysL τ) (LM τ) a yX7_fromHome mX7_fromHome [.ref (a 0), .int (iN (p : Int))] V (fun z V' => z = way (V 8) (V 9) (V 0 10) (p : Int) (-1) ∧ V' = V) := by
  refine CL.of (by decide +kernel) rfl (Nat.le_of_ble_eq_true rfl) ha (fun x hq => ?_)
  show G l D (tysL τ) (LM τ) a mX7_fromHome x 0 [(0, .ref (a 0)), (1, .int (iN (p : Int)))] [] V
  have h1 := hx p (by omega)
  have h2 := hy p (by omega)
  refine g_aload_n 0 dX7_fromHome_0 rfl rfl ?_
  refine g_getf 0 (.ref (a 8)) fX7_32 om_0 dX7_fromHome_1 rfl ?_
  refine g_iload_n 1 dX7_fromHome_4 rfl rfl ?_
  refine g_lald 8 p am_8 dX7_fromHome_5 rfl (by omega) ?_
  refine g_aload_n 0 dX7_fromHome_6 rfl rfl ?_
  refine g_getf 0 (.ref (a 9)) fX7_35 om_0 dX7_fromHome_7 rfl ?_
  refine g_iload_n 1 dX7_fromHome_10 rfl rfl ?_
  refine g_lald 9 p am_9 dX7_fromHome_11 rfl (by omega) ?_
  refine g_callSL [.long (jN (V 8 p)), .long (jN (V 9 p))] (met_X7_greater ha (V 8 p) (V 9 p) (by omega) (by omega)) vX7_142 ⟨rfl, rfl, Nat.le_of_ble_eq_true rfl, Nat.le_of_ble_eq_true rfl⟩ rfl (Nat.le_of_ble_eq_true rfl) dX7_fromHome_12 rfl ?_
  rintro z9 V9 ⟨hz9, hV9⟩
  replace hz9 := hz9.symm
  replace hV9 := hV9.symm
  subst hz9
  subst hV9
  exact g_lret hq rfl dX7_fromHome_15 (⟨(way_hm hp h1.1 h2.1).symm, rfl⟩)

set_option maxHeartbeats 4000000 in
/-- between(p, q) -/
theorem met_X7_between {l : Launch} {D : va_G} {τ : Nat → ClassId} {a : Nat → Nat} (ha : Apart (LM τ) a) {V : Mem} (p q : Nat) (hp : (p : Int) < V 0 10) (hq0 : (q : Int) < V 0 10) (hx : ∀ p, p < 40 → 0 ≤ V 8 p ∧ V 8 p ≤ 100000) (hy : ∀ p, p < 40 → 0 ≤ V 9 p ∧ V 9 p ≤ 100000) (hn40 : V 0 10 ≤ 40) : CL l D (tysL τ) (LM τ) a yX7_between mX7_between [.ref (a 0), .int (iN (p : Int)), .int (iN (q : Int))] V (fun z V' => z = way (V 8) (V 9) (V 0 10) (p : Int) (q : Int) ∧ V' = V) := by
  refine CL.of (by decide +kernel) rfl (Nat.le_of_ble_eq_true rfl) ha (fun x hq => ?_)
  show G l D (tysL τ) (LM τ) a mX7_between x 0 [(0, .ref (a 0)), (1, .int (iN (p : Int))), (2, .int (iN (q : Int)))] [] V
  have h1 := hx p (by omega)
  have h2 := hy p (by omega)
  have h3 := hx q (by omega)
  have h4 := hy q (by omega)
  refine g_aload_n 0 dX7_between_0 rfl rfl ?_
  refine g_getf 0 (.ref (a 8)) fX7_32 om_0 dX7_between_1 rfl ?_
  refine g_iload_n 1 dX7_between_4 rfl rfl ?_
  refine g_lald 8 p am_8 dX7_between_5 rfl (by omega) ?_
  refine g_aload_n 0 dX7_between_6 rfl rfl ?_
  refine g_getf 0 (.ref (a 8)) fX7_32 om_0 dX7_between_7 rfl ?_
  refine g_iload_n 2 dX7_between_10 rfl rfl ?_
  refine g_lald 8 q am_8 dX7_between_11 rfl (by omega) ?_
  refine g_lsub dX7_between_12 ?_
  have hz_0 : 0 ≤ zabs ((V 8 p) - (V 8 q)) ∧ zabs ((V 8 p) - (V 8 q)) ≤ 100000 := by unfold zabs; split <;> omega
  refine g_callSL [.long (jN ((V 8 p) - (V 8 q)))] (met_X7_size ha ((V 8 p) - (V 8 q)) (by omega)) vX7_146 ⟨rfl, rfl, Nat.le_of_ble_eq_true rfl, Nat.le_of_ble_eq_true rfl⟩ rfl (Nat.le_of_ble_eq_true rfl) dX7_between_13 rfl ?_
  rintro z9 V9 ⟨hz9, hV9⟩
  replace hz9 := hz9.symm
  replace hV9 := hV9.symm
  subst hz9
  subst hV9
  refine g_aload_n 0 dX7_between_16 rfl rfl ?_
  refine g_getf 0 (.ref (a 9)) fX7_35 om_0 dX7_between_17 rfl ?_
  refine g_iload_n 1 dX7_between_20 rfl rfl ?_
  refine g_lald 9 p am_9 dX7_between_21 rfl (by omega) ?_
  refine g_aload_n 0 dX7_between_22 rfl rfl ?_
  refine g_getf 0 (.ref (a 9)) fX7_35 om_0 dX7_between_23 rfl ?_
  refine g_iload_n 2 dX7_between_26 rfl rfl ?_
  refine g_lald 9 q am_9 dX7_between_27 rfl (by omega) ?_
  refine g_lsub dX7_between_28 ?_
  have hz_1 : 0 ≤ zabs ((V 9 p) - (V 9 q)) ∧ zabs ((V 9 p) - (V 9 q)) ≤ 100000 := by unfold zabs; split <;> omega
  refine g_callSL [.long (jN ((V 9 p) - (V 9 q)))] (met_X7_size ha ((V 9 p) - (V 9 q)) (by omega)) vX7_146 ⟨rfl, rfl, Nat.le_of_ble_eq_true rfl, Nat.le_of_ble_eq_true rfl⟩ rfl (Nat.le_of_ble_eq_true rfl) dX7_between_29 rfl ?_
  rintro z9 V9 ⟨hz9, hV9⟩
  replace hz9 := hz9.symm
  replace hV9 := hV9.symm
  subst hz9
  subst hV9
  refine g_callSL [.long (jN (zabs ((V 8 p) - (V 8 q)))), .long (jN (zabs ((V 9 p) - (V 9 q))))] (met_X7_greater ha (zabs ((V 8 p) - (V 8 q))) (zabs ((V 9 p) - (V 9 q))) (by omega) (by omega)) vX7_142 ⟨rfl, rfl, Nat.le_of_ble_eq_true rfl, Nat.le_of_ble_eq_true rfl⟩ rfl (Nat.le_of_ble_eq_true rfl) dX7_between_32 rfl ?_
  rintro z9 V9 ⟨hz9, hV9⟩
  replace hz9 := hz9.symm
  replace hV9 := hV9.symm
  subst hz9
  subst hV9
  exact g_lret hq rfl dX7_between_35 (⟨(way_bt hp hq0).symm, rfl⟩)

set_option maxHeartbeats 4000000 in
/-- mayCome(s, i) -/
theorem met_X7_mayCome {l : Launch} {D : va_G} {τ : Nat → ClassId} {a : Nat → Nat} (ha : Apart (LM τ) a) {V : Mem} (s i : Nat) (sz : Nat) (hsz : V 0 25 = (sz : Int)) (hsz6 : sz ≤ 6) (hs : s < 64) (hi : i < sz) (htr : ∀ j, j < sz → 0 ≤ V 19 j ∧ V 19 j < V 0 10) (hn40 : V 0 10 ≤ 40) (hh0 : ∀ p, p < 40 → 0 ≤ V 10 p ∧ V 10 p ≤ 10000) : CI l D (tysL τ) (LM τ) a yX7_mayCome mX7_mayCome [.ref (a 0), .int (iN (s : Int)), .int (iN (i : Int))] V (fun z V' => ((z = 1 ∧ tFol sz (fun j => V 10 (V 19 j).toNat) s i) ∨ (z = 0 ∧ ¬ tFol sz (fun j => V 10 (V 19 j).toNat) s i)) ∧ V' = V) := by
  refine CI.of (by decide +kernel) rfl (Nat.le_of_ble_eq_true rfl) ha (fun x hq => ?_)
  show G l D (tysL τ) (LM τ) a mX7_mayCome x 0 [(0, .ref (a 0)), (1, .int (iN (s : Int))), (2, .int (iN (i : Int)))] [] V
  have hlt : s / 2 ^ i ≤ s := Nat.div_le_self _ _
  have t1 := htr i hi
  have t2 := hh0 (V 19 i).toNat (by omega)
  refine g_iload_n 1 dX7_mayCome_0 rfl rfl ?_
  refine g_iload_n 2 dX7_mayCome_1 rfl rfl ?_
  refine g_ishr ((s / 2 ^ i : Nat) : Int) dX7_mayCome_2 (iN_shr (by omega) (by omega)) ?_
  refine g_iconst dX7_mayCome_3 ?_
  refine g_iand (((s / 2 ^ i) % 2 : Nat) : Int) dX7_mayCome_4 (iN_and1 _) ?_
  refine g_if_ne 12 dX7_mayCome_5 (by decide) (fun c_1 => ?_) (fun c_1 => ?_)
  · refine g_iconst dX7_mayCome_12 ?_
    refine g_istore_n [(3, .int (iN 0)), (0, .ref (a 0)), (1, .int (iN (s : Int))), (2, .int (iN (i : Int)))] dX7_mayCome_13 rfl (by decide) rfl ?_
    refine g_iconst dX7_mayCome_14 ?_
    refine g_istore [(4, .int (iN 0)), (3, .int (iN 0)), (0, .ref (a 0)), (1, .int (iN (s : Int))), (2, .int (iN (i : Int)))] dX7_mayCome_15 (by decide) rfl ?_
    have lp_17 : ∀ (fuel : Nat) (k : Nat) (b : Int), (k ≤ sz) → ((b = 1 ∧ s.testBit i = false ∧ ∀ j, j < k → (fun j => V 10 (V 19 j).toNat) j < (fun j => V 10 (V 19 j).toNat) i → s.testBit j = true) ∨ (b = 0 ∧ ¬ tFol sz (fun j => V 10 (V 19 j).toNat) s i)) → (sz - k) < fuel → G l D (tysL τ) (LM τ) a mX7_mayCome x 17 [(0, .ref (a 0)), (1, .int (iN (s : Int))), (2, .int (iN (i : Int))), (3, .int (iN b)), (4, .int (iN (k : Int)))] [] V := by
      intro fuel
      induction fuel with
      | zero => intro k b hk hh hfu; exact absurd hfu (Nat.not_lt_zero _)
      | succ fuel ih_17 =>
        intro k b hk hh hfu
        have t3 := htr k
        have t4 := hh0 (V 19 k).toNat
        have hltk : s / 2 ^ k ≤ s := Nat.div_le_self _ _
        refine g_iload 4 dX7_mayCome_17 rfl ?_
        refine g_aload_n 0 dX7_mayCome_19 rfl rfl ?_
        refine g_getf 0 (.int (iN (V 0 25))) fX7_150 om_0 dX7_mayCome_20 rfl ?_
        refine g_top (show V 0 25 = (sz : Int) from hsz) ?_
        refine g_icmp_ge 79 dX7_mayCome_23 (by decide) (fun c_2 => ?_) (fun c_2 => ?_)
        · refine g_iload_n 3 dX7_mayCome_79 rfl rfl ?_
          replace hh : (b = 1 ∧ tFol sz (fun j => V 10 (V 19 j).toNat) s i) ∨ (b = 0 ∧ ¬ tFol sz (fun j => V 10 (V 19 j).toNat) s i) := by
            rcases hh with q | q
            · exact Or.inl ⟨q.1, hi, q.2.1, fun j hj hl => q.2.2 j (by omega) hl⟩
            · exact Or.inr q
          rcases (show b = 1 ∨ b = 0 by rcases hh with h | h <;> omega) with hb9 | hb9
          · subst hb9
            exact g_iret hq rfl rfl dX7_mayCome_80 (⟨hh, rfl⟩)
          · subst hb9
            exact g_iret hq rfl rfl dX7_mayCome_80 (⟨hh, rfl⟩)
        · refine g_iload_n 3 dX7_mayCome_26 rfl rfl ?_
          refine g_if_eq 71 dX7_mayCome_27 (by decide) (fun c_3 => ?_) (fun c_3 => ?_)
          · refine g_iconst dX7_mayCome_71 ?_
            refine g_istore_n [(3, .int (iN 0)), (0, .ref (a 0)), (1, .int (iN (s : Int))), (2, .int (iN (i : Int))), (4, .int (iN (k : Int)))] dX7_mayCome_72 rfl (by decide) rfl ?_
            refine g_iinc 4 [(4, .int (iN ((k : Int) + 1))), (3, .int (iN 0)), (0, .ref (a 0)), (1, .int (iN (s : Int))), (2, .int (iN (i : Int)))] dX7_mayCome_73 rfl (by decide) rfl ?_
            refine g_goto 17 dX7_mayCome_76 (by decide) ?_
            refine g_lv [2, 3, 4, 1, 0] rfl ?_
            exact ih_17 (k + 1) 0 (by omega) (Or.inr ⟨rfl, fun hF => by
                rcases hh with h | h
                · have := (tb_iff s k).mp (hF.2.2 k (by omega) (by dsimp only; omega))
                  omega
                · exact h.2 hF⟩) (by omega)
          · refine g_iload_n 1 dX7_mayCome_30 rfl rfl ?_
            refine g_iload 4 dX7_mayCome_31 rfl ?_
            refine g_ishr ((s / 2 ^ k : Nat) : Int) dX7_mayCome_33 (iN_shr (by omega) (by omega)) ?_
            refine g_iconst dX7_mayCome_34 ?_
            refine g_iand (((s / 2 ^ k) % 2 : Nat) : Int) dX7_mayCome_35 (iN_and1 _) ?_
            refine g_iconst dX7_mayCome_36 ?_
            refine g_icmp_eq 67 dX7_mayCome_37 (by decide) (fun c_4 => ?_) (fun c_4 => ?_)
            · refine g_iconst dX7_mayCome_67 ?_
              refine g_goto 72 dX7_mayCome_68 (by decide) ?_
              refine g_istore_n [(3, .int (iN 1)), (0, .ref (a 0)), (1, .int (iN (s : Int))), (2, .int (iN (i : Int))), (4, .int (iN (k : Int)))] dX7_mayCome_72 rfl (by decide) rfl ?_
              refine g_iinc 4 [(4, .int (iN ((k : Int) + 1))), (3, .int (iN 1)), (0, .ref (a 0)), (1, .int (iN (s : Int))), (2, .int (iN (i : Int)))] dX7_mayCome_73 rfl (by decide) rfl ?_
              refine g_goto 17 dX7_mayCome_76 (by decide) ?_
              refine g_lv [2, 3, 4, 1, 0] rfl ?_
              exact ih_17 (k + 1) 1 (by omega) (Or.inl ⟨rfl, by rcases hh with h | h; (· exact h.2.1); (· omega), fun j hj hlt => by
                  by_cases e : j = k
                  · subst e; rw [tb_iff]; dsimp only at hlt; omega
                  · rcases hh with h | h; (· exact h.2.2 j (by omega) hlt); (· omega)⟩) (by omega)
            · refine g_aload_n 0 dX7_mayCome_40 rfl rfl ?_
              refine g_getf 0 (.ref (a 10)) fX7_38 om_0 dX7_mayCome_41 rfl ?_
              refine g_aload_n 0 dX7_mayCome_44 rfl rfl ?_
              refine g_getf 0 (.ref (a 19)) fX7_66 om_0 dX7_mayCome_45 rfl ?_
              refine g_iload 4 dX7_mayCome_48 rfl ?_
              refine g_iald 19 k am_19 dX7_mayCome_50 rfl (by omega) ?_
              refine g_top (show V 19 k = (((V 19 k).toNat : Nat) : Int) from by omega) ?_
              refine g_lald 10 ((V 19 k).toNat) am_10 dX7_mayCome_51 rfl (by omega) ?_
              refine g_aload_n 0 dX7_mayCome_52 rfl rfl ?_
              refine g_getf 0 (.ref (a 10)) fX7_38 om_0 dX7_mayCome_53 rfl ?_
              refine g_aload_n 0 dX7_mayCome_56 rfl rfl ?_
              refine g_getf 0 (.ref (a 19)) fX7_66 om_0 dX7_mayCome_57 rfl ?_
              refine g_iload_n 2 dX7_mayCome_60 rfl rfl ?_
              refine g_iald 19 i am_19 dX7_mayCome_61 rfl (by omega) ?_
              refine g_top (show V 19 i = (((V 19 i).toNat : Nat) : Int) from by omega) ?_
              refine g_lald 10 ((V 19 i).toNat) am_10 dX7_mayCome_62 rfl (by omega) ?_
              refine g_lcmp (cmpz (V 10 ((V 19 k).toNat)) (V 10 ((V 19 i).toNat))) dX7_mayCome_63 (cmpz_j (by omega) (by omega)) ?_
              have hcmp_5 := cmpz_c (V 10 ((V 19 k).toNat)) (V 10 ((V 19 i).toNat))
              refine g_if_lt 71 dX7_mayCome_64 (by decide) (fun c_6 => ?_) (fun c_6 => ?_)
              · refine g_iconst dX7_mayCome_71 ?_
                refine g_istore_n [(3, .int (iN 0)), (0, .ref (a 0)), (1, .int (iN (s : Int))), (2, .int (iN (i : Int))), (4, .int (iN (k : Int)))] dX7_mayCome_72 rfl (by decide) rfl ?_
                refine g_iinc 4 [(4, .int (iN ((k : Int) + 1))), (3, .int (iN 0)), (0, .ref (a 0)), (1, .int (iN (s : Int))), (2, .int (iN (i : Int)))] dX7_mayCome_73 rfl (by decide) rfl ?_
                refine g_goto 17 dX7_mayCome_76 (by decide) ?_
                refine g_lv [2, 3, 4, 1, 0] rfl ?_
                exact ih_17 (k + 1) 0 (by omega) (Or.inr ⟨rfl, fun hF => by
                    rcases hh with h | h
                    · have := (tb_iff s k).mp (hF.2.2 k (by omega) (by dsimp only; omega))
                      omega
                    · exact h.2 hF⟩) (by omega)
              · refine g_iconst dX7_mayCome_67 ?_
                refine g_goto 72 dX7_mayCome_68 (by decide) ?_
                refine g_istore_n [(3, .int (iN 1)), (0, .ref (a 0)), (1, .int (iN (s : Int))), (2, .int (iN (i : Int))), (4, .int (iN (k : Int)))] dX7_mayCome_72 rfl (by decide) rfl ?_
                refine g_iinc 4 [(4, .int (iN ((k : Int) + 1))), (3, .int (iN 1)), (0, .ref (a 0)), (1, .int (iN (s : Int))), (2, .int (iN (i : Int)))] dX7_mayCome_73 rfl (by decide) rfl ?_
                refine g_goto 17 dX7_mayCome_76 (by decide) ?_
                refine g_lv [2, 3, 4, 1, 0] rfl ?_
                exact ih_17 (k + 1) 1 (by omega) (Or.inl ⟨rfl, by rcases hh with h | h; (· exact h.2.1); (· omega), fun j hj hlt => by
                    by_cases e : j = k
                    · subst e; rw [tb_iff]; dsimp only at hlt; omega
                    · rcases hh with h | h; (· exact h.2.2 j (by omega) hlt); (· omega)⟩) (by omega)
    refine g_lv [2, 3, 4, 1, 0] rfl ?_
    exact lp_17 _ 0 0 (by omega) (Or.inr ⟨rfl, fun hF => by have := (tb_not s i).mp hF.2.1; omega⟩) (Nat.lt_succ_self _)
  · refine g_iconst dX7_mayCome_8 ?_
    refine g_goto 13 dX7_mayCome_9 (by decide) ?_
    refine g_istore_n [(3, .int (iN 1)), (0, .ref (a 0)), (1, .int (iN (s : Int))), (2, .int (iN (i : Int)))] dX7_mayCome_13 rfl (by decide) rfl ?_
    refine g_iconst dX7_mayCome_14 ?_
    refine g_istore [(4, .int (iN 0)), (3, .int (iN 1)), (0, .ref (a 0)), (1, .int (iN (s : Int))), (2, .int (iN (i : Int)))] dX7_mayCome_15 (by decide) rfl ?_
    have lp_17 : ∀ (fuel : Nat) (k : Nat) (b : Int), (k ≤ sz) → ((b = 1 ∧ s.testBit i = false ∧ ∀ j, j < k → (fun j => V 10 (V 19 j).toNat) j < (fun j => V 10 (V 19 j).toNat) i → s.testBit j = true) ∨ (b = 0 ∧ ¬ tFol sz (fun j => V 10 (V 19 j).toNat) s i)) → (sz - k) < fuel → G l D (tysL τ) (LM τ) a mX7_mayCome x 17 [(0, .ref (a 0)), (1, .int (iN (s : Int))), (2, .int (iN (i : Int))), (3, .int (iN b)), (4, .int (iN (k : Int)))] [] V := by
      intro fuel
      induction fuel with
      | zero => intro k b hk hh hfu; exact absurd hfu (Nat.not_lt_zero _)
      | succ fuel ih_17 =>
        intro k b hk hh hfu
        have t3 := htr k
        have t4 := hh0 (V 19 k).toNat
        have hltk : s / 2 ^ k ≤ s := Nat.div_le_self _ _
        refine g_iload 4 dX7_mayCome_17 rfl ?_
        refine g_aload_n 0 dX7_mayCome_19 rfl rfl ?_
        refine g_getf 0 (.int (iN (V 0 25))) fX7_150 om_0 dX7_mayCome_20 rfl ?_
        refine g_top (show V 0 25 = (sz : Int) from hsz) ?_
        refine g_icmp_ge 79 dX7_mayCome_23 (by decide) (fun c_7 => ?_) (fun c_7 => ?_)
        · refine g_iload_n 3 dX7_mayCome_79 rfl rfl ?_
          replace hh : (b = 1 ∧ tFol sz (fun j => V 10 (V 19 j).toNat) s i) ∨ (b = 0 ∧ ¬ tFol sz (fun j => V 10 (V 19 j).toNat) s i) := by
            rcases hh with q | q
            · exact Or.inl ⟨q.1, hi, q.2.1, fun j hj hl => q.2.2 j (by omega) hl⟩
            · exact Or.inr q
          rcases (show b = 1 ∨ b = 0 by rcases hh with h | h <;> omega) with hb9 | hb9
          · subst hb9
            exact g_iret hq rfl rfl dX7_mayCome_80 (⟨hh, rfl⟩)
          · subst hb9
            exact g_iret hq rfl rfl dX7_mayCome_80 (⟨hh, rfl⟩)
        · refine g_iload_n 3 dX7_mayCome_26 rfl rfl ?_
          refine g_if_eq 71 dX7_mayCome_27 (by decide) (fun c_8 => ?_) (fun c_8 => ?_)
          · refine g_iconst dX7_mayCome_71 ?_
            refine g_istore_n [(3, .int (iN 0)), (0, .ref (a 0)), (1, .int (iN (s : Int))), (2, .int (iN (i : Int))), (4, .int (iN (k : Int)))] dX7_mayCome_72 rfl (by decide) rfl ?_
            refine g_iinc 4 [(4, .int (iN ((k : Int) + 1))), (3, .int (iN 0)), (0, .ref (a 0)), (1, .int (iN (s : Int))), (2, .int (iN (i : Int)))] dX7_mayCome_73 rfl (by decide) rfl ?_
            refine g_goto 17 dX7_mayCome_76 (by decide) ?_
            refine g_lv [2, 3, 4, 1, 0] rfl ?_
            exact ih_17 (k + 1) 0 (by omega) (Or.inr ⟨rfl, fun hF => by
                rcases hh with h | h
                · have := (tb_iff s k).mp (hF.2.2 k (by omega) (by dsimp only; omega))
                  omega
                · exact h.2 hF⟩) (by omega)
          · refine g_iload_n 1 dX7_mayCome_30 rfl rfl ?_
            refine g_iload 4 dX7_mayCome_31 rfl ?_
            refine g_ishr ((s / 2 ^ k : Nat) : Int) dX7_mayCome_33 (iN_shr (by omega) (by omega)) ?_
            refine g_iconst dX7_mayCome_34 ?_
            refine g_iand (((s / 2 ^ k) % 2 : Nat) : Int) dX7_mayCome_35 (iN_and1 _) ?_
            refine g_iconst dX7_mayCome_36 ?_
            refine g_icmp_eq 67 dX7_mayCome_37 (by decide) (fun c_9 => ?_) (fun c_9 => ?_)
            · refine g_iconst dX7_mayCome_67 ?_
              refine g_goto 72 dX7_mayCome_68 (by decide) ?_
              refine g_istore_n [(3, .int (iN 1)), (0, .ref (a 0)), (1, .int (iN (s : Int))), (2, .int (iN (i : Int))), (4, .int (iN (k : Int)))] dX7_mayCome_72 rfl (by decide) rfl ?_
              refine g_iinc 4 [(4, .int (iN ((k : Int) + 1))), (3, .int (iN 1)), (0, .ref (a 0)), (1, .int (iN (s : Int))), (2, .int (iN (i : Int)))] dX7_mayCome_73 rfl (by decide) rfl ?_
              refine g_goto 17 dX7_mayCome_76 (by decide) ?_
              refine g_lv [2, 3, 4, 1, 0] rfl ?_
              exact ih_17 (k + 1) 1 (by omega) (Or.inl ⟨rfl, by rcases hh with h | h; (· exact h.2.1); (· omega), fun j hj hlt => by
                  by_cases e : j = k
                  · subst e; rw [tb_iff]; dsimp only at hlt; omega
                  · rcases hh with h | h; (· exact h.2.2 j (by omega) hlt); (· omega)⟩) (by omega)
            · refine g_aload_n 0 dX7_mayCome_40 rfl rfl ?_
              refine g_getf 0 (.ref (a 10)) fX7_38 om_0 dX7_mayCome_41 rfl ?_
              refine g_aload_n 0 dX7_mayCome_44 rfl rfl ?_
              refine g_getf 0 (.ref (a 19)) fX7_66 om_0 dX7_mayCome_45 rfl ?_
              refine g_iload 4 dX7_mayCome_48 rfl ?_
              refine g_iald 19 k am_19 dX7_mayCome_50 rfl (by omega) ?_
              refine g_top (show V 19 k = (((V 19 k).toNat : Nat) : Int) from by omega) ?_
              refine g_lald 10 ((V 19 k).toNat) am_10 dX7_mayCome_51 rfl (by omega) ?_
              refine g_aload_n 0 dX7_mayCome_52 rfl rfl ?_
              refine g_getf 0 (.ref (a 10)) fX7_38 om_0 dX7_mayCome_53 rfl ?_
              refine g_aload_n 0 dX7_mayCome_56 rfl rfl ?_
              refine g_getf 0 (.ref (a 19)) fX7_66 om_0 dX7_mayCome_57 rfl ?_
              refine g_iload_n 2 dX7_mayCome_60 rfl rfl ?_
              refine g_iald 19 i am_19 dX7_mayCome_61 rfl (by omega) ?_
              refine g_top (show V 19 i = (((V 19 i).toNat : Nat) : Int) from by omega) ?_
              refine g_lald 10 ((V 19 i).toNat) am_10 dX7_mayCome_62 rfl (by omega) ?_
              refine g_lcmp (cmpz (V 10 ((V 19 k).toNat)) (V 10 ((V 19 i).toNat))) dX7_mayCome_63 (cmpz_j (by omega) (by omega)) ?_
              have hcmp_10 := cmpz_c (V 10 ((V 19 k).toNat)) (V 10 ((V 19 i).toNat))
              refine g_if_lt 71 dX7_mayCome_64 (by decide) (fun c_11 => ?_) (fun c_11 => ?_)
              · refine g_iconst dX7_mayCome_71 ?_
                refine g_istore_n [(3, .int (iN 0)), (0, .ref (a 0)), (1, .int (iN (s : Int))), (2, .int (iN (i : Int))), (4, .int (iN (k : Int)))] dX7_mayCome_72 rfl (by decide) rfl ?_
                refine g_iinc 4 [(4, .int (iN ((k : Int) + 1))), (3, .int (iN 0)), (0, .ref (a 0)), (1, .int (iN (s : Int))), (2, .int (iN (i : Int)))] dX7_mayCome_73 rfl (by decide) rfl ?_
                refine g_goto 17 dX7_mayCome_76 (by decide) ?_
                refine g_lv [2, 3, 4, 1, 0] rfl ?_
                exact ih_17 (k + 1) 0 (by omega) (Or.inr ⟨rfl, fun hF => by
                    rcases hh with h | h
                    · have := (tb_iff s k).mp (hF.2.2 k (by omega) (by dsimp only; omega))
                      omega
                    · exact h.2 hF⟩) (by omega)
              · refine g_iconst dX7_mayCome_67 ?_
                refine g_goto 72 dX7_mayCome_68 (by decide) ?_
                refine g_istore_n [(3, .int (iN 1)), (0, .ref (a 0)), (1, .int (iN (s : Int))), (2, .int (iN (i : Int))), (4, .int (iN (k : Int)))] dX7_mayCome_72 rfl (by decide) rfl ?_
                refine g_iinc 4 [(4, .int (iN ((k : Int) + 1))), (3, .int (iN 1)), (0, .ref (a 0)), (1, .int (iN (s : Int))), (2, .int (iN (i : Int)))] dX7_mayCome_73 rfl (by decide) rfl ?_
                refine g_goto 17 dX7_mayCome_76 (by decide) ?_
                refine g_lv [2, 3, 4, 1, 0] rfl ?_
                exact ih_17 (k + 1) 1 (by omega) (Or.inl ⟨rfl, by rcases hh with h | h; (· exact h.2.1); (· omega), fun j hj hlt => by
                    by_cases e : j = k
                    · subst e; rw [tb_iff]; dsimp only at hlt; omega
                    · rcases hh with h | h; (· exact h.2.2 j (by omega) hlt); (· omega)⟩) (by omega)
    refine g_lv [2, 3, 4, 1, 0] rfl ?_
    exact lp_17 _ 0 1 (by omega) (Or.inl ⟨rfl, by rw [tb_not]; omega, fun j h => absurd h (Nat.not_lt_zero _)⟩) (Nat.lt_succ_self _)

theorem mnI_if1 {P : Nat → Prop} {c : Nat → Int} {a b : Int} {q : Prop} [Decidable q] (h : q) : mnI P c (if q then a else b) 0 a (-1) := by rw [if_pos h]; exact mnI_0
theorem mnI_if2 {P : Nat → Prop} {c : Nat → Int} {a b : Int} {q : Prop} [Decidable q] (h : ¬ q) : mnI P c (if q then a else b) 0 b (-1) := by rw [if_neg h]; exact mnI_0
theorem fol_all {sz : Nat} {hg : Nat → Int} {i : Nat} : ¬ tFol sz hg (2 ^ sz - 1) i := fun h => by
  have h1 := h.2.1
  rw [Nat.testBit_two_pow_sub_one, decide_eq_false_iff_not] at h1
  exact h1 h.1
theorem fol_ex {sz s : Nat} {hg : Nat → Int} (hs : s < 2 ^ sz) (h : ¬ s = 2 ^ sz - 1) : ∃ i, tFol sz hg s i := by
  apply tFol_some
  apply Classical.byContradiction
  intro hn
  apply h
  apply Nat.eq_of_testBit_eq
  intro i
  rw [Nat.testBit_two_pow_sub_one]
  by_cases hi : i < sz
  · rw [decide_eq_true hi]
    cases e : s.testBit i
    · exact absurd ⟨i, hi, e⟩ hn
    · rfl
  · rw [decide_eq_false hi]
    exact Nat.testBit_lt_two_pow (Nat.lt_of_lt_of_le hs (Nat.pow_le_pow_right (by omega) (by omega)))
set_option maxHeartbeats 4000000 in
/-- measure() -/
theorem met_X7_measure {l : Launch} {D : va_G} {τ : Nat → ClassId} {a : Nat → Nat} (ha : Apart (LM τ) a) {V : Mem} (sz : Nat) (hsz : V 0 25 = (sz : Int)) (hsz6 : sz ≤ 6) (htr : ∀ j, j < sz → 0 ≤ V 19 j ∧ V 19 j < V 0 10) (hn40 : V 0 10 ≤ 40) (hh0 : ∀ p, p < 40 → 0 ≤ V 10 p ∧ V 10 p ≤ 10000) (hx : ∀ p, p < 40 → 0 ≤ V 8 p ∧ V 8 p ≤ 100000) (hy : ∀ p, p < 40 → 0 ≤ V 9 p ∧ V 9 p ≤ 100000) : CV l D (tysL τ) (LM τ) a yX7_measure mX7_measure [.ref (a 0)] V (fun V' => (∀ c, c ≠ 20 → V' c = V c) ∧ ∀ set last, set < 2 ^ sz → last < sz → set.testBit last = true → tAt sz (fun j => V 10 (V 19 j).toNat) (fun i j => way (V 8) (V 9) (V 0 10) (V 19 i) (V 19 j)) (fun i => way (V 8) (V 9) (V 0 10) (V 19 i) (-1)) (wA V') set last) := by
  refine CV.of (by decide +kernel) rfl (Nat.le_of_ble_eq_true rfl) ha (fun x hq => ?_)
  show G l D (tysL τ) (LM τ) a mX7_measure x 0 [(0, .ref (a 0))] [] V
  have hp2 : 0 < 2 ^ sz := Nat.two_pow_pos sz
  have hp6 : 2 ^ sz ≤ 2 ^ 6 := Nat.pow_le_pow_right (by omega) hsz6
  have hwy : ∀ i q, 0 ≤ way (V 8) (V 9) (V 0 10) (V 19 i) q ∧ way (V 8) (V 9) (V 0 10) (V 19 i) q ≤ 100000 := fun i q => way_in hx hy hn40
  refine g_iconst dX7_measure_0 ?_
  refine g_aload_n 0 dX7_measure_1 rfl rfl ?_
  refine g_getf 0 (.int (iN (V 0 25))) fX7_150 om_0 dX7_measure_2 rfl ?_
  refine g_top (show V 0 25 = (sz : Int) from hsz) ?_
  refine g_ishl ((2 ^ sz : Nat) : Int) dX7_measure_5 (iN_bit (by omega)) ?_
  refine g_iconst dX7_measure_6 ?_
  refine g_isub dX7_measure_7 ?_
  refine g_istore_n [(1, .int (iN (((2 ^ sz : Nat) : Int) - 1))), (0, .ref (a 0))] dX7_measure_8 rfl (by decide) rfl ?_
  refine g_lve (show ([(1, .int (iN (((2 ^ sz : Nat) : Int) - 1))), (0, .ref (a 0))] : List (Nat × Value)) = ([(1, .int (iN ((2 ^ sz - 1 : Nat) : Int))), (0, .ref (a 0))] : List (Nat × Value)) from by rw [show ((2 ^ sz : Nat) : Int) - 1 = ((2 ^ sz - 1 : Nat) : Int) from by omega]) ?_
  refine g_iload_n 0 dX7_measure_9 rfl rfl ?_
  refine g_istore_n [(2, .int (iN ((2 ^ sz - 1 : Nat) : Int))), (1, .int (iN ((2 ^ sz - 1 : Nat) : Int))), (0, .ref (a 0))] dX7_measure_10 rfl (by decide) rfl ?_
  have lp_11 : ∀ (fuel : Nat) (s : Nat) (U : Mem), (s < 2 ^ sz) → (∀ c, c ≠ 20 → U c = V c) → (∀ set last, s < set → set < 2 ^ sz → last < sz → set.testBit last = true → tAt sz (fun j => V 10 (V 19 j).toNat) (fun i j => way (V 8) (V 9) (V 0 10) (V 19 i) (V 19 j)) (fun i => way (V 8) (V 9) (V 0 10) (V 19 i) (-1)) (wA U) set last) → (s) < fuel → G l D (tysL τ) (LM τ) a mX7_measure x 11 [(0, .ref (a 0)), (1, .int (iN ((2 ^ sz - 1 : Nat) : Int))), (2, .int (iN (s : Int)))] [] U := by
    intro fuel
    induction fuel with
    | zero => intro s U hs hoffU hWL hfu; exact absurd hfu (Nat.not_lt_zero _)
    | succ fuel ih_11 =>
      intro s U hs hoffU hWL hfu
      refine g_iload_n 2 dX7_measure_11 rfl rfl ?_
      refine g_if_le 169 dX7_measure_12 (by decide) (fun c_1 => ?_) (fun c_1 => ?_)
      · exact g_vret hq rfl dX7_measure_169 (⟨hoffU, fun set last h1 h2 h3 => by have h0 : 0 < set := Nat.pos_of_ne_zero (fun e => by rw [e, Nat.zero_testBit] at h3; cases h3); exact hWL set last (by omega) h1 h2 h3⟩)
      · refine g_iconst dX7_measure_15 ?_
        refine g_istore_n [(3, .int (iN 0)), (0, .ref (a 0)), (1, .int (iN ((2 ^ sz - 1 : Nat) : Int))), (2, .int (iN (s : Int)))] dX7_measure_16 rfl (by decide) rfl ?_
        have lp_17 : ∀ (fuel : Nat) (i : Nat) (W : Mem), (i ≤ sz) → (∀ c, c ≠ 20 → W c = V c) → (∀ set last, s < set → set < 2 ^ sz → last < sz → set.testBit last = true → tAt sz (fun j => V 10 (V 19 j).toNat) (fun i j => way (V 8) (V 9) (V 0 10) (V 19 i) (V 19 j)) (fun i => way (V 8) (V 9) (V 0 10) (V 19 i) (-1)) (wA W) set last) → (∀ l, l < i → s.testBit l = true → tAt sz (fun j => V 10 (V 19 j).toNat) (fun i j => way (V 8) (V 9) (V 0 10) (V 19 i) (V 19 j)) (fun i => way (V 8) (V 9) (V 0 10) (V 19 i) (-1)) (wA W) s l) → (sz - i) < fuel → G l D (tysL τ) (LM τ) a mX7_measure x 17 [(0, .ref (a 0)), (1, .int (iN ((2 ^ sz - 1 : Nat) : Int))), (2, .int (iN (s : Int))), (3, .int (iN (i : Int)))] [] W := by
          intro fuel
          induction fuel with
          | zero => intro i W hi hoffW hWLW hcur hfu; exact absurd hfu (Nat.not_lt_zero _)
          | succ fuel ih_17 =>
            intro i W hi hoffW hWLW hcur hfu
            have w0 : W 0 = V 0 := hoffW 0 (by omega)
            have w8 : W 8 = V 8 := hoffW 8 (by omega)
            have w9 : W 9 = V 9 := hoffW 9 (by omega)
            have w10 : W 10 = V 10 := hoffW 10 (by omega)
            have w19 : W 19 = V 19 := hoffW 19 (by omega)
            have ti := htr i
            have hlti : s / 2 ^ i ≤ s := Nat.div_le_self _ _
            refine g_iload_n 3 dX7_measure_17 rfl rfl ?_
            refine g_aload_n 0 dX7_measure_18 rfl rfl ?_
            refine g_getf 0 (.int (iN (W 0 25))) fX7_150 om_0 dX7_measure_19 rfl ?_
            refine g_top (show W 0 25 = (sz : Int) from by rw [w0]; exact hsz) ?_
            refine g_icmp_ge 163 dX7_measure_22 (by decide) (fun c_2 => ?_) (fun c_2 => ?_)
            · refine g_iinc 2 [(2, .int (iN ((s : Int) + (-1)))), (0, .ref (a 0)), (1, .int (iN ((2 ^ sz - 1 : Nat) : Int))), (3, .int (iN (i : Int)))] dX7_measure_163 rfl (by decide) rfl ?_
              refine g_goto 11 dX7_measure_166 (by decide) ?_
              refine g_lve (show ([(2, .int (iN ((s : Int) + (-1)))), (0, .ref (a 0)), (1, .int (iN ((2 ^ sz - 1 : Nat) : Int))), (3, .int (iN (i : Int)))] : List (Nat × Value)) = ([(2, .int (iN ((s - 1 : Nat) : Int))), (0, .ref (a 0)), (1, .int (iN ((2 ^ sz - 1 : Nat) : Int))), (3, .int (iN (i : Int)))] : List (Nat × Value)) from by rw [show (s : Int) + (-1) = ((s - 1 : Nat) : Int) from by omega]) ?_
              refine g_lv [1, 2, 0] rfl ?_
              exact ih_11 (s - 1) W (by omega) hoffW (fun set l h1 h2 h3 h4 => by by_cases e : set = s; (· rw [e] at h4 ⊢; exact hcur l (by omega) h4); (· exact hWLW set l (by omega) h2 h3 h4)) (by omega)
            · refine g_iload_n 2 dX7_measure_25 rfl rfl ?_
              refine g_iload_n 3 dX7_measure_26 rfl rfl ?_
              refine g_ishr ((s / 2 ^ i : Nat) : Int) dX7_measure_27 (iN_shr (by omega) (by omega)) ?_
              refine g_iconst dX7_measure_28 ?_
              refine g_iand (((s / 2 ^ i) % 2 : Nat) : Int) dX7_measure_29 (iN_and1 _) ?_
              refine g_if_ne 36 dX7_measure_30 (by decide) (fun c_3 => ?_) (fun c_3 => ?_)
              · refine g_iload_n 2 dX7_measure_36 rfl rfl ?_
                refine g_iload_n 1 dX7_measure_37 rfl rfl ?_
                refine g_icmp_ne 54 dX7_measure_38 (by decide) (fun c_4 => ?_) (fun c_4 => ?_)
                · refine g_ldc2 1000000000000 kX7_156 rfl dX7_measure_54 ?_
                  refine g_lstore [(4, .long (jN 1000000000000)), (0, .ref (a 0)), (1, .int (iN ((2 ^ sz - 1 : Nat) : Int))), (2, .int (iN (s : Int))), (3, .int (iN (i : Int)))] dX7_measure_57 (by decide) rfl ?_
                  refine g_iconst dX7_measure_59 ?_
                  refine g_istore [(6, .int (iN 0)), (4, .long (jN 1000000000000)), (0, .ref (a 0)), (1, .int (iN ((2 ^ sz - 1 : Nat) : Int))), (2, .int (iN (s : Int))), (3, .int (iN (i : Int)))] dX7_measure_60 (by decide) rfl ?_
                  have hcW : ∀ k, tFol sz (fun j => V 10 (V 19 j).toNat) s k → 0 ≤ way (V 8) (V 9) (V 0 10) (V 19 i) (V 19 k) + wA W (s ||| 2 ^ k) k ∧ way (V 8) (V 9) (V 0 10) (V 19 i) (V 19 k) + wA W (s ||| 2 ^ k) k ≤ 100000 * (64 - (s : Int)) := fun k hk => by
                    have g1 := tOr_gt hk.2.1
                    have g3 := (hWLW (s ||| 2 ^ k) k g1 (tOr_lt hs hk.1) hk.1 (tBit_self _ _)).2.2.2
                    have g4 := hwy i (V 19 k)
                    omega
                  have lp_62 : ∀ (fuel : Nat) (k : Nat) (be : Int) (pk : Int), (k ≤ sz) → (mnI (fun j => tFol sz (fun j => V 10 (V 19 j).toNat) s j) (fun j => way (V 8) (V 9) (V 0 10) (V 19 i) (V 19 j) + wA W (s ||| 2 ^ j) j) (if s = 2 ^ sz - 1 then (fun i => way (V 8) (V 9) (V 0 10) (V 19 i) (-1)) i else 1000000000000) k be pk) → (sz - k) < fuel → G l D (tysL τ) (LM τ) a mX7_measure x 62 [(0, .ref (a 0)), (1, .int (iN ((2 ^ sz - 1 : Nat) : Int))), (2, .int (iN (s : Int))), (3, .int (iN (i : Int))), (4, .long (jN be)), (6, .int (iN (k : Int)))] [] W := by
                    intro fuel
                    induction fuel with
                    | zero => intro k be pk hk hmn hfu; exact absurd hfu (Nat.not_lt_zero _)
                    | succ fuel ih_62 =>
                      intro k be pk hk hmn hfu
                      have tk := htr k
                      have hbr : -9223372036854775808 ≤ be ∧ be ≤ 1000000000000 := by
                        rcases hmn with ⟨q1, -, -⟩ | ⟨b9, -, q2, -, q4, -⟩
                        · rw [q1]; have := hwy i (-1); split <;> (try dsimp only) <;> omega
                        · rw [q4]; have := hcW b9 q2; dsimp only; omega
                      refine g_iload 5 dX7_measure_62 rfl ?_
                      refine g_aload_n 0 dX7_measure_64 rfl rfl ?_
                      refine g_getf 0 (.int (iN (W 0 25))) fX7_150 om_0 dX7_measure_65 rfl ?_
                      refine g_top (show W 0 25 = (sz : Int) from by rw [w0]; exact hsz) ?_
                      refine g_icmp_ge 144 dX7_measure_68 (by decide) (fun c_5 => ?_) (fun c_5 => ?_)
                      · refine g_aload_n 0 dX7_measure_144 rfl rfl ?_
                        refine g_getf 0 (.ref (a 20)) fX7_69 om_0 dX7_measure_145 rfl ?_
                        refine g_bipush dX7_measure_148 rfl ?_
                        refine g_iload_n 2 dX7_measure_150 rfl rfl ?_
                        refine g_imul dX7_measure_151 ?_
                        refine g_iload_n 3 dX7_measure_152 rfl rfl ?_
                        refine g_iadd dX7_measure_153 ?_
                        refine g_lload 4 dX7_measure_154 rfl ?_
                        refine g_last 20 (6 * s + i) am_20 dX7_measure_156 (by omega) (by omega) ?_
                        obtain ⟨V_6, eV_6⟩ : ∃ V9 : Mem, V9 = up W 20 (6 * s + i) be := ⟨_, rfl⟩
                        refine g_mem eV_6.symm ?_
                        refine g_iinc 3 [(3, .int (iN ((i : Int) + 1))), (0, .ref (a 0)), (1, .int (iN ((2 ^ sz - 1 : Nat) : Int))), (2, .int (iN (s : Int))), (4, .long (jN be)), (6, .int (iN (k : Int)))] dX7_measure_157 rfl (by decide) rfl ?_
                        refine g_goto 17 dX7_measure_160 (by decide) ?_
                        refine g_lv [1, 2, 3, 0] rfl ?_
                        exact ih_17 (i + 1) V_6 (by omega) (fun c hc => by rw [eV_6, up_ne1 hc]; exact hoffW c hc) (fun set l h1 h2 h3 h4 => by rw [eV_6]; exact tAt_up6 hsz6 (by omega) (by omega) (Or.inl h1) (hWLW set l h1 h2 h3 h4)) (fun l hl hb => by rw [eV_6]; by_cases e : l = i; (· rw [e]; exact tAt_write hsz6 (by omega) (by omega) (by rw [show k = sz by omega] at hmn; exact hmn) (by by_cases q : s = 2 ^ sz - 1; (· exact Or.inr (if_pos q)); (· exact Or.inl (fol_ex hs q))) (hwy i (-1)) hcW); (· exact tAt_up6 hsz6 (by omega) (by omega) (Or.inr ⟨rfl, e⟩) (hcur l (by omega) hb))) (by omega)
                      · refine g_aload_n 0 dX7_measure_71 rfl rfl ?_
                        refine g_iload_n 2 dX7_measure_72 rfl rfl ?_
                        refine g_iload 5 dX7_measure_73 rfl ?_
                        refine g_callI (k := 0) [.int (iN (s : Int)), .int (iN (k : Int))] (met_X7_mayCome (V := W) ha s k sz (by rw [w0]; exact hsz) hsz6 (by omega) (by omega) (by rw [w19, w0]; exact htr) (by rw [w0]; exact hn40) (by rw [w10]; exact hh0)) vX7_158 om_0 rfl rfl ⟨rfl, rfl, Nat.le_of_ble_eq_true rfl, Nat.le_of_ble_eq_true rfl⟩ rfl (Nat.le_of_ble_eq_true rfl) dX7_measure_75 rfl ?_
                        rintro z9 V9 ⟨hp9, hV9⟩
                        replace hV9 := hV9.symm
                        subst hV9
                        rw [w10, w19] at hp9
                        rcases hp9 with ⟨hz9, b_7⟩ | ⟨hz9, b_7⟩
                        · subst hz9
                          have hcb := hcW k b_7
                          have hor := tOr_lt (sz := 6) (show s < 2 ^ 6 by omega) (show k < 6 by omega)
                          refine g_if_ne 84 dX7_measure_78 (by decide) (fun _ => ?_) (fun c_8 => absurd c_8 (by decide))
                          have hns : ¬ s = 2 ^ sz - 1 := fun q => by subst q; exact fol_all b_7
                          refine g_aload_n 0 dX7_measure_84 rfl rfl ?_
                          refine g_aload_n 0 dX7_measure_85 rfl rfl ?_
                          refine g_getf 0 (.ref (a 19)) fX7_66 om_0 dX7_measure_86 rfl ?_
                          refine g_iload_n 3 dX7_measure_89 rfl rfl ?_
                          refine g_iald 19 i am_19 dX7_measure_90 rfl (by omega) ?_
                          refine g_top (show W 19 i = (((V 19 i).toNat : Nat) : Int) from by rw [w19]; omega) ?_
                          refine g_aload_n 0 dX7_measure_91 rfl rfl ?_
                          refine g_getf 0 (.ref (a 19)) fX7_66 om_0 dX7_measure_92 rfl ?_
                          refine g_iload 5 dX7_measure_95 rfl ?_
                          refine g_iald 19 k am_19 dX7_measure_97 rfl (by omega) ?_
                          refine g_top (show W 19 k = (((V 19 k).toNat : Nat) : Int) from by rw [w19]; omega) ?_
                          refine g_callL (k := 0) [.int (iN (((V 19 i).toNat : Nat) : Int)), .int (iN (((V 19 k).toNat : Nat) : Int))] (met_X7_between (V := W) ha (V 19 i).toNat (V 19 k).toNat (by rw [w0]; omega) (by rw [w0]; omega) (by rw [w8]; exact hx) (by rw [w9]; exact hy) (by rw [w0]; exact hn40)) vX7_161 om_0 rfl rfl ⟨rfl, rfl, Nat.le_of_ble_eq_true rfl, Nat.le_of_ble_eq_true rfl⟩ rfl (Nat.le_of_ble_eq_true rfl) dX7_measure_98 rfl ?_
                          rintro z9 V9 ⟨hz9, hV9⟩
                          replace hV9 := hV9.symm
                          subst hV9
                          rw [w8, w9, w0, show (((V 19 i).toNat : Nat) : Int) = V 19 i by omega, show (((V 19 k).toNat : Nat) : Int) = V 19 k by omega] at hz9
                          replace hz9 := hz9.symm
                          subst hz9
                          refine g_aload_n 0 dX7_measure_101 rfl rfl ?_
                          refine g_getf 0 (.ref (a 20)) fX7_69 om_0 dX7_measure_102 rfl ?_
                          refine g_bipush dX7_measure_105 rfl ?_
                          refine g_iload_n 2 dX7_measure_107 rfl rfl ?_
                          refine g_iconst dX7_measure_108 ?_
                          refine g_iload 5 dX7_measure_109 rfl ?_
                          refine g_ishl ((2 ^ k : Nat) : Int) dX7_measure_111 (iN_bit (by omega)) ?_
                          refine g_ior ((s ||| (2 ^ k) : Nat) : Int) dX7_measure_112 (iN_or _ _) ?_
                          refine g_imul dX7_measure_113 ?_
                          refine g_iload 5 dX7_measure_114 rfl ?_
                          refine g_iadd dX7_measure_116 ?_
                          refine g_lald 20 (6 * (s ||| 2 ^ k) + k) am_20 dX7_measure_117 (by omega) (by omega) ?_
                          refine g_ladd dX7_measure_118 ?_
                          refine g_topl (show (way (V 8) (V 9) (V 0 10) (V 19 i) (V 19 k)) + (W 20 (6 * (s ||| 2 ^ k) + k)) = way (V 8) (V 9) (V 0 10) (V 19 i) (V 19 k) + wA W (s ||| 2 ^ k) k from rfl) ?_
                          refine g_lstore [(7, .long (jN (way (V 8) (V 9) (V 0 10) (V 19 i) (V 19 k) + wA W (s ||| 2 ^ k) k))), (0, .ref (a 0)), (1, .int (iN ((2 ^ sz - 1 : Nat) : Int))), (2, .int (iN (s : Int))), (3, .int (iN (i : Int))), (4, .long (jN be)), (6, .int (iN (k : Int)))] dX7_measure_119 (by decide) rfl ?_
                          refine g_lload 0 dX7_measure_121 rfl ?_
                          refine g_lload 5 dX7_measure_123 rfl ?_
                          refine g_lcmp (cmpz (way (V 8) (V 9) (V 0 10) (V 19 i) (V 19 k) + wA W (s ||| 2 ^ k) k) be) dX7_measure_125 (cmpz_j (by omega) (by omega)) ?_
                          have hcmp_9 := cmpz_c (way (V 8) (V 9) (V 0 10) (V 19 i) (V 19 k) + wA W (s ||| 2 ^ k) k) be
                          refine g_if_ge 134 dX7_measure_126 (by decide) (fun c_10 => ?_) (fun c_10 => ?_)
                          · refine g_lload 5 dX7_measure_134 rfl ?_
                            refine g_lstore [(4, .long (jN be)), (7, .long (jN (way (V 8) (V 9) (V 0 10) (V 19 i) (V 19 k) + wA W (s ||| 2 ^ k) k))), (0, .ref (a 0)), (1, .int (iN ((2 ^ sz - 1 : Nat) : Int))), (2, .int (iN (s : Int))), (3, .int (iN (i : Int))), (6, .int (iN (k : Int)))] dX7_measure_136 (by decide) rfl ?_
                            refine g_iinc 6 [(6, .int (iN ((k : Int) + 1))), (4, .long (jN be)), (7, .long (jN (way (V 8) (V 9) (V 0 10) (V 19 i) (V 19 k) + wA W (s ||| 2 ^ k) k))), (0, .ref (a 0)), (1, .int (iN ((2 ^ sz - 1 : Nat) : Int))), (2, .int (iN (s : Int))), (3, .int (iN (i : Int)))] dX7_measure_138 rfl (by decide) rfl ?_
                            refine g_goto 62 dX7_measure_141 (by decide) ?_
                            refine g_lv [3, 4, 5, 6, 1, 0] rfl ?_
                            exact ih_62 (k + 1) be pk (by omega) (mnI_keep hmn b_7 (by omega) (by rw [if_neg hns]; omega)) (by omega)
                          · refine g_lload 0 dX7_measure_129 rfl ?_
                            refine g_goto 136 dX7_measure_131 (by decide) ?_
                            refine g_lstore [(4, .long (jN (way (V 8) (V 9) (V 0 10) (V 19 i) (V 19 k) + wA W (s ||| 2 ^ k) k))), (7, .long (jN (way (V 8) (V 9) (V 0 10) (V 19 i) (V 19 k) + wA W (s ||| 2 ^ k) k))), (0, .ref (a 0)), (1, .int (iN ((2 ^ sz - 1 : Nat) : Int))), (2, .int (iN (s : Int))), (3, .int (iN (i : Int))), (6, .int (iN (k : Int)))] dX7_measure_136 (by decide) rfl ?_
                            refine g_iinc 6 [(6, .int (iN ((k : Int) + 1))), (4, .long (jN (way (V 8) (V 9) (V 0 10) (V 19 i) (V 19 k) + wA W (s ||| 2 ^ k) k))), (7, .long (jN (way (V 8) (V 9) (V 0 10) (V 19 i) (V 19 k) + wA W (s ||| 2 ^ k) k))), (0, .ref (a 0)), (1, .int (iN ((2 ^ sz - 1 : Nat) : Int))), (2, .int (iN (s : Int))), (3, .int (iN (i : Int)))] dX7_measure_138 rfl (by decide) rfl ?_
                            refine g_goto 62 dX7_measure_141 (by decide) ?_
                            refine g_lv [3, 4, 5, 6, 1, 0] rfl ?_
                            exact ih_62 (k + 1) (way (V 8) (V 9) (V 0 10) (V 19 i) (V 19 k) + wA W (s ||| 2 ^ k) k) (k : Int) (by omega) (mnI_take hmn b_7 (by omega)) (by omega)
                        · subst hz9
                          refine g_if_ne 84 dX7_measure_78 (by decide) (fun c_11 => absurd c_11 (by decide)) (fun _ => ?_)
                          refine g_goto 138 dX7_measure_81 (by decide) ?_
                          refine g_iinc 5 [(6, .int (iN ((k : Int) + 1))), (0, .ref (a 0)), (1, .int (iN ((2 ^ sz - 1 : Nat) : Int))), (2, .int (iN (s : Int))), (3, .int (iN (i : Int))), (4, .long (jN be))] dX7_measure_138 rfl (by decide) rfl ?_
                          refine g_goto 62 dX7_measure_141 (by decide) ?_
                          refine g_lv [1, 2, 3, 4, 5, 0] rfl ?_
                          exact ih_62 (k + 1) be pk (by omega) (mnI_skip hmn b_7) (by omega)
                  refine g_lv [2, 3, 4, 5, 1, 0] rfl ?_
                  exact lp_62 _ 0 1000000000000 (-1) (by omega) (mnI_if2 (by omega)) (Nat.lt_succ_self _)
                · refine g_aload_n 0 dX7_measure_41 rfl rfl ?_
                  refine g_aload_n 0 dX7_measure_42 rfl rfl ?_
                  refine g_getf 0 (.ref (a 19)) fX7_66 om_0 dX7_measure_43 rfl ?_
                  refine g_iload_n 3 dX7_measure_46 rfl rfl ?_
                  refine g_iald 19 i am_19 dX7_measure_47 rfl (by omega) ?_
                  refine g_top (show W 19 i = (((V 19 i).toNat : Nat) : Int) from by rw [w19]; omega) ?_
                  refine g_callL (k := 0) [.int (iN (((V 19 i).toNat : Nat) : Int))] (met_X7_fromHome (V := W) ha (V 19 i).toNat (by rw [w0]; omega) (by rw [w8]; exact hx) (by rw [w9]; exact hy) (by rw [w0]; exact hn40)) vX7_152 om_0 rfl rfl ⟨rfl, rfl, Nat.le_of_ble_eq_true rfl, Nat.le_of_ble_eq_true rfl⟩ rfl (Nat.le_of_ble_eq_true rfl) dX7_measure_48 rfl ?_
                  rintro z9 V9 ⟨hz9, hV9⟩
                  replace hV9 := hV9.symm
                  subst hV9
                  rw [w8, w9, w0, show (((V 19 i).toNat : Nat) : Int) = V 19 i by omega] at hz9
                  replace hz9 := hz9.symm
                  subst hz9
                  refine g_goto 57 dX7_measure_51 (by decide) ?_
                  refine g_lstore [(4, .long (jN (way (V 8) (V 9) (V 0 10) (V 19 i) (-1)))), (0, .ref (a 0)), (1, .int (iN ((2 ^ sz - 1 : Nat) : Int))), (2, .int (iN (s : Int))), (3, .int (iN (i : Int)))] dX7_measure_57 (by decide) rfl ?_
                  refine g_iconst dX7_measure_59 ?_
                  refine g_istore [(6, .int (iN 0)), (4, .long (jN (way (V 8) (V 9) (V 0 10) (V 19 i) (-1)))), (0, .ref (a 0)), (1, .int (iN ((2 ^ sz - 1 : Nat) : Int))), (2, .int (iN (s : Int))), (3, .int (iN (i : Int)))] dX7_measure_60 (by decide) rfl ?_
                  have hcW : ∀ k, tFol sz (fun j => V 10 (V 19 j).toNat) s k → 0 ≤ way (V 8) (V 9) (V 0 10) (V 19 i) (V 19 k) + wA W (s ||| 2 ^ k) k ∧ way (V 8) (V 9) (V 0 10) (V 19 i) (V 19 k) + wA W (s ||| 2 ^ k) k ≤ 100000 * (64 - (s : Int)) := fun k hk => by
                    have g1 := tOr_gt hk.2.1
                    have g3 := (hWLW (s ||| 2 ^ k) k g1 (tOr_lt hs hk.1) hk.1 (tBit_self _ _)).2.2.2
                    have g4 := hwy i (V 19 k)
                    omega
                  have lp_62 : ∀ (fuel : Nat) (k : Nat) (be : Int) (pk : Int), (k ≤ sz) → (mnI (fun j => tFol sz (fun j => V 10 (V 19 j).toNat) s j) (fun j => way (V 8) (V 9) (V 0 10) (V 19 i) (V 19 j) + wA W (s ||| 2 ^ j) j) (if s = 2 ^ sz - 1 then (fun i => way (V 8) (V 9) (V 0 10) (V 19 i) (-1)) i else 1000000000000) k be pk) → (sz - k) < fuel → G l D (tysL τ) (LM τ) a mX7_measure x 62 [(0, .ref (a 0)), (1, .int (iN ((2 ^ sz - 1 : Nat) : Int))), (2, .int (iN (s : Int))), (3, .int (iN (i : Int))), (4, .long (jN be)), (6, .int (iN (k : Int)))] [] W := by
                    intro fuel
                    induction fuel with
                    | zero => intro k be pk hk hmn hfu; exact absurd hfu (Nat.not_lt_zero _)
                    | succ fuel ih_62 =>
                      intro k be pk hk hmn hfu
                      have tk := htr k
                      have hbr : -9223372036854775808 ≤ be ∧ be ≤ 1000000000000 := by
                        rcases hmn with ⟨q1, -, -⟩ | ⟨b9, -, q2, -, q4, -⟩
                        · rw [q1]; have := hwy i (-1); split <;> (try dsimp only) <;> omega
                        · rw [q4]; have := hcW b9 q2; dsimp only; omega
                      refine g_iload 5 dX7_measure_62 rfl ?_
                      refine g_aload_n 0 dX7_measure_64 rfl rfl ?_
                      refine g_getf 0 (.int (iN (W 0 25))) fX7_150 om_0 dX7_measure_65 rfl ?_
                      refine g_top (show W 0 25 = (sz : Int) from by rw [w0]; exact hsz) ?_
                      refine g_icmp_ge 144 dX7_measure_68 (by decide) (fun c_12 => ?_) (fun c_12 => ?_)
                      · refine g_aload_n 0 dX7_measure_144 rfl rfl ?_
                        refine g_getf 0 (.ref (a 20)) fX7_69 om_0 dX7_measure_145 rfl ?_
                        refine g_bipush dX7_measure_148 rfl ?_
                        refine g_iload_n 2 dX7_measure_150 rfl rfl ?_
                        refine g_imul dX7_measure_151 ?_
                        refine g_iload_n 3 dX7_measure_152 rfl rfl ?_
                        refine g_iadd dX7_measure_153 ?_
                        refine g_lload 4 dX7_measure_154 rfl ?_
                        refine g_last 20 (6 * s + i) am_20 dX7_measure_156 (by omega) (by omega) ?_
                        obtain ⟨V_13, eV_13⟩ : ∃ V9 : Mem, V9 = up W 20 (6 * s + i) be := ⟨_, rfl⟩
                        refine g_mem eV_13.symm ?_
                        refine g_iinc 3 [(3, .int (iN ((i : Int) + 1))), (0, .ref (a 0)), (1, .int (iN ((2 ^ sz - 1 : Nat) : Int))), (2, .int (iN (s : Int))), (4, .long (jN be)), (6, .int (iN (k : Int)))] dX7_measure_157 rfl (by decide) rfl ?_
                        refine g_goto 17 dX7_measure_160 (by decide) ?_
                        refine g_lv [1, 2, 3, 0] rfl ?_
                        exact ih_17 (i + 1) V_13 (by omega) (fun c hc => by rw [eV_13, up_ne1 hc]; exact hoffW c hc) (fun set l h1 h2 h3 h4 => by rw [eV_13]; exact tAt_up6 hsz6 (by omega) (by omega) (Or.inl h1) (hWLW set l h1 h2 h3 h4)) (fun l hl hb => by rw [eV_13]; by_cases e : l = i; (· rw [e]; exact tAt_write hsz6 (by omega) (by omega) (by rw [show k = sz by omega] at hmn; exact hmn) (by by_cases q : s = 2 ^ sz - 1; (· exact Or.inr (if_pos q)); (· exact Or.inl (fol_ex hs q))) (hwy i (-1)) hcW); (· exact tAt_up6 hsz6 (by omega) (by omega) (Or.inr ⟨rfl, e⟩) (hcur l (by omega) hb))) (by omega)
                      · refine g_aload_n 0 dX7_measure_71 rfl rfl ?_
                        refine g_iload_n 2 dX7_measure_72 rfl rfl ?_
                        refine g_iload 5 dX7_measure_73 rfl ?_
                        refine g_callI (k := 0) [.int (iN (s : Int)), .int (iN (k : Int))] (met_X7_mayCome (V := W) ha s k sz (by rw [w0]; exact hsz) hsz6 (by omega) (by omega) (by rw [w19, w0]; exact htr) (by rw [w0]; exact hn40) (by rw [w10]; exact hh0)) vX7_158 om_0 rfl rfl ⟨rfl, rfl, Nat.le_of_ble_eq_true rfl, Nat.le_of_ble_eq_true rfl⟩ rfl (Nat.le_of_ble_eq_true rfl) dX7_measure_75 rfl ?_
                        rintro z9 V9 ⟨hp9, hV9⟩
                        replace hV9 := hV9.symm
                        subst hV9
                        rw [w10, w19] at hp9
                        rcases hp9 with ⟨hz9, b_14⟩ | ⟨hz9, b_14⟩
                        · subst hz9
                          have hcb := hcW k b_14
                          have hor := tOr_lt (sz := 6) (show s < 2 ^ 6 by omega) (show k < 6 by omega)
                          refine g_if_ne 84 dX7_measure_78 (by decide) (fun _ => ?_) (fun c_15 => absurd c_15 (by decide))
                          have hns : ¬ s = 2 ^ sz - 1 := fun q => by subst q; exact fol_all b_14
                          refine g_aload_n 0 dX7_measure_84 rfl rfl ?_
                          refine g_aload_n 0 dX7_measure_85 rfl rfl ?_
                          refine g_getf 0 (.ref (a 19)) fX7_66 om_0 dX7_measure_86 rfl ?_
                          refine g_iload_n 3 dX7_measure_89 rfl rfl ?_
                          refine g_iald 19 i am_19 dX7_measure_90 rfl (by omega) ?_
                          refine g_top (show W 19 i = (((V 19 i).toNat : Nat) : Int) from by rw [w19]; omega) ?_
                          refine g_aload_n 0 dX7_measure_91 rfl rfl ?_
                          refine g_getf 0 (.ref (a 19)) fX7_66 om_0 dX7_measure_92 rfl ?_
                          refine g_iload 5 dX7_measure_95 rfl ?_
                          refine g_iald 19 k am_19 dX7_measure_97 rfl (by omega) ?_
                          refine g_top (show W 19 k = (((V 19 k).toNat : Nat) : Int) from by rw [w19]; omega) ?_
                          refine g_callL (k := 0) [.int (iN (((V 19 i).toNat : Nat) : Int)), .int (iN (((V 19 k).toNat : Nat) : Int))] (met_X7_between (V := W) ha (V 19 i).toNat (V 19 k).toNat (by rw [w0]; omega) (by rw [w0]; omega) (by rw [w8]; exact hx) (by rw [w9]; exact hy) (by rw [w0]; exact hn40)) vX7_161 om_0 rfl rfl ⟨rfl, rfl, Nat.le_of_ble_eq_true rfl, Nat.le_of_ble_eq_true rfl⟩ rfl (Nat.le_of_ble_eq_true rfl) dX7_measure_98 rfl ?_
                          rintro z9 V9 ⟨hz9, hV9⟩
                          replace hV9 := hV9.symm
                          subst hV9
                          rw [w8, w9, w0, show (((V 19 i).toNat : Nat) : Int) = V 19 i by omega, show (((V 19 k).toNat : Nat) : Int) = V 19 k by omega] at hz9
                          replace hz9 := hz9.symm
                          subst hz9
                          refine g_aload_n 0 dX7_measure_101 rfl rfl ?_
                          refine g_getf 0 (.ref (a 20)) fX7_69 om_0 dX7_measure_102 rfl ?_
                          refine g_bipush dX7_measure_105 rfl ?_
                          refine g_iload_n 2 dX7_measure_107 rfl rfl ?_
                          refine g_iconst dX7_measure_108 ?_
                          refine g_iload 5 dX7_measure_109 rfl ?_
                          refine g_ishl ((2 ^ k : Nat) : Int) dX7_measure_111 (iN_bit (by omega)) ?_
                          refine g_ior ((s ||| (2 ^ k) : Nat) : Int) dX7_measure_112 (iN_or _ _) ?_
                          refine g_imul dX7_measure_113 ?_
                          refine g_iload 5 dX7_measure_114 rfl ?_
                          refine g_iadd dX7_measure_116 ?_
                          refine g_lald 20 (6 * (s ||| 2 ^ k) + k) am_20 dX7_measure_117 (by omega) (by omega) ?_
                          refine g_ladd dX7_measure_118 ?_
                          refine g_topl (show (way (V 8) (V 9) (V 0 10) (V 19 i) (V 19 k)) + (W 20 (6 * (s ||| 2 ^ k) + k)) = way (V 8) (V 9) (V 0 10) (V 19 i) (V 19 k) + wA W (s ||| 2 ^ k) k from rfl) ?_
                          refine g_lstore [(7, .long (jN (way (V 8) (V 9) (V 0 10) (V 19 i) (V 19 k) + wA W (s ||| 2 ^ k) k))), (0, .ref (a 0)), (1, .int (iN ((2 ^ sz - 1 : Nat) : Int))), (2, .int (iN (s : Int))), (3, .int (iN (i : Int))), (4, .long (jN be)), (6, .int (iN (k : Int)))] dX7_measure_119 (by decide) rfl ?_
                          refine g_lload 0 dX7_measure_121 rfl ?_
                          refine g_lload 5 dX7_measure_123 rfl ?_
                          refine g_lcmp (cmpz (way (V 8) (V 9) (V 0 10) (V 19 i) (V 19 k) + wA W (s ||| 2 ^ k) k) be) dX7_measure_125 (cmpz_j (by omega) (by omega)) ?_
                          have hcmp_16 := cmpz_c (way (V 8) (V 9) (V 0 10) (V 19 i) (V 19 k) + wA W (s ||| 2 ^ k) k) be
                          refine g_if_ge 134 dX7_measure_126 (by decide) (fun c_17 => ?_) (fun c_17 => ?_)
                          · refine g_lload 5 dX7_measure_134 rfl ?_
                            refine g_lstore [(4, .long (jN be)), (7, .long (jN (way (V 8) (V 9) (V 0 10) (V 19 i) (V 19 k) + wA W (s ||| 2 ^ k) k))), (0, .ref (a 0)), (1, .int (iN ((2 ^ sz - 1 : Nat) : Int))), (2, .int (iN (s : Int))), (3, .int (iN (i : Int))), (6, .int (iN (k : Int)))] dX7_measure_136 (by decide) rfl ?_
                            refine g_iinc 6 [(6, .int (iN ((k : Int) + 1))), (4, .long (jN be)), (7, .long (jN (way (V 8) (V 9) (V 0 10) (V 19 i) (V 19 k) + wA W (s ||| 2 ^ k) k))), (0, .ref (a 0)), (1, .int (iN ((2 ^ sz - 1 : Nat) : Int))), (2, .int (iN (s : Int))), (3, .int (iN (i : Int)))] dX7_measure_138 rfl (by decide) rfl ?_
                            refine g_goto 62 dX7_measure_141 (by decide) ?_
                            refine g_lv [3, 4, 5, 6, 1, 0] rfl ?_
                            exact ih_62 (k + 1) be pk (by omega) (mnI_keep hmn b_14 (by omega) (by rw [if_neg hns]; omega)) (by omega)
                          · refine g_lload 0 dX7_measure_129 rfl ?_
                            refine g_goto 136 dX7_measure_131 (by decide) ?_
                            refine g_lstore [(4, .long (jN (way (V 8) (V 9) (V 0 10) (V 19 i) (V 19 k) + wA W (s ||| 2 ^ k) k))), (7, .long (jN (way (V 8) (V 9) (V 0 10) (V 19 i) (V 19 k) + wA W (s ||| 2 ^ k) k))), (0, .ref (a 0)), (1, .int (iN ((2 ^ sz - 1 : Nat) : Int))), (2, .int (iN (s : Int))), (3, .int (iN (i : Int))), (6, .int (iN (k : Int)))] dX7_measure_136 (by decide) rfl ?_
                            refine g_iinc 6 [(6, .int (iN ((k : Int) + 1))), (4, .long (jN (way (V 8) (V 9) (V 0 10) (V 19 i) (V 19 k) + wA W (s ||| 2 ^ k) k))), (7, .long (jN (way (V 8) (V 9) (V 0 10) (V 19 i) (V 19 k) + wA W (s ||| 2 ^ k) k))), (0, .ref (a 0)), (1, .int (iN ((2 ^ sz - 1 : Nat) : Int))), (2, .int (iN (s : Int))), (3, .int (iN (i : Int)))] dX7_measure_138 rfl (by decide) rfl ?_
                            refine g_goto 62 dX7_measure_141 (by decide) ?_
                            refine g_lv [3, 4, 5, 6, 1, 0] rfl ?_
                            exact ih_62 (k + 1) (way (V 8) (V 9) (V 0 10) (V 19 i) (V 19 k) + wA W (s ||| 2 ^ k) k) (k : Int) (by omega) (mnI_take hmn b_14 (by omega)) (by omega)
                        · subst hz9
                          refine g_if_ne 84 dX7_measure_78 (by decide) (fun c_18 => absurd c_18 (by decide)) (fun _ => ?_)
                          refine g_goto 138 dX7_measure_81 (by decide) ?_
                          refine g_iinc 5 [(6, .int (iN ((k : Int) + 1))), (0, .ref (a 0)), (1, .int (iN ((2 ^ sz - 1 : Nat) : Int))), (2, .int (iN (s : Int))), (3, .int (iN (i : Int))), (4, .long (jN be))] dX7_measure_138 rfl (by decide) rfl ?_
                          refine g_goto 62 dX7_measure_141 (by decide) ?_
                          refine g_lv [1, 2, 3, 4, 5, 0] rfl ?_
                          exact ih_62 (k + 1) be pk (by omega) (mnI_skip hmn b_14) (by omega)
                  refine g_lv [2, 3, 4, 5, 1, 0] rfl ?_
                  exact lp_62 _ 0 (way (V 8) (V 9) (V 0 10) (V 19 i) (-1)) (-1) (by omega) (mnI_if1 (by omega)) (Nat.lt_succ_self _)
              · refine g_goto 157 dX7_measure_33 (by decide) ?_
                refine g_iinc 3 [(3, .int (iN ((i : Int) + 1))), (0, .ref (a 0)), (1, .int (iN ((2 ^ sz - 1 : Nat) : Int))), (2, .int (iN (s : Int)))] dX7_measure_157 rfl (by decide) rfl ?_
                refine g_goto 17 dX7_measure_160 (by decide) ?_
                refine g_lv [1, 2, 3, 0] rfl ?_
                exact ih_17 (i + 1) W (by omega) hoffW hWLW (fun l hl hb => by by_cases e : l = i; (· rw [e] at hb; exact absurd ((tb_iff s i).mp hb) (by omega)); (· exact hcur l (by omega) hb)) (by omega)
        refine g_lv [1, 2, 3, 0] rfl ?_
        exact lp_17 _ 0 U (by omega) hoffU hWL (fun l h => absurd h (Nat.not_lt_zero _)) (Nat.lt_succ_self _)
  refine g_lv [2, 1, 0] rfl ?_
  exact lp_11 _ (2 ^ sz - 1) V (by omega) (fun _ _ => rfl) (fun set last h1 h2 => by omega) (Nat.lt_succ_self _)
