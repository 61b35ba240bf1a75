set_option maxHeartbeats 4000000 in
/-- arrange(m, fr) -/
theorem met_X7_arrange {l : Launch} {D : va_G} {τ : Nat → ClassId} {a : Nat → Nat} (ha : Apart (LM τ) a) {V : Mem} (m fr cn cr sz : Nat) (hcn : V 14 m = (cn : Int)) (hcr : V 12 m = (cr : Int)) (hsz0 : sz = min cr (cn - fr)) (hm : m < 3) (hfr : fr < cn) (hcn40 : cn ≤ 40) (hcr6 : 1 ≤ cr ∧ cr ≤ 6) (hrw : ∀ i, i < cn → 0 ≤ V 15 (40 * m + i) ∧ V 15 (40 * m + i) < V 0 10) (hn40 : V 0 10 ≤ 40) (hh0 : ∀ p, p < 40 → 0 ≤ V 10 p ∧ V 10 p ≤ 10000) (hx : ∀ p, p < 40 → 0 ≤ V 8 p ∧ V 8 p ≤ 100000) (hy : ∀ p, p < 40 → 0 ≤ V 9 p ∧ V 9 p ≤ 100000) : CV l D (tysL τ) (LM τ) a yX7_arrange mX7_arrange [.ref (a 0), .int (iN (m : Int)), .int (iN (fr : Int))] V (fun V' => ∃ g, isArr (V 10) (V 8) (V 9) (V 0 10) (fun i => V 15 (40 * m + (fr + i))) g sz ∧ (∀ t, t < sz → V' 15 (40 * m + (fr + t)) = g t) ∧ (∀ j, ¬ (40 * m + fr ≤ j ∧ j < 40 * m + fr + sz) → V' 15 j = V 15 j) ∧ (∀ j, j ≠ 25 → V' 0 j = V 0 j) ∧ ∀ c, c ≠ 0 → c ≠ 15 → c ≠ 19 → c ≠ 20 → V' c = V c) := by
  refine CV.of (by decide +kernel) rfl (Nat.le_of_ble_eq_true rfl) ha (fun x hq => ?_)
  show G l D (tysL τ) (LM τ) a mX7_arrange x 0 [(0, .ref (a 0)), (1, .int (iN (m : Int))), (2, .int (iN (fr : Int)))] [] V
  refine g_bipush dX7_arrange_0 rfl ?_
  refine g_iload_n 1 dX7_arrange_2 rfl rfl ?_
  refine g_imul dX7_arrange_3 ?_
  refine g_iload_n 2 dX7_arrange_4 rfl rfl ?_
  refine g_iadd dX7_arrange_5 ?_
  refine g_istore_n [(3, .int (iN ((40 * (m : Int)) + (fr : Int)))), (0, .ref (a 0)), (1, .int (iN (m : Int))), (2, .int (iN (fr : Int)))] dX7_arrange_6 rfl (by decide) rfl ?_
  refine g_lve (show ([(3, .int (iN ((40 * (m : Int)) + (fr : Int)))), (0, .ref (a 0)), (1, .int (iN (m : Int))), (2, .int (iN (fr : Int)))] : List (Nat × Value)) = ([(3, .int (iN ((40 * m + fr : Nat) : Int))), (0, .ref (a 0)), (1, .int (iN (m : Int))), (2, .int (iN (fr : Int)))] : List (Nat × Value)) from by rw [show (40 * (m : Int)) + (fr : Int) = ((40 * m + fr : Nat) : Int) from by omega]) ?_
  have jn_42 : ∀ (u : Int), (u = (sz : Int)) → G l D (tysL τ) (LM τ) a mX7_arrange x 42 [(0, .ref (a 0)), (1, .int (iN (m : Int))), (2, .int (iN (fr : Int))), (3, .int (iN ((40 * m + fr : Nat) : Int)))] [.int (iN u), .ref (a 0)] V := by
    intro u hu
    refine g_top (show u = (sz : Int) from hu) ?_
    refine g_putf 0 (v := (sz : Int)) (.int (iN (sz : Int))) pX7_150 om_0 dX7_arrange_42 rfl rfl (Nat.le_of_ble_eq_true rfl) rfl ?_
    obtain ⟨V_1, eV_1⟩ : ∃ V9 : Mem, V9 = up V 0 25 (sz : Int) := ⟨_, rfl⟩
    refine g_mem eV_1.symm ?_
    obtain ⟨V1, eV1⟩ : ∃ V9 : Mem, V9 = up V 0 25 (sz : Int) := ⟨_, rfl⟩
    refine g_mem (show V_1 = V1 from by rw [eV1, eV_1]) ?_
    refine g_iconst dX7_arrange_45 ?_
    refine g_istore [(4, .int (iN 0)), (0, .ref (a 0)), (1, .int (iN (m : Int))), (2, .int (iN (fr : Int))), (3, .int (iN ((40 * m + fr : Nat) : Int)))] dX7_arrange_46 (by decide) rfl ?_
    have lp_48 : ∀ (fuel : Nat) (i : Nat) (U : Mem), (i ≤ sz) → (poolJ U V1 (fun i => V 15 (40 * m + (fr + i))) i) → (sz - i) < fuel → G l D (tysL τ) (LM τ) a mX7_arrange x 48 [(0, .ref (a 0)), (1, .int (iN (m : Int))), (2, .int (iN (fr : Int))), (3, .int (iN ((40 * m + fr : Nat) : Int))), (4, .int (iN (i : Int)))] [] U := by
      intro fuel
      induction fuel with
      | zero => intro i U hi hpj hfu; exact absurd hfu (Nat.not_lt_zero _)
      | succ fuel ih_48 =>
        intro i U hi hpj hfu
        have hFi := hrw (fr + i)
        have hsz' : sz ≤ 6 ∧ sz ≤ cn - fr := by rw [hsz0]; omega
        have u0 : U 0 25 = (sz : Int) := by rw [hpj.2 0 (by omega), eV1, up_eq]
        have u15 : U 15 = V 15 := by rw [hpj.2 15 (by omega), eV1, up_ne1 (by omega)]
        refine g_iload 4 dX7_arrange_48 rfl ?_
        refine g_aload_n 0 dX7_arrange_50 rfl rfl ?_
        refine g_getf 0 (.int (iN (U 0 25))) fX7_150 om_0 dX7_arrange_51 rfl ?_
        refine g_top (show U 0 25 = (sz : Int) from u0) ?_
        refine g_icmp_ge 128 dX7_arrange_54 (by decide) (fun c_2 => ?_) (fun c_2 => ?_)
        · refine g_aload_n 0 dX7_arrange_128 rfl rfl ?_
          have hsz6 : sz ≤ 6 ∧ sz ≤ cn - fr := by rw [hsz0]; omega
          have hpj2 : poolJ U V1 (fun i => V 15 (40 * m + (fr + i))) sz := by rw [show i = sz by omega] at hpj; exact hpj
          have a0 : U 0 10 = V 0 10 := by rw [hpj.2 0 (by omega), eV1, up_ne (by omega)]
          have a8 : U 8 = V 8 := by rw [hpj.2 8 (by omega), eV1, up_ne1 (by omega)]
          have a9 : U 9 = V 9 := by rw [hpj.2 9 (by omega), eV1, up_ne1 (by omega)]
          have a10 : U 10 = V 10 := by rw [hpj.2 10 (by omega), eV1, up_ne1 (by omega)]
          have htr : ∀ j, j < sz → 0 ≤ U 19 j ∧ U 19 j < V 0 10 := fun j hj => by
            rw [hpj2.1 j hj]
            exact poolF_all (P := fun z => 0 ≤ z ∧ z < V 0 10) (fun j hj => hrw (fr + j) (by omega)) j hj
          refine g_callV (k := 0) [] (met_X7_measure (V := U) ha sz u0 hsz6.1 (by rw [a0]; exact htr) (by rw [a0]; exact hn40) (by rw [a10]; exact hh0) (by rw [a8]; exact hx) (by rw [a9]; exact hy)) vX7_165 om_0 rfl rfl ⟨rfl, rfl, Nat.le_of_ble_eq_true rfl, Nat.le_of_ble_eq_true rfl⟩ rfl (Nat.le_of_ble_eq_true rfl) dX7_arrange_129 rfl ?_
          rintro V3 ⟨hoff3, hA3⟩
          rw [a8, a9, a10, a0] at hA3
          have b19 : V3 19 = U 19 := hoff3 19 (by omega)
          have b0 : V3 0 = U 0 := hoff3 0 (by omega)
          have hwy : ∀ i q, 0 ≤ way (V 8) (V 9) (V 0 10) (U 19 i) q ∧ way (V 8) (V 9) (V 0 10) (U 19 i) q ≤ 100000 := fun i q => way_in hx hy hn40
          have hp6 : 2 ^ sz ≤ 2 ^ 6 := Nat.pow_le_pow_right (by omega) hsz6.1
          refine g_iconst dX7_arrange_132 ?_
          refine g_istore [(4, .int (iN 0)), (0, .ref (a 0)), (1, .int (iN (m : Int))), (2, .int (iN (fr : Int))), (3, .int (iN ((40 * m + fr : Nat) : Int)))] dX7_arrange_133 (by decide) rfl ?_
          refine g_iconst dX7_arrange_135 ?_
          refine g_istore [(5, .int (iN (-1))), (4, .int (iN 0)), (0, .ref (a 0)), (1, .int (iN (m : Int))), (2, .int (iN (fr : Int))), (3, .int (iN ((40 * m + fr : Nat) : Int)))] dX7_arrange_136 (by decide) rfl ?_
          refine g_iconst dX7_arrange_138 ?_
          refine g_istore [(6, .int (iN 0)), (5, .int (iN (-1))), (4, .int (iN 0)), (0, .ref (a 0)), (1, .int (iN (m : Int))), (2, .int (iN (fr : Int))), (3, .int (iN ((40 * m + fr : Nat) : Int)))] dX7_arrange_139 (by decide) rfl ?_
          refine g_lve (show ([(6, .int (iN 0)), (5, .int (iN (-1))), (4, .int (iN 0)), (0, .ref (a 0)), (1, .int (iN (m : Int))), (2, .int (iN (fr : Int))), (3, .int (iN ((40 * m + fr : Nat) : Int)))] : List (Nat × Value)) = ([(6, .int (iN 0)), (5, .int (iN (-1))), (4, .int (iN ((tSet (fun _ => 0) 0 : Nat) : Int))), (0, .ref (a 0)), (1, .int (iN (m : Int))), (2, .int (iN (fr : Int))), (3, .int (iN ((40 * m + fr : Nat) : Int)))] : List (Nat × Value)) from by rw [show 0 = ((tSet (fun _ => 0) 0 : Nat) : Int) from rfl]) ?_
          have lp_141 : ∀ (fuel : Nat) (n : Nat) (la : Int) (q : Nat → Nat) (W : Mem), (n ≤ sz) → ((n = 0 ∧ la = -1) ∨ (0 < n ∧ la = (q (n - 1) : Int))) → (layJ W V3 (40 * m + fr) (fun j => U 19 j) q n) → (∀ t, t < n → tPick sz (fun j => V 10 (U 19 j).toNat) (wA V3) (tFrom (fun i j => way (V 8) (V 9) (V 0 10) (U 19 i) (U 19 j)) (fun i => way (V 8) (V 9) (V 0 10) (U 19 i) (-1)) q t) (tSet q t) (q t)) → (pc6 (tSet q n) ≤ n) → (sz - n) < fuel → G l D (tysL τ) (LM τ) a mX7_arrange x 141 [(0, .ref (a 0)), (1, .int (iN (m : Int))), (2, .int (iN (fr : Int))), (3, .int (iN ((40 * m + fr : Nat) : Int))), (4, .int (iN ((tSet q n : Nat) : Int))), (5, .int (iN la)), (6, .int (iN (n : Int)))] [] W := by
            intro fuel
            induction fuel with
            | zero => intro n la q W hn hla hly hpk hpc hfu; exact absurd hfu (Nat.not_lt_zero _)
            | succ fuel ih_141 =>
              intro n la q W hn hla hly hpk hpc hfu
              have hst : tSet q n < 2 ^ sz := tSet_lt (fun j hj => (hpk j hj).1.1)
              have c0 : W 0 25 = (sz : Int) := by rw [hly.2.2 0 (by omega), b0]; exact u0
              have c010 : W 0 10 = V 0 10 := by rw [hly.2.2 0 (by omega), b0]; exact a0
              have c8 : W 8 = V 8 := by rw [hly.2.2 8 (by omega), hoff3 8 (by omega)]; exact a8
              have c9 : W 9 = V 9 := by rw [hly.2.2 9 (by omega), hoff3 9 (by omega)]; exact a9
              have c10 : W 10 = V 10 := by rw [hly.2.2 10 (by omega), hoff3 10 (by omega)]; exact a10
              have c19 : W 19 = U 19 := by rw [hly.2.2 19 (by omega)]; exact b19
              have c20 : W 20 = V3 20 := hly.2.2 20 (by omega)
              have hlar : -1 ≤ la ∧ la < (sz : Int) := by
                rcases hla with ⟨q1, q2⟩ | ⟨q1, q2⟩
                · omega
                · have := (hpk (n - 1) (by omega)).1.1; omega
              have hcA : ∀ k, tFol sz (fun j => V 10 (U 19 j).toNat) (tSet q n) k → 0 ≤ tFrom (fun i j => way (V 8) (V 9) (V 0 10) (U 19 i) (U 19 j)) (fun i => way (V 8) (V 9) (V 0 10) (U 19 i) (-1)) q n k + wA V3 (tSet q n ||| 2 ^ k) k ∧ tFrom (fun i j => way (V 8) (V 9) (V 0 10) (U 19 i) (U 19 j)) (fun i => way (V 8) (V 9) (V 0 10) (U 19 i) (-1)) q n k + wA V3 (tSet q n ||| 2 ^ k) k ≤ 6500000 := fun k hk => by
                have g1 := tOr_gt hk.2.1
                have g3 := (hA3 (tSet q n ||| 2 ^ k) k (tOr_lt hst hk.1) hk.1 (tBit_self _ _)).2.2.2
                have g4 : 0 ≤ tFrom (fun i j => way (V 8) (V 9) (V 0 10) (U 19 i) (U 19 j)) (fun i => way (V 8) (V 9) (V 0 10) (U 19 i) (-1)) q n k ∧ tFrom (fun i j => way (V 8) (V 9) (V 0 10) (U 19 i) (U 19 j)) (fun i => way (V 8) (V 9) (V 0 10) (U 19 i) (-1)) q n k ≤ 100000 := by
                  cases n with
                  | zero => exact hwy k (-1)
                  | succ n => exact hwy (q n) (U 19 k)
                omega
              refine g_iload 6 dX7_arrange_141 rfl ?_
              refine g_aload_n 0 dX7_arrange_143 rfl rfl ?_
              refine g_getf 0 (.int (iN (W 0 25))) fX7_150 om_0 dX7_arrange_144 rfl ?_
              refine g_top (show W 0 25 = (sz : Int) from c0) ?_
              refine g_icmp_ge 300 dX7_arrange_147 (by decide) (fun c_3 => ?_) (fun c_3 => ?_)
              · exact g_vret hq rfl dX7_arrange_300 (by
                      have hn9 : n = sz := by omega
                      subst hn9
                      have hord : tOrd n (fun j => V 10 (U 19 j).toNat) (fun i j => way (V 8) (V 9) (V 0 10) (U 19 i) (U 19 j)) (fun i => way (V 8) (V 9) (V 0 10) (U 19 i) (-1)) q := ⟨wA V3, fun set last h1 h2 h3 => by have := hA3 set last h1 h2 h3; exact ⟨this.1, this.2.1, this.2.2.1⟩, hpk⟩
                      refine ⟨fun t => U 19 (q t), ⟨q, tOrd_cg (fun i hi => by rw [hpj2.1 i hi]) (fun i j hi hj => by rw [hpj2.1 i hi, hpj2.1 j hj]) (fun i hi => by rw [hpj2.1 i hi]) hord, fun t ht => hpj2.1 (q t) (hpk t ht).1.1⟩, fun t ht => by rw [← Nat.add_assoc]; exact hly.1 t ht, fun j hj => ?_, fun j hj => ?_, fun c h1 h2 h3 h4 => ?_⟩
                      · rw [hly.2.1 j hj, hoff3 15 (by omega), u15]
                      · rw [hly.2.2 0 (by omega), b0, hpj.2 0 (by omega), eV1, up_ne (by omega)]
                      · rw [hly.2.2 c h2, hoff3 c h4, hpj.2 c h3, eV1, up_ne1 h1])
              · refine g_iconst dX7_arrange_150 ?_
                refine g_istore [(7, .int (iN (-1))), (0, .ref (a 0)), (1, .int (iN (m : Int))), (2, .int (iN (fr : Int))), (3, .int (iN ((40 * m + fr : Nat) : Int))), (4, .int (iN ((tSet q n : Nat) : Int))), (5, .int (iN la)), (6, .int (iN (n : Int)))] dX7_arrange_151 (by decide) rfl ?_
                refine g_ldc2 1000000000000 kX7_156 rfl dX7_arrange_153 ?_
                refine g_lstore [(8, .long (jN 1000000000000)), (7, .int (iN (-1))), (0, .ref (a 0)), (1, .int (iN (m : Int))), (2, .int (iN (fr : Int))), (3, .int (iN ((40 * m + fr : Nat) : Int))), (4, .int (iN ((tSet q n : Nat) : Int))), (5, .int (iN la)), (6, .int (iN (n : Int)))] dX7_arrange_156 (by decide) rfl ?_
                refine g_iconst dX7_arrange_158 ?_
                refine g_istore [(10, .int (iN 0)), (8, .long (jN 1000000000000)), (7, .int (iN (-1))), (0, .ref (a 0)), (1, .int (iN (m : Int))), (2, .int (iN (fr : Int))), (3, .int (iN ((40 * m + fr : Nat) : Int))), (4, .int (iN ((tSet q n : Nat) : Int))), (5, .int (iN la)), (6, .int (iN (n : Int)))] dX7_arrange_159 (by decide) rfl ?_
                have lp_161 : ∀ (fuel : Nat) (k : Nat) (be : Int) (pk : Int), (k ≤ sz) → (mnI (fun j => tFol sz (fun j => V 10 (U 19 j).toNat) (tSet q n) j) (fun j => tFrom (fun i j => way (V 8) (V 9) (V 0 10) (U 19 i) (U 19 j)) (fun i => way (V 8) (V 9) (V 0 10) (U 19 i) (-1)) q n j + wA V3 (tSet q n ||| 2 ^ j) j) 1000000000000 k be pk) → (sz - k) < fuel → G l D (tysL τ) (LM τ) a mX7_arrange x 161 [(0, .ref (a 0)), (1, .int (iN (m : Int))), (2, .int (iN (fr : Int))), (3, .int (iN ((40 * m + fr : Nat) : Int))), (4, .int (iN ((tSet q n : Nat) : Int))), (5, .int (iN la)), (6, .int (iN (n : Int))), (7, .int (iN pk)), (8, .long (jN be)), (10, .int (iN (k : Int)))] [] W := by
                  intro fuel
                  induction fuel with
                  | zero => intro k be pk hk hmn hfu; exact absurd hfu (Nat.not_lt_zero _)
                  | succ fuel ih_161 =>
                    intro k be pk hk hmn hfu
                    have tk := htr k
                    have tla := htr la.toNat
                    have hbr : -9223372036854775808 ≤ be ∧ be ≤ 1000000000000 := by
                      rcases hmn with ⟨q1, -, -⟩ | ⟨b9, -, q2, -, q4, -⟩
                      · omega
                      · rw [q4]; have := hcA b9 q2; dsimp only; omega
                    refine g_iload 9 dX7_arrange_161 rfl ?_
                    refine g_aload_n 0 dX7_arrange_163 rfl rfl ?_
                    refine g_getf 0 (.int (iN (W 0 25))) fX7_150 om_0 dX7_arrange_164 rfl ?_
                    refine g_top (show W 0 25 = (sz : Int) from c0) ?_
                    refine g_icmp_ge 265 dX7_arrange_167 (by decide) (fun c_4 => ?_) (fun c_4 => ?_)
                    · obtain ⟨b, hbs, hbp⟩ : ∃ b : Nat, pk = (b : Int) ∧ tPick sz (fun j => V 10 (U 19 j).toNat) (wA V3) (tFrom (fun i j => way (V 8) (V 9) (V 0 10) (U 19 i) (U 19 j)) (fun i => way (V 8) (V 9) (V 0 10) (U 19 i) (-1)) q n) (tSet q n) b := by
                        rcases hmn with ⟨z1, z2, z3⟩ | ⟨b, z1, z2, z3, z4, z5⟩
                        · obtain ⟨j, hj, hjb⟩ := left_some (show tSet q n < 64 by omega) hsz6.1 hpc (show n < sz by omega)
                          obtain ⟨i9, hi9⟩ := tFol_some (fun j => V 10 (U 19 j).toNat) ⟨j, hj, hjb⟩
                          exact absurd hi9 (z3 i9 (by have := hi9.1; omega))
                        · exact ⟨b, z3, z2, fun j hj => z5 j (by have := hj.1; omega) hj⟩
                      have hb6 := hbp.1.1
                      subst hbs
                      refine g_aload_n 0 dX7_arrange_265 rfl rfl ?_
                      refine g_getf 0 (.ref (a 15)) fX7_53 om_0 dX7_arrange_266 rfl ?_
                      refine g_iload_n 3 dX7_arrange_269 rfl rfl ?_
                      refine g_iload 6 dX7_arrange_270 rfl ?_
                      refine g_iadd dX7_arrange_272 ?_
                      refine g_aload_n 0 dX7_arrange_273 rfl rfl ?_
                      refine g_getf 0 (.ref (a 19)) fX7_66 om_0 dX7_arrange_274 rfl ?_
                      refine g_iload 7 dX7_arrange_277 rfl ?_
                      refine g_iald 19 b am_19 dX7_arrange_279 rfl (by omega) ?_
                      refine g_top (show W 19 b = (fun j => U 19 j) b from by rw [c19]) ?_
                      refine g_iast 15 (40 * m + fr + n) am_15 dX7_arrange_280 (by omega) (by omega) ?_
                      obtain ⟨V_5, eV_5⟩ : ∃ V9 : Mem, V9 = up W 15 (40 * m + fr + n) ((fun j => U 19 j) b) := ⟨_, rfl⟩
                      refine g_mem eV_5.symm ?_
                      refine g_iload 7 dX7_arrange_281 rfl ?_
                      refine g_istore [(5, .int (iN (b : Int))), (0, .ref (a 0)), (1, .int (iN (m : Int))), (2, .int (iN (fr : Int))), (3, .int (iN ((40 * m + fr : Nat) : Int))), (4, .int (iN ((tSet q n : Nat) : Int))), (6, .int (iN (n : Int))), (7, .int (iN (b : Int))), (8, .long (jN be)), (10, .int (iN (k : Int)))] dX7_arrange_283 (by decide) rfl ?_
                      refine g_iload 5 dX7_arrange_285 rfl ?_
                      refine g_iconst dX7_arrange_287 ?_
                      refine g_iload 7 dX7_arrange_288 rfl ?_
                      refine g_ishl ((2 ^ b : Nat) : Int) dX7_arrange_290 (iN_bit (by omega)) ?_
                      refine g_ior (((tSet q n) ||| (2 ^ b) : Nat) : Int) dX7_arrange_291 (iN_or _ _) ?_
                      refine g_istore [(4, .int (iN (((tSet q n) ||| (2 ^ b) : Nat) : Int))), (5, .int (iN (b : Int))), (0, .ref (a 0)), (1, .int (iN (m : Int))), (2, .int (iN (fr : Int))), (3, .int (iN ((40 * m + fr : Nat) : Int))), (6, .int (iN (n : Int))), (7, .int (iN (b : Int))), (8, .long (jN be)), (10, .int (iN (k : Int)))] dX7_arrange_292 (by decide) rfl ?_
                      refine g_iinc 6 [(6, .int (iN ((n : Int) + 1))), (4, .int (iN (((tSet q n) ||| (2 ^ b) : Nat) : Int))), (5, .int (iN (b : Int))), (0, .ref (a 0)), (1, .int (iN (m : Int))), (2, .int (iN (fr : Int))), (3, .int (iN ((40 * m + fr : Nat) : Int))), (7, .int (iN (b : Int))), (8, .long (jN be)), (10, .int (iN (k : Int)))] dX7_arrange_294 rfl (by decide) rfl ?_
                      refine g_goto 141 dX7_arrange_297 (by decide) ?_
                      refine g_lve (show ([(6, .int (iN ((n : Int) + 1))), (4, .int (iN (((tSet q n) ||| (2 ^ b) : Nat) : Int))), (5, .int (iN (b : Int))), (0, .ref (a 0)), (1, .int (iN (m : Int))), (2, .int (iN (fr : Int))), (3, .int (iN ((40 * m + fr : Nat) : Int))), (7, .int (iN (b : Int))), (8, .long (jN be)), (10, .int (iN (k : Int)))] : List (Nat × Value)) = ([(6, .int (iN ((n : Int) + 1))), (4, .int (iN ((tSet (fun t => if t = n then b else q t) (n + 1) : Nat) : Int))), (5, .int (iN (b : Int))), (0, .ref (a 0)), (1, .int (iN (m : Int))), (2, .int (iN (fr : Int))), (3, .int (iN ((40 * m + fr : Nat) : Int))), (7, .int (iN (b : Int))), (8, .long (jN be)), (10, .int (iN (k : Int)))] : List (Nat × Value)) from by rw [show (((tSet q n) ||| (2 ^ b) : Nat) : Int) = ((tSet (fun t => if t = n then b else q t) (n + 1) : Nat) : Int) from by simp only [tSet, if_true]; rw [tSet_set (Nat.le_refl n)]]) ?_
                      refine g_lv [3, 4, 5, 6, 1, 2, 0] rfl ?_
                      exact ih_141 (n + 1) (b : Int) (fun t => if t = n then b else q t) V_5 (by omega) (Or.inr ⟨by omega, by simp⟩) (by rw [eV_5]; exact layJ_s (T := (fun j => U 19 j)) hly) (pick_s hpk hbp) (by simp only [tSet, if_true]; rw [tSet_set (Nat.le_refl n)]; have := pc6_or (s := tSet q n) (b := b) (by omega) (by omega); omega) (by omega)
                    · refine g_aload_n 0 dX7_arrange_170 rfl rfl ?_
                      refine g_iload 4 dX7_arrange_171 rfl ?_
                      refine g_iload 9 dX7_arrange_173 rfl ?_
                      refine g_callI (k := 0) [.int (iN ((tSet q n : Nat) : Int)), .int (iN (k : Int))] (met_X7_mayCome (V := W) ha (tSet q n) k sz c0 hsz6.1 (by omega) (by omega) (by rw [c19, c010]; exact htr) (by rw [c010]; exact hn40) (by rw [c10]; exact hh0)) vX7_158 om_0 rfl rfl ⟨rfl, rfl, Nat.le_of_ble_eq_true rfl, Nat.le_of_ble_eq_true rfl⟩ rfl (Nat.le_of_ble_eq_true rfl) dX7_arrange_175 rfl ?_
                      rintro z9 V9 ⟨hp9, hV9⟩
                      replace hV9 := hV9.symm
                      subst hV9
                      rw [c10, c19] at hp9
                      rcases hp9 with ⟨hz9, b_6⟩ | ⟨hz9, b_6⟩
                      · subst hz9
                        have hcb := hcA k b_6
                        have hor := tOr_lt (sz := 6) (show tSet q n < 2 ^ 6 by omega) (show k < 6 by omega)
                        refine g_if_ne 184 dX7_arrange_178 (by decide) (fun _ => ?_) (fun c_7 => absurd c_7 (by decide))
                        refine g_iload 5 dX7_arrange_184 rfl ?_
                        refine g_iconst dX7_arrange_186 ?_
                        refine g_icmp_ne 204 dX7_arrange_187 (by decide) (fun c_8 => ?_) (fun c_8 => ?_)
                        · refine g_aload_n 0 dX7_arrange_204 rfl rfl ?_
                          refine g_aload_n 0 dX7_arrange_205 rfl rfl ?_
                          refine g_getf 0 (.ref (a 19)) fX7_66 om_0 dX7_arrange_206 rfl ?_
                          refine g_iload 5 dX7_arrange_209 rfl ?_
                          refine g_iald 19 la.toNat am_19 dX7_arrange_211 (by omega) (by omega) ?_
                          refine g_top (show W 19 la.toNat = (((U 19 la.toNat).toNat : Nat) : Int) from by rw [c19]; omega) ?_
                          refine g_aload_n 0 dX7_arrange_212 rfl rfl ?_
                          refine g_getf 0 (.ref (a 19)) fX7_66 om_0 dX7_arrange_213 rfl ?_
                          refine g_iload 9 dX7_arrange_216 rfl ?_
                          refine g_iald 19 k am_19 dX7_arrange_218 rfl (by omega) ?_
                          refine g_top (show W 19 k = (((U 19 k).toNat : Nat) : Int) from by rw [c19]; omega) ?_
                          refine g_callL (k := 0) [.int (iN (((U 19 la.toNat).toNat : Nat) : Int)), .int (iN (((U 19 k).toNat : Nat) : Int))] (met_X7_between (V := W) ha (U 19 la.toNat).toNat (U 19 k).toNat (by rw [c010]; omega) (by rw [c010]; omega) (by rw [c8]; exact hx) (by rw [c9]; exact hy) (by rw [c010]; exact hn40)) vX7_161 om_0 rfl rfl ⟨rfl, rfl, Nat.le_of_ble_eq_true rfl, Nat.le_of_ble_eq_true rfl⟩ rfl (Nat.le_of_ble_eq_true rfl) dX7_arrange_219 rfl ?_
                          rintro z9 V9 ⟨hz9, hV9⟩
                          replace hV9 := hV9.symm
                          subst hV9
                          rw [c8, c9, c010, show (((U 19 la.toNat).toNat : Nat) : Int) = U 19 la.toNat by omega, show (((U 19 k).toNat : Nat) : Int) = U 19 k by omega, show way (V 8) (V 9) (V 0 10) (U 19 la.toNat) (U 19 k) = tFrom (fun i j => way (V 8) (V 9) (V 0 10) (U 19 i) (U 19 j)) (fun i => way (V 8) (V 9) (V 0 10) (U 19 i) (-1)) q n k from by
                            rcases hla with ⟨z1, z2⟩ | ⟨z1, z2⟩
                            · omega
                            · obtain ⟨n, rfl⟩ : ∃ x, n = x + 1 := ⟨n - 1, by omega⟩
                              rw [z2]; rfl] at hz9
                          replace hz9 := hz9.symm
                          subst hz9
                          refine g_aload_n 0 dX7_arrange_222 rfl rfl ?_
                          refine g_getf 0 (.ref (a 20)) fX7_69 om_0 dX7_arrange_223 rfl ?_
                          refine g_bipush dX7_arrange_226 rfl ?_
                          refine g_iload 4 dX7_arrange_228 rfl ?_
                          refine g_iconst dX7_arrange_230 ?_
                          refine g_iload 9 dX7_arrange_231 rfl ?_
                          refine g_ishl ((2 ^ k : Nat) : Int) dX7_arrange_233 (iN_bit (by omega)) ?_
                          refine g_ior (((tSet q n) ||| (2 ^ k) : Nat) : Int) dX7_arrange_234 (iN_or _ _) ?_
                          refine g_imul dX7_arrange_235 ?_
                          refine g_iload 9 dX7_arrange_236 rfl ?_
                          refine g_iadd dX7_arrange_238 ?_
                          refine g_lald 20 (6 * (tSet q n ||| 2 ^ k) + k) am_20 dX7_arrange_239 (by omega) (by omega) ?_
                          refine g_topl (show W 20 (6 * (tSet q n ||| 2 ^ k) + k) = wA V3 (tSet q n ||| 2 ^ k) k from by rw [c20]; rfl) ?_
                          refine g_ladd dX7_arrange_240 ?_
                          refine g_lstore [(11, .long (jN ((tFrom (fun i j => way (V 8) (V 9) (V 0 10) (U 19 i) (U 19 j)) (fun i => way (V 8) (V 9) (V 0 10) (U 19 i) (-1)) q n k) + (wA V3 (tSet q n ||| 2 ^ k) k)))), (0, .ref (a 0)), (1, .int (iN (m : Int))), (2, .int (iN (fr : Int))), (3, .int (iN ((40 * m + fr : Nat) : Int))), (4, .int (iN ((tSet q n : Nat) : Int))), (5, .int (iN la)), (6, .int (iN (n : Int))), (7, .int (iN pk)), (8, .long (jN be)), (10, .int (iN (k : Int)))] dX7_arrange_241 (by decide) rfl ?_
                          refine g_lload 0 dX7_arrange_243 rfl ?_
                          refine g_lload 9 dX7_arrange_245 rfl ?_
                          refine g_lcmp (cmpz ((tFrom (fun i j => way (V 8) (V 9) (V 0 10) (U 19 i) (U 19 j)) (fun i => way (V 8) (V 9) (V 0 10) (U 19 i) (-1)) q n k) + (wA V3 (tSet q n ||| 2 ^ k) k)) be) dX7_arrange_247 (cmpz_j (by omega) (by omega)) ?_
                          have hcmp_9 := cmpz_c ((tFrom (fun i j => way (V 8) (V 9) (V 0 10) (U 19 i) (U 19 j)) (fun i => way (V 8) (V 9) (V 0 10) (U 19 i) (-1)) q n k) + (wA V3 (tSet q n ||| 2 ^ k) k)) be
                          refine g_if_ge 259 dX7_arrange_248 (by decide) (fun c_10 => ?_) (fun c_10 => ?_)
                          · refine g_iinc 10 [(10, .int (iN ((k : Int) + 1))), (11, .long (jN ((tFrom (fun i j => way (V 8) (V 9) (V 0 10) (U 19 i) (U 19 j)) (fun i => way (V 8) (V 9) (V 0 10) (U 19 i) (-1)) q n k) + (wA V3 (tSet q n ||| 2 ^ k) k)))), (0, .ref (a 0)), (1, .int (iN (m : Int))), (2, .int (iN (fr : Int))), (3, .int (iN ((40 * m + fr : Nat) : Int))), (4, .int (iN ((tSet q n : Nat) : Int))), (5, .int (iN la)), (6, .int (iN (n : Int))), (7, .int (iN pk)), (8, .long (jN be))] dX7_arrange_259 rfl (by decide) rfl ?_
                            refine g_goto 161 dX7_arrange_262 (by decide) ?_
                            refine g_lv [2, 3, 4, 5, 6, 7, 8, 9, 10, 0] rfl ?_
                            exact ih_161 (k + 1) be pk (by omega) (mnI_keep hmn b_6 (by omega) (by omega)) (by omega)
                          · refine g_lload 0 dX7_arrange_251 rfl ?_
                            refine g_lstore [(8, .long (jN ((tFrom (fun i j => way (V 8) (V 9) (V 0 10) (U 19 i) (U 19 j)) (fun i => way (V 8) (V 9) (V 0 10) (U 19 i) (-1)) q n k) + (wA V3 (tSet q n ||| 2 ^ k) k)))), (11, .long (jN ((tFrom (fun i j => way (V 8) (V 9) (V 0 10) (U 19 i) (U 19 j)) (fun i => way (V 8) (V 9) (V 0 10) (U 19 i) (-1)) q n k) + (wA V3 (tSet q n ||| 2 ^ k) k)))), (0, .ref (a 0)), (1, .int (iN (m : Int))), (2, .int (iN (fr : Int))), (3, .int (iN ((40 * m + fr : Nat) : Int))), (4, .int (iN ((tSet q n : Nat) : Int))), (5, .int (iN la)), (6, .int (iN (n : Int))), (7, .int (iN pk)), (10, .int (iN (k : Int)))] dX7_arrange_253 (by decide) rfl ?_
                            refine g_iload 10 dX7_arrange_255 rfl ?_
                            refine g_istore [(7, .int (iN (k : Int))), (8, .long (jN ((tFrom (fun i j => way (V 8) (V 9) (V 0 10) (U 19 i) (U 19 j)) (fun i => way (V 8) (V 9) (V 0 10) (U 19 i) (-1)) q n k) + (wA V3 (tSet q n ||| 2 ^ k) k)))), (11, .long (jN ((tFrom (fun i j => way (V 8) (V 9) (V 0 10) (U 19 i) (U 19 j)) (fun i => way (V 8) (V 9) (V 0 10) (U 19 i) (-1)) q n k) + (wA V3 (tSet q n ||| 2 ^ k) k)))), (0, .ref (a 0)), (1, .int (iN (m : Int))), (2, .int (iN (fr : Int))), (3, .int (iN ((40 * m + fr : Nat) : Int))), (4, .int (iN ((tSet q n : Nat) : Int))), (5, .int (iN la)), (6, .int (iN (n : Int))), (10, .int (iN (k : Int)))] dX7_arrange_257 (by decide) rfl ?_
                            refine g_iinc 10 [(10, .int (iN ((k : Int) + 1))), (7, .int (iN (k : Int))), (8, .long (jN ((tFrom (fun i j => way (V 8) (V 9) (V 0 10) (U 19 i) (U 19 j)) (fun i => way (V 8) (V 9) (V 0 10) (U 19 i) (-1)) q n k) + (wA V3 (tSet q n ||| 2 ^ k) k)))), (11, .long (jN ((tFrom (fun i j => way (V 8) (V 9) (V 0 10) (U 19 i) (U 19 j)) (fun i => way (V 8) (V 9) (V 0 10) (U 19 i) (-1)) q n k) + (wA V3 (tSet q n ||| 2 ^ k) k)))), (0, .ref (a 0)), (1, .int (iN (m : Int))), (2, .int (iN (fr : Int))), (3, .int (iN ((40 * m + fr : Nat) : Int))), (4, .int (iN ((tSet q n : Nat) : Int))), (5, .int (iN la)), (6, .int (iN (n : Int)))] dX7_arrange_259 rfl (by decide) rfl ?_
                            refine g_goto 161 dX7_arrange_262 (by decide) ?_
                            refine g_lv [4, 5, 6, 7, 8, 9, 10, 1, 2, 0] rfl ?_
                            exact ih_161 (k + 1) (tFrom (fun i j => way (V 8) (V 9) (V 0 10) (U 19 i) (U 19 j)) (fun i => way (V 8) (V 9) (V 0 10) (U 19 i) (-1)) q n k + wA V3 (tSet q n ||| 2 ^ k) k) (k : Int) (by omega) (mnI_take hmn b_6 (by omega)) (by omega)
                        · refine g_aload_n 0 dX7_arrange_190 rfl rfl ?_
                          refine g_aload_n 0 dX7_arrange_191 rfl rfl ?_
                          refine g_getf 0 (.ref (a 19)) fX7_66 om_0 dX7_arrange_192 rfl ?_
                          refine g_iload 9 dX7_arrange_195 rfl ?_
                          refine g_iald 19 k am_19 dX7_arrange_197 rfl (by omega) ?_
                          refine g_top (show W 19 k = (((U 19 k).toNat : Nat) : Int) from by rw [c19]; omega) ?_
                          refine g_callL (k := 0) [.int (iN (((U 19 k).toNat : Nat) : Int))] (met_X7_fromHome (V := W) ha (U 19 k).toNat (by rw [c010]; omega) (by rw [c8]; exact hx) (by rw [c9]; exact hy) (by rw [c010]; exact hn40)) vX7_152 om_0 rfl rfl ⟨rfl, rfl, Nat.le_of_ble_eq_true rfl, Nat.le_of_ble_eq_true rfl⟩ rfl (Nat.le_of_ble_eq_true rfl) dX7_arrange_198 rfl ?_
                          rintro z9 V9 ⟨hz9, hV9⟩
                          replace hV9 := hV9.symm
                          subst hV9
                          rw [c8, c9, c010, show (((U 19 k).toNat : Nat) : Int) = U 19 k by omega, show way (V 8) (V 9) (V 0 10) (U 19 k) (-1) = tFrom (fun i j => way (V 8) (V 9) (V 0 10) (U 19 i) (U 19 j)) (fun i => way (V 8) (V 9) (V 0 10) (U 19 i) (-1)) q n k from by rw [show n = 0 by omega]; rfl] at hz9
                          replace hz9 := hz9.symm
                          subst hz9
                          refine g_goto 222 dX7_arrange_201 (by decide) ?_
                          refine g_aload_n 0 dX7_arrange_222 rfl rfl ?_
                          refine g_getf 0 (.ref (a 20)) fX7_69 om_0 dX7_arrange_223 rfl ?_
                          refine g_bipush dX7_arrange_226 rfl ?_
                          refine g_iload 4 dX7_arrange_228 rfl ?_
                          refine g_iconst dX7_arrange_230 ?_
                          refine g_iload 9 dX7_arrange_231 rfl ?_
                          refine g_ishl ((2 ^ k : Nat) : Int) dX7_arrange_233 (iN_bit (by omega)) ?_
                          refine g_ior (((tSet q n) ||| (2 ^ k) : Nat) : Int) dX7_arrange_234 (iN_or _ _) ?_
                          refine g_imul dX7_arrange_235 ?_
                          refine g_iload 9 dX7_arrange_236 rfl ?_
                          refine g_iadd dX7_arrange_238 ?_
                          refine g_lald 20 (6 * (tSet q n ||| 2 ^ k) + k) am_20 dX7_arrange_239 (by omega) (by omega) ?_
                          refine g_topl (show W 20 (6 * (tSet q n ||| 2 ^ k) + k) = wA V3 (tSet q n ||| 2 ^ k) k from by rw [c20]; rfl) ?_
                          refine g_ladd dX7_arrange_240 ?_
                          refine g_lstore [(11, .long (jN ((tFrom (fun i j => way (V 8) (V 9) (V 0 10) (U 19 i) (U 19 j)) (fun i => way (V 8) (V 9) (V 0 10) (U 19 i) (-1)) q n k) + (wA V3 (tSet q n ||| 2 ^ k) k)))), (0, .ref (a 0)), (1, .int (iN (m : Int))), (2, .int (iN (fr : Int))), (3, .int (iN ((40 * m + fr : Nat) : Int))), (4, .int (iN ((tSet q n : Nat) : Int))), (5, .int (iN la)), (6, .int (iN (n : Int))), (7, .int (iN pk)), (8, .long (jN be)), (10, .int (iN (k : Int)))] dX7_arrange_241 (by decide) rfl ?_
                          refine g_lload 0 dX7_arrange_243 rfl ?_
                          refine g_lload 9 dX7_arrange_245 rfl ?_
                          refine g_lcmp (cmpz ((tFrom (fun i j => way (V 8) (V 9) (V 0 10) (U 19 i) (U 19 j)) (fun i => way (V 8) (V 9) (V 0 10) (U 19 i) (-1)) q n k) + (wA V3 (tSet q n ||| 2 ^ k) k)) be) dX7_arrange_247 (cmpz_j (by omega) (by omega)) ?_
                          have hcmp_11 := cmpz_c ((tFrom (fun i j => way (V 8) (V 9) (V 0 10) (U 19 i) (U 19 j)) (fun i => way (V 8) (V 9) (V 0 10) (U 19 i) (-1)) q n k) + (wA V3 (tSet q n ||| 2 ^ k) k)) be
                          refine g_if_ge 259 dX7_arrange_248 (by decide) (fun c_12 => ?_) (fun c_12 => ?_)
                          · refine g_iinc 10 [(10, .int (iN ((k : Int) + 1))), (11, .long (jN ((tFrom (fun i j => way (V 8) (V 9) (V 0 10) (U 19 i) (U 19 j)) (fun i => way (V 8) (V 9) (V 0 10) (U 19 i) (-1)) q n k) + (wA V3 (tSet q n ||| 2 ^ k) k)))), (0, .ref (a 0)), (1, .int (iN (m : Int))), (2, .int (iN (fr : Int))), (3, .int (iN ((40 * m + fr : Nat) : Int))), (4, .int (iN ((tSet q n : Nat) : Int))), (5, .int (iN la)), (6, .int (iN (n : Int))), (7, .int (iN pk)), (8, .long (jN be))] dX7_arrange_259 rfl (by decide) rfl ?_
                            refine g_goto 161 dX7_arrange_262 (by decide) ?_
                            refine g_lv [2, 3, 4, 5, 6, 7, 8, 9, 10, 0] rfl ?_
                            exact ih_161 (k + 1) be pk (by omega) (mnI_keep hmn b_6 (by omega) (by omega)) (by omega)
                          · refine g_lload 0 dX7_arrange_251 rfl ?_
                            refine g_lstore [(8, .long (jN ((tFrom (fun i j => way (V 8) (V 9) (V 0 10) (U 19 i) (U 19 j)) (fun i => way (V 8) (V 9) (V 0 10) (U 19 i) (-1)) q n k) + (wA V3 (tSet q n ||| 2 ^ k) k)))), (11, .long (jN ((tFrom (fun i j => way (V 8) (V 9) (V 0 10) (U 19 i) (U 19 j)) (fun i => way (V 8) (V 9) (V 0 10) (U 19 i) (-1)) q n k) + (wA V3 (tSet q n ||| 2 ^ k) k)))), (0, .ref (a 0)), (1, .int (iN (m : Int))), (2, .int (iN (fr : Int))), (3, .int (iN ((40 * m + fr : Nat) : Int))), (4, .int (iN ((tSet q n : Nat) : Int))), (5, .int (iN la)), (6, .int (iN (n : Int))), (7, .int (iN pk)), (10, .int (iN (k : Int)))] dX7_arrange_253 (by decide) rfl ?_
                            refine g_iload 10 dX7_arrange_255 rfl ?_
                            refine g_istore [(7, .int (iN (k : Int))), (8, .long (jN ((tFrom (fun i j => way (V 8) (V 9) (V 0 10) (U 19 i) (U 19 j)) (fun i => way (V 8) (V 9) (V 0 10) (U 19 i) (-1)) q n k) + (wA V3 (tSet q n ||| 2 ^ k) k)))), (11, .long (jN ((tFrom (fun i j => way (V 8) (V 9) (V 0 10) (U 19 i) (U 19 j)) (fun i => way (V 8) (V 9) (V 0 10) (U 19 i) (-1)) q n k) + (wA V3 (tSet q n ||| 2 ^ k) k)))), (0, .ref (a 0)), (1, .int (iN (m : Int))), (2, .int (iN (fr : Int))), (3, .int (iN ((40 * m + fr : Nat) : Int))), (4, .int (iN ((tSet q n : Nat) : Int))), (5, .int (iN la)), (6, .int (iN (n : Int))), (10, .int (iN (k : Int)))] dX7_arrange_257 (by decide) rfl ?_
                            refine g_iinc 10 [(10, .int (iN ((k : Int) + 1))), (7, .int (iN (k : Int))), (8, .long (jN ((tFrom (fun i j => way (V 8) (V 9) (V 0 10) (U 19 i) (U 19 j)) (fun i => way (V 8) (V 9) (V 0 10) (U 19 i) (-1)) q n k) + (wA V3 (tSet q n ||| 2 ^ k) k)))), (11, .long (jN ((tFrom (fun i j => way (V 8) (V 9) (V 0 10) (U 19 i) (U 19 j)) (fun i => way (V 8) (V 9) (V 0 10) (U 19 i) (-1)) q n k) + (wA V3 (tSet q n ||| 2 ^ k) k)))), (0, .ref (a 0)), (1, .int (iN (m : Int))), (2, .int (iN (fr : Int))), (3, .int (iN ((40 * m + fr : Nat) : Int))), (4, .int (iN ((tSet q n : Nat) : Int))), (5, .int (iN la)), (6, .int (iN (n : Int)))] dX7_arrange_259 rfl (by decide) rfl ?_
                            refine g_goto 161 dX7_arrange_262 (by decide) ?_
                            refine g_lv [4, 5, 6, 7, 8, 9, 10, 1, 2, 0] rfl ?_
                            exact ih_161 (k + 1) (tFrom (fun i j => way (V 8) (V 9) (V 0 10) (U 19 i) (U 19 j)) (fun i => way (V 8) (V 9) (V 0 10) (U 19 i) (-1)) q n k + wA V3 (tSet q n ||| 2 ^ k) k) (k : Int) (by omega) (mnI_take hmn b_6 (by omega)) (by omega)
                      · subst hz9
                        refine g_if_ne 184 dX7_arrange_178 (by decide) (fun c_13 => absurd c_13 (by decide)) (fun _ => ?_)
                        refine g_goto 259 dX7_arrange_181 (by decide) ?_
                        refine g_iinc 9 [(10, .int (iN ((k : Int) + 1))), (0, .ref (a 0)), (1, .int (iN (m : Int))), (2, .int (iN (fr : Int))), (3, .int (iN ((40 * m + fr : Nat) : Int))), (4, .int (iN ((tSet q n : Nat) : Int))), (5, .int (iN la)), (6, .int (iN (n : Int))), (7, .int (iN pk)), (8, .long (jN be))] dX7_arrange_259 rfl (by decide) rfl ?_
                        refine g_goto 161 dX7_arrange_262 (by decide) ?_
                        refine g_lv [1, 2, 3, 4, 5, 6, 7, 8, 9, 0] rfl ?_
                        exact ih_161 (k + 1) be pk (by omega) (mnI_skip hmn b_6) (by omega)
                refine g_lv [3, 4, 5, 6, 7, 8, 9, 2, 1, 0] rfl ?_
                exact lp_161 _ 0 1000000000000 (-1) (by omega) mnI_0 (Nat.lt_succ_self _)
          refine g_lv [3, 4, 5, 6, 2, 1, 0] rfl ?_
          exact lp_141 _ 0 (-1) (fun _ => 0) V3 (by omega) (Or.inl ⟨rfl, rfl⟩) (⟨fun t h => absurd h (Nat.not_lt_zero _), fun _ _ => rfl, fun _ _ => rfl⟩) (fun t h => absurd h (Nat.not_lt_zero _)) (by decide) (Nat.lt_succ_self _)
        · refine g_aload_n 0 dX7_arrange_57 rfl rfl ?_
          refine g_getf 0 (.ref (a 15)) fX7_53 om_0 dX7_arrange_58 rfl ?_
          refine g_iload_n 3 dX7_arrange_61 rfl rfl ?_
          refine g_iload 4 dX7_arrange_62 rfl ?_
          refine g_iadd dX7_arrange_64 ?_
          refine g_iald 15 (40 * m + (fr + i)) am_15 dX7_arrange_65 (by omega) (by omega) ?_
          refine g_top (show U 15 (40 * m + (fr + i)) = V 15 (40 * m + (fr + i)) from by rw [u15]) ?_
          refine g_istore [(5, .int (iN (V 15 (40 * m + (fr + i))))), (0, .ref (a 0)), (1, .int (iN (m : Int))), (2, .int (iN (fr : Int))), (3, .int (iN ((40 * m + fr : Nat) : Int))), (4, .int (iN (i : Int)))] dX7_arrange_66 (by decide) rfl ?_
          have jn_113 : ∀ (t : Nat) (U2 : Mem), (t ≤ i) → (U2 = shiftM U 19 t i) → (insN (U 19) (V 15 (40 * m + (fr + i))) i = t) → G l D (tysL τ) (LM τ) a mX7_arrange x 113 [(0, .ref (a 0)), (1, .int (iN (m : Int))), (2, .int (iN (fr : Int))), (3, .int (iN ((40 * m + fr : Nat) : Int))), (4, .int (iN (i : Int))), (5, .int (iN (V 15 (40 * m + (fr + i))))), (6, .int (iN (t : Int)))] [] U2 := by
            intro t U2 ht hU2 hfin
            have hpv : 0 < t → 0 ≤ U 19 (t - 1) ∧ U 19 (t - 1) < V 0 10 := fun h0 => by
              rw [hpj.1 (t - 1) (by omega)]
              exact poolF_all (P := fun z => 0 ≤ z ∧ z < V 0 10) (fun j hj => hrw (fr + j) (by omega)) (t - 1) (by omega)
            have v19 : 0 < t → U2 19 (t - 1) = U 19 (t - 1) := fun h0 => by rw [hU2, shiftM_lo (by omega)]
            refine g_aload_n 0 dX7_arrange_113 rfl rfl ?_
            refine g_getf 0 (.ref (a 19)) fX7_66 om_0 dX7_arrange_114 rfl ?_
            refine g_iload 6 dX7_arrange_117 rfl ?_
            refine g_iload 5 dX7_arrange_119 rfl ?_
            refine g_iast 19 t am_19 dX7_arrange_121 rfl (by omega) ?_
            obtain ⟨V_14, eV_14⟩ : ∃ V9 : Mem, V9 = up U2 19 t (V 15 (40 * m + (fr + i))) := ⟨_, rfl⟩
            refine g_mem eV_14.symm ?_
            refine g_iinc 4 [(4, .int (iN ((i : Int) + 1))), (0, .ref (a 0)), (1, .int (iN (m : Int))), (2, .int (iN (fr : Int))), (3, .int (iN ((40 * m + fr : Nat) : Int))), (5, .int (iN (V 15 (40 * m + (fr + i))))), (6, .int (iN (t : Int)))] dX7_arrange_122 rfl (by decide) rfl ?_
            refine g_goto 48 dX7_arrange_125 (by decide) ?_
            refine g_lv [1, 2, 3, 4, 0] rfl ?_
            exact ih_48 (i + 1) V_14 (by omega) (by rw [eV_14, hU2, ← hfin]; exact poolJ_s hpj) (by omega)
          refine g_iload 5 dX7_arrange_68 rfl ?_
          refine g_istore [(6, .int (iN (i : Int))), (5, .int (iN (V 15 (40 * m + (fr + i))))), (0, .ref (a 0)), (1, .int (iN (m : Int))), (2, .int (iN (fr : Int))), (3, .int (iN ((40 * m + fr : Nat) : Int))), (4, .int (iN (i : Int)))] dX7_arrange_70 (by decide) rfl ?_
          have lp_72 : ∀ (fuel : Nat) (t : Nat) (U2 : Mem), (t ≤ i) → (U2 = shiftM U 19 t i) → (insN (U 19) (V 15 (40 * m + (fr + i))) i = insN (U 19) (V 15 (40 * m + (fr + i))) t) → (t) < fuel → G l D (tysL τ) (LM τ) a mX7_arrange x 72 [(0, .ref (a 0)), (1, .int (iN (m : Int))), (2, .int (iN (fr : Int))), (3, .int (iN ((40 * m + fr : Nat) : Int))), (4, .int (iN (i : Int))), (5, .int (iN (V 15 (40 * m + (fr + i))))), (6, .int (iN (t : Int)))] [] U2 := by
            intro fuel
            induction fuel with
            | zero => intro t U2 ht hU2 hfi hfu; exact absurd hfu (Nat.not_lt_zero _)
            | succ fuel ih_72 =>
              intro t U2 ht hU2 hfi hfu
              have hpv : 0 < t → 0 ≤ U 19 (t - 1) ∧ U 19 (t - 1) < V 0 10 := fun h0 => by
                rw [hpj.1 (t - 1) (by omega)]
                exact poolF_all (P := fun z => 0 ≤ z ∧ z < V 0 10) (fun j hj => hrw (fr + j) (by omega)) (t - 1) (by omega)
              have v19 : 0 < t → U2 19 (t - 1) = U 19 (t - 1) := fun h0 => by rw [hU2, shiftM_lo (by omega)]
              refine g_iload 6 dX7_arrange_72 rfl ?_
              refine g_if_le 113 dX7_arrange_74 (by decide) (fun c_15 => ?_) (fun c_15 => ?_)
              · exact jn_113 t U2 ht hU2 (by
                    rcases Nat.eq_zero_or_pos t with e0 | e0
                    · rw [hfi, e0]; rfl
                    · have hge9 : ¬ V 15 (40 * m + (fr + i)) < U 19 (t - 1) := by omega
                      obtain ⟨t, rfl⟩ : ∃ q, t = q + 1 := ⟨t - 1, by omega⟩
                      rw [hfi]; exact insN_f hge9)
              · refine g_aload_n 0 dX7_arrange_77 rfl rfl ?_
                refine g_getf 0 (.ref (a 19)) fX7_66 om_0 dX7_arrange_78 rfl ?_
                refine g_iload 6 dX7_arrange_81 rfl ?_
                refine g_iconst dX7_arrange_83 ?_
                refine g_isub dX7_arrange_84 ?_
                refine g_iald 19 (t - 1) am_19 dX7_arrange_85 (by omega) (by omega) ?_
                refine g_top (show U2 19 (t - 1) = U 19 (t - 1) from v19 (by omega)) ?_
                refine g_iload 5 dX7_arrange_86 rfl ?_
                refine g_icmp_le 113 dX7_arrange_88 (by decide) (fun c_16 => ?_) (fun c_16 => ?_)
                · exact jn_113 t U2 ht hU2 (by
                      rcases Nat.eq_zero_or_pos t with e0 | e0
                      · rw [hfi, e0]; rfl
                      · have hge9 : ¬ V 15 (40 * m + (fr + i)) < U 19 (t - 1) := by omega
                        obtain ⟨t, rfl⟩ : ∃ q, t = q + 1 := ⟨t - 1, by omega⟩
                        rw [hfi]; exact insN_f hge9)
                · refine g_aload_n 0 dX7_arrange_91 rfl rfl ?_
                  refine g_getf 0 (.ref (a 19)) fX7_66 om_0 dX7_arrange_92 rfl ?_
                  refine g_iload 6 dX7_arrange_95 rfl ?_
                  refine g_aload_n 0 dX7_arrange_97 rfl rfl ?_
                  refine g_getf 0 (.ref (a 19)) fX7_66 om_0 dX7_arrange_98 rfl ?_
                  refine g_iload 6 dX7_arrange_101 rfl ?_
                  refine g_iconst dX7_arrange_103 ?_
                  refine g_isub dX7_arrange_104 ?_
                  refine g_iald 19 (t - 1) am_19 dX7_arrange_105 (by omega) (by omega) ?_
                  refine g_top (show U2 19 (t - 1) = U 19 (t - 1) from v19 (by omega)) ?_
                  refine g_iast 19 t am_19 dX7_arrange_106 rfl (by omega) ?_
                  obtain ⟨V_17, eV_17⟩ : ∃ V9 : Mem, V9 = up U2 19 t (U 19 (t - 1)) := ⟨_, rfl⟩
                  refine g_mem eV_17.symm ?_
                  refine g_iinc 6 [(6, .int (iN ((t : Int) + (-1)))), (0, .ref (a 0)), (1, .int (iN (m : Int))), (2, .int (iN (fr : Int))), (3, .int (iN ((40 * m + fr : Nat) : Int))), (4, .int (iN (i : Int))), (5, .int (iN (V 15 (40 * m + (fr + i)))))] dX7_arrange_107 rfl (by decide) rfl ?_
                  refine g_goto 72 dX7_arrange_110 (by decide) ?_
                  refine g_lve (show ([(6, .int (iN ((t : Int) + (-1)))), (0, .ref (a 0)), (1, .int (iN (m : Int))), (2, .int (iN (fr : Int))), (3, .int (iN ((40 * m + fr : Nat) : Int))), (4, .int (iN (i : Int))), (5, .int (iN (V 15 (40 * m + (fr + i)))))] : List (Nat × Value)) = ([(6, .int (iN ((t - 1 : Nat) : Int))), (0, .ref (a 0)), (1, .int (iN (m : Int))), (2, .int (iN (fr : Int))), (3, .int (iN ((40 * m + fr : Nat) : Int))), (4, .int (iN (i : Int))), (5, .int (iN (V 15 (40 * m + (fr + i)))))] : List (Nat × Value)) from by rw [show (t : Int) + (-1) = ((t - 1 : Nat) : Int) from by omega]) ?_
                  refine g_lv [1, 2, 3, 4, 5, 6, 0] rfl ?_
                  exact ih_72 (t - 1) V_17 (by omega) (by rw [eV_17, hU2]; obtain ⟨t, rfl⟩ : ∃ q, t = q + 1 := ⟨t - 1, by omega⟩; exact shiftM_s (by omega)) (by
                      have hlt9 : V 15 (40 * m + (fr + i)) < U 19 (t - 1) := by omega
                      obtain ⟨t, rfl⟩ : ∃ q, t = q + 1 := ⟨t - 1, by omega⟩
                      rw [hfi]; exact insN_t hlt9) (by omega)
          refine g_lv [2, 3, 4, 5, 6, 1, 0] rfl ?_
          exact lp_72 _ i U (Nat.le_refl _) shiftM_n.symm rfl (Nat.lt_succ_self _)
    refine g_lv [1, 2, 3, 4, 0] rfl ?_
    exact lp_48 _ 0 V1 (by omega) (⟨fun j h => absurd h (Nat.not_lt_zero _), fun _ _ => rfl⟩) (Nat.lt_succ_self _)
  refine g_aload_n 1 dX7_arrange_7 rfl rfl ?_
  refine g_aload_n 1 dX7_arrange_8 rfl rfl ?_
  refine g_getf 0 (.ref (a 14)) fX7_50 om_0 dX7_arrange_9 rfl ?_
  refine g_iload_n 2 dX7_arrange_12 rfl rfl ?_
  refine g_iald 14 m am_14 dX7_arrange_13 rfl (by omega) ?_
  refine g_top (show V 14 m = (cn : Int) from hcn) ?_
  refine g_iload_n 3 dX7_arrange_14 rfl rfl ?_
  refine g_isub dX7_arrange_15 ?_
  refine g_aload_n 1 dX7_arrange_16 rfl rfl ?_
  refine g_getf 0 (.ref (a 12)) fX7_44 om_0 dX7_arrange_17 rfl ?_
  refine g_iload_n 2 dX7_arrange_20 rfl rfl ?_
  refine g_iald 12 m am_12 dX7_arrange_21 rfl (by omega) ?_
  refine g_top (show V 12 m = (cr : Int) from hcr) ?_
  refine g_icmp_ge 36 dX7_arrange_22 (by decide) (fun c_18 => ?_) (fun c_18 => ?_)
  · refine g_aload_n 1 dX7_arrange_36 rfl rfl ?_
    refine g_getf 0 (.ref (a 12)) fX7_44 om_0 dX7_arrange_37 rfl ?_
    refine g_iload_n 2 dX7_arrange_40 rfl rfl ?_
    refine g_iald 12 m am_12 dX7_arrange_41 rfl (by omega) ?_
    refine g_lv [1, 2, 3, 0] rfl ?_
    exact jn_42 (V 12 m) (by rw [hsz0]; omega)
  · refine g_aload_n 1 dX7_arrange_25 rfl rfl ?_
    refine g_getf 0 (.ref (a 14)) fX7_50 om_0 dX7_arrange_26 rfl ?_
    refine g_iload_n 2 dX7_arrange_29 rfl rfl ?_
    refine g_iald 14 m am_14 dX7_arrange_30 rfl (by omega) ?_
    refine g_top (show V 14 m = (cn : Int) from hcn) ?_
    refine g_iload_n 3 dX7_arrange_31 rfl rfl ?_
    refine g_isub dX7_arrange_32 ?_
    refine g_goto 42 dX7_arrange_33 (by decide) ?_
    refine g_lv [1, 2, 3, 0] rfl ?_
    exact jn_42 ((cn : Int) - (fr : Int)) (by rw [hsz0]; omega)
