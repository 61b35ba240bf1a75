set_option maxHeartbeats 4000000 in
/-- TripPlan.layOut(row, from) -/
theorem met_X5_layOut {l : Launch} {D : va_G} {τ : Nat → ClassId} {a : Nat → Nat} (ha : Apart (LX τ) a) {V : Mem} {B : Nat} (hB : ArI (LX τ) a (tysL τ) B 40) (fr : Nat) (sz : Nat) (hsz : V 44 4 = (sz : Int)) (hsz6 : sz ≤ 6) (hg : Nat → Int) (ds : Nat → Nat → Int) (hm : Nat → Int) (hB2 : B < 44) (hfr40 : fr + sz ≤ 40) (hrow : ∀ k, k < sz → mRow V sz hg ds hm k) (hds : ∀ i j, i < sz → j < sz → 0 ≤ ds i j ∧ ds i j ≤ 100000) (hhm : ∀ i, i < sz → 0 ≤ hm i ∧ hm i ≤ 100000) (hWL : tWL sz hg ds hm (fun q r => V (56 + q) r)) (hAt : ∀ set last, set < 2 ^ sz → last < sz → set.testBit last = true → tAt sz hg ds hm (fun q r => V (56 + q) r) set last) : CV l D (tysL τ) (LX τ) a yX5_layOut mX5_layOut [.ref (a 44), .ref (a B), .int (iN (fr : Int))] V (fun V' => ∃ q, tOrd sz hg ds hm q ∧ V' = layM V B fr q sz) := by
  refine CV.of (by decide +kernel) rfl (Nat.le_of_ble_eq_true rfl) ha (fun x hq => ?_)
  show G l D (tysL τ) (LX τ) a mX5_layOut x 0 [(0, .ref (a 44)), (1, .ref (a B)), (2, .int (iN (fr : Int)))] [] V
  have hp2 : 0 < 2 ^ sz := Nat.two_pow_pos sz
  have hp6 : 2 ^ sz ≤ 2 ^ 6 := Nat.pow_le_pow_right (by omega) hsz6
  obtain ⟨lo, hlo⟩ := loF hrow
  refine g_iconst dX5_layOut_0 ?_
  refine g_istore_n [(3, .int (iN 0)), (0, .ref (a 44)), (1, .ref (a B)), (2, .int (iN (fr : Int)))] dX5_layOut_1 rfl (by decide) rfl ?_
  refine g_bipush dX5_layOut_2 rfl ?_
  refine g_istore [(4, .int (iN 6)), (3, .int (iN 0)), (0, .ref (a 44)), (1, .ref (a B)), (2, .int (iN (fr : Int)))] dX5_layOut_4 (by decide) rfl ?_
  refine g_iconst dX5_layOut_6 ?_
  refine g_istore [(5, .int (iN 0)), (4, .int (iN 6)), (3, .int (iN 0)), (0, .ref (a 44)), (1, .ref (a B)), (2, .int (iN (fr : Int)))] dX5_layOut_7 (by decide) rfl ?_
  have lp_9 : ∀ (fuel : Nat) (i : Nat) (s : Nat) (last : Nat) (q : Nat → Nat) (U : Mem), (i ≤ sz) → (s < 2 ^ sz) → (pc6 s ≤ i) → (s = tSet q i) → (last < 7) → (∀ k, k < sz → V (48 + last) k = tFrom ds hm q i k) → (∀ t, t < i → tPick sz hg (fun q r => V (56 + q) r) (tFrom ds hm q t) (tSet q t) (q t)) → (U = layM V B fr q i) → (sz - i) < fuel → G l D (tysL τ) (LX τ) a mX5_layOut x 9 [(0, .ref (a 44)), (1, .ref (a B)), (2, .int (iN (fr : Int))), (3, .int (iN (s : Int))), (4, .int (iN (last : Int))), (5, .int (iN (i : Int)))] [] U := by
    intro fuel
    induction fuel with
    | zero => intro i s last q U hi hs hpc hset hl7 hwl hpick hU hfu; exact absurd hfu (Nat.not_lt_zero _)
    | succ fuel ih_9 =>
      intro i s last q U hi hs hpc hset hl7 hwl hpick hU hfu
      have u44 : U 44 = V 44 := by rw [hU]; exact layM_ne (by omega)
      have u45 : U 45 = V 45 := by rw [hU]; exact layM_ne (by omega)
      have u46 : U 46 = V 46 := by rw [hU]; exact layM_ne (by omega)
      have huM : ∀ k, U (56 + (s ||| 2 ^ k)) k = V (56 + (s ||| 2 ^ k)) k := fun k => by rw [hU, layM_ne (by omega)]
      have huW : ∀ k, U (48 + last) k = V (48 + last) k := fun k => by rw [hU, layM_ne (by omega)]
      have hfr : ∀ k, k < sz → 0 ≤ tFrom ds hm q i k ∧ tFrom ds hm q i k ≤ 100000 := fun k hk => by
        cases i with
        | zero => exact hhm k hk
        | succ i => exact hds (q i) k (hpick i (by omega)).1.1 hk
      refine g_iload 5 dX5_layOut_9 rfl ?_
      refine g_aload_n 0 dX5_layOut_11 rfl rfl ?_
      refine g_getf 44 (.int (iN (U 44 4))) fX5_26 ox_44 dX5_layOut_12 rfl ?_
      refine g_top (show U 44 4 = (sz : Int) from by rw [u44]; exact hsz) ?_
      refine g_icmp_ge 69 dX5_layOut_15 (by decide) (fun c_1 => ?_) (fun c_1 => ?_)
      · exact g_vret hq rfl dX5_layOut_69 (⟨q, ⟨_, hWL, fun t ht => hpick t (by omega)⟩, by rw [hU, show i = sz by omega]⟩)
      · refine g_aload_n 0 dX5_layOut_18 rfl rfl ?_
        refine g_iload_n 3 dX5_layOut_19 rfl rfl ?_
        refine g_aload_n 0 dX5_layOut_20 rfl rfl ?_
        refine g_iload_n 3 dX5_layOut_21 rfl rfl ?_
        refine g_callI (k := 44) [.int (iN (s : Int))] (met_X5_followersOf (V := U) ha s sz (by rw [u44]; exact hsz) hsz6 lo (fun i hi => ⟨by rw [u46]; exact (hlo i hi).1, (hlo i hi).2.1⟩) (by omega)) vX5_68 ox_44 rfl rfl ⟨rfl, rfl, Nat.le_of_ble_eq_true rfl, Nat.le_of_ble_eq_true rfl⟩ rfl (Nat.le_of_ble_eq_true rfl) dX5_layOut_22 rfl ?_
        rintro z9 V9 ⟨⟨f, hz9, hf64, hfb⟩, hV9⟩
        replace hV9 := hV9.symm
        subst hV9
        subst hz9
        have hfol := folIff (hg := hg) hsz6 (by omega) (fun i hi => (hlo i hi).2) hfb
        refine g_iload 4 dX5_layOut_25 rfl ?_
        have hwb : ∀ k, tFol sz hg s k → 0 ≤ tFrom ds hm q i k + V (56 + (s ||| 2 ^ k)) k ∧ tFrom ds hm q i k + V (56 + (s ||| 2 ^ k)) k ≤ 10000000 := fun k hk => by
          have g1 := tOr_gt hk.2.1
          have g2 := hAt (s ||| 2 ^ k) k (tOr_lt hs hk.1) hk.1 (tBit_self _ _)
          have g3 := g2.2.2.2
          have g4 := hfr k hk.1
          dsimp only at g3
          omega
        refine g_callI (k := 44) [.int (iN (s : Int)), .int (iN (f : Int)), .int (iN (last : Int))] (met_X5_bestNext (V := U) ha s f last (fun k => tFrom ds hm q i k + V (56 + (s ||| 2 ^ k)) k) sz (by rw [u44]; exact hsz) hsz6 (by omega) hf64 (by omega) (fun k hk hf => ⟨by rw [huW, huM, hwl k hk], hwb k ((hfol k).mp hf)⟩)) vX5_72 ox_44 rfl rfl ⟨rfl, rfl, Nat.le_of_ble_eq_true rfl, Nat.le_of_ble_eq_true rfl⟩ rfl (Nat.le_of_ble_eq_true rfl) dX5_layOut_27 rfl ?_
        rintro z9 V9 ⟨hp9, hV9⟩
        replace hV9 := hV9.symm
        subst hV9
        rcases hp9 with ⟨hz9, hno⟩ | ⟨b, hb, hz9, hfb2, hmin⟩
        · obtain ⟨j9, hj9⟩ := tFol_some hg (left_some (by omega) hsz6 hpc (by omega : i < sz))
          have := hno j9 hj9.1
          rw [(hfol j9).mpr hj9] at this
          cases this
        · subst hz9
          refine g_istore [(6, .int (iN (b : Int))), (0, .ref (a 44)), (1, .ref (a B)), (2, .int (iN (fr : Int))), (3, .int (iN (s : Int))), (4, .int (iN (last : Int))), (5, .int (iN (i : Int)))] dX5_layOut_30 (by decide) rfl ?_
          refine g_iload 0 dX5_layOut_32 rfl ?_
          refine g_iconst dX5_layOut_34 ?_
          refine g_icmp_ne 39 dX5_layOut_35 (by decide) (fun c_2 => ?_) (fun c_2 => ?_)
          · refine g_aload_n 2 dX5_layOut_39 rfl rfl ?_
            refine g_iload_n 3 dX5_layOut_40 rfl rfl ?_
            refine g_iload 6 dX5_layOut_41 rfl ?_
            refine g_iadd dX5_layOut_43 ?_
            refine g_aload_n 1 dX5_layOut_44 rfl rfl ?_
            refine g_getf 44 (.ref (a 45)) fX5_9 ox_44 dX5_layOut_45 rfl ?_
            refine g_iload 0 dX5_layOut_48 rfl ?_
            refine g_iald 45 b ax_45 dX5_layOut_50 rfl (by omega) ?_
            refine g_top (show U 45 b = V 45 b from by rw [u45]) ?_
            refine g_iast B (fr + i) hB dX5_layOut_51 (by omega) (by omega) ?_
            obtain ⟨V_3, eV_3⟩ : ∃ V9 : Mem, V9 = up U B (fr + i) (V 45 b) := ⟨_, rfl⟩
            refine g_mem eV_3.symm ?_
            refine g_iload_n 4 dX5_layOut_52 rfl rfl ?_
            refine g_iconst dX5_layOut_53 ?_
            refine g_iload 0 dX5_layOut_54 rfl ?_
            refine g_ishl ((2 ^ b : Nat) : Int) dX5_layOut_56 (iN_bit (by omega)) ?_
            refine g_ior ((s ||| (2 ^ b) : Nat) : Int) dX5_layOut_57 (iN_or _ _) ?_
            refine g_istore_n [(3, .int (iN ((s ||| (2 ^ b) : Nat) : Int))), (6, .int (iN (b : Int))), (0, .ref (a 44)), (1, .ref (a B)), (2, .int (iN (fr : Int))), (4, .int (iN (last : Int))), (5, .int (iN (i : Int)))] dX5_layOut_58 rfl (by decide) rfl ?_
            refine g_iload 1 dX5_layOut_59 rfl ?_
            refine g_istore [(4, .int (iN (b : Int))), (3, .int (iN ((s ||| (2 ^ b) : Nat) : Int))), (6, .int (iN (b : Int))), (0, .ref (a 44)), (1, .ref (a B)), (2, .int (iN (fr : Int))), (5, .int (iN (i : Int)))] dX5_layOut_61 (by decide) rfl ?_
            refine g_iinc 6 [(5, .int (iN ((i : Int) + 1))), (4, .int (iN (b : Int))), (3, .int (iN ((s ||| (2 ^ b) : Nat) : Int))), (6, .int (iN (b : Int))), (0, .ref (a 44)), (1, .ref (a B)), (2, .int (iN (fr : Int)))] dX5_layOut_63 rfl (by decide) rfl ?_
            refine g_goto 9 dX5_layOut_66 (by decide) ?_
            refine g_lv [4, 5, 6, 2, 1, 0] rfl ?_
            exact ih_9 (i + 1) (s ||| 2 ^ b) b (fun t => if t = i then b else q t) V_3 (by omega) (tOr_lt hs hb) (by have := pc6_or (s := s) (b := b) (by omega) (by omega); omega) (by rw [hset]; show _ = tSet _ i ||| 2 ^ _; rw [tSet_congr (q := fun t => if t = i then b else q t) (r := q) (fun j hj => by simp [show j ≠ i by omega])]; simp) (by omega) (fun k hk => by rw [(hrow b hb).2.2.1 k hk]; simp [tFrom]) (fun t ht => by by_cases e : t = i; (· subst e; rw [tFrom_congr (q := fun t1 => if t1 = t then b else q t1) (r := q) (fun j hj => by simp [show j ≠ t by omega]), tSet_congr (q := fun t1 => if t1 = t then b else q t1) (r := q) (fun j hj => by simp [show j ≠ t by omega]), ← hset]; simp only [if_true]; exact ⟨(hfol b).mp hfb2, fun k hk => hmin k hk.1 ((hfol k).mpr hk)⟩); (· exact tPick_congr (by omega) (hpick t (by omega)))) (by rw [eV_3, hU, layM_s]) (by omega)
          · omega
  refine g_lv [3, 4, 5, 2, 1, 0] rfl ?_
  exact lp_9 _ 0 0 6 (fun _ => 0) V (Nat.zero_le _) hp2 (by decide) rfl (by omega) (fun k hk => (hrow k hk).2.1) (fun t h => absurd h (Nat.not_lt_zero _)) layM_0.symm (Nat.lt_succ_self _)
