set_option maxHeartbeats 4000000 in
/-- nozzleFor(p) -/
theorem met_X6_nozzleFor {l : Launch} {D : va_G} {τ : Nat → ClassId} {a : Nat → Nat} (ha : Apart (LX τ) a) {V : Mem} (p : Nat) (hp : p < 40) (hko : ∀ p, p < 40 → 0 ≤ V 10 p ∧ V 10 p < 10) : CI l D (tysL τ) (LX τ) a yX6_nozzleFor mX6_nozzleFor [.ref (a 0), .int (iN (p : Int))] V (fun z V' => z = V 4 (V 10 p).toNat ∧ V' = V) := by
  refine CI.of (by decide +kernel) rfl (Nat.le_of_ble_eq_true rfl) ha (fun x hq => ?_)
  show G l D (tysL τ) (LX τ) a mX6_nozzleFor x 0 [(0, .ref (a 0)), (1, .int (iN (p : Int)))] [] V
  have h1 := hko p hp
  refine g_aload_n 0 dX6_nozzleFor_0 rfl rfl ?_
  refine g_getf 0 (.ref (a 2)) fX6_10 ox_0 dX6_nozzleFor_1 rfl ?_
  refine g_getf 2 (.ref (a 4)) fX6_202 ox_2 dX6_nozzleFor_4 rfl ?_
  refine g_aload_n 0 dX6_nozzleFor_7 rfl rfl ?_
  refine g_getf 0 (.ref (a 9)) fX6_19 ox_0 dX6_nozzleFor_8 rfl ?_
  refine g_getf 9 (.ref (a 10)) fX6_244 ox_9 dX6_nozzleFor_11 rfl ?_
  refine g_iload_n 1 dX6_nozzleFor_14 rfl rfl ?_
  refine g_iald 10 p ax_10 dX6_nozzleFor_15 rfl (by omega) ?_
  refine g_iald 4 ((V 10 p).toNat) ax_4 dX6_nozzleFor_16 (by omega) (by omega) ?_
  exact g_iret hq rfl rfl dX6_nozzleFor_17 (⟨rfl, rfl⟩)

set_option maxHeartbeats 4000000 in
/-- countChanges(machine) -/
theorem met_X6_countChanges {l : Launch} {D : va_G} {τ : Nat → ClassId} {a : Nat → Nat} (ha : Apart (LX τ) a) {V : Mem} {m : Nat} (hm : m < 3) (n : Nat) (hn : V (15 + 4 * m) 5 = (n : Int)) (hn40 : n ≤ 40) (hrw : ∀ i, i < n → 0 ≤ V (15 + 4 * m + 1) i ∧ V (15 + 4 * m + 1) i < 40) (hko : ∀ p, p < 40 → 0 ≤ V 10 p ∧ V 10 p < 10) (hnz : ∀ k, k < 10 → 0 ≤ V 4 k ∧ V 4 k ≤ 7) : CI l D (tysL τ) (LX τ) a yX6_countChanges mX6_countChanges [.ref (a 0), .ref (a (15 + 4 * m))] V (fun z V' => z = chg (fun i => V 4 (V 10 (V (15 + 4 * m + 1) i).toNat).toNat) n ∧ V' = V) := by
  refine CI.of (by decide +kernel) rfl (Nat.le_of_ble_eq_true rfl) ha (fun x hq => ?_)
  show G l D (tysL τ) (LX τ) a mX6_countChanges x 0 [(0, .ref (a 0)), (1, .ref (a (15 + 4 * m)))] [] V
  refine g_iconst dX6_countChanges_0 ?_
  refine g_istore_n [(2, .int (iN 0)), (0, .ref (a 0)), (1, .ref (a (15 + 4 * m)))] dX6_countChanges_1 rfl (by decide) rfl ?_
  refine g_iconst dX6_countChanges_2 ?_
  refine g_istore_n [(3, .int (iN 1)), (2, .int (iN 0)), (0, .ref (a 0)), (1, .ref (a (15 + 4 * m)))] dX6_countChanges_3 rfl (by decide) rfl ?_
  have lp_4 : ∀ (fuel : Nat) (i : Nat) (c : Int), (i ≤ n ∨ (i = 1 ∧ n = 0)) → (1 ≤ i) → (c = chg (fun i => V 4 (V 10 (V (15 + 4 * m + 1) i).toNat).toNat) i) → (n - i) < fuel → G l D (tysL τ) (LX τ) a mX6_countChanges x 4 [(0, .ref (a 0)), (1, .ref (a (15 + 4 * m))), (2, .int (iN c)), (3, .int (iN (i : Int)))] [] V := by
    intro fuel
    induction fuel with
    | zero => intro i c hi hi1 hcn hfu; exact absurd hfu (Nat.not_lt_zero _)
    | succ fuel ih_4 =>
      intro i c hi hi1 hcn hfu
      have h1 := hrw i
      have h2 := hrw (i - 1)
      have h3 := hko (V (15 + 4 * m + 1) i).toNat
      have h4 := hko (V (15 + 4 * m + 1) (i - 1)).toNat
      have h5 := hnz (V 10 (V (15 + 4 * m + 1) i).toNat).toNat
      have h6 := hnz (V 10 (V (15 + 4 * m + 1) (i - 1)).toNat).toNat
      refine g_iload_n 3 dX6_countChanges_4 rfl rfl ?_
      refine g_aload_n 1 dX6_countChanges_5 rfl rfl ?_
      refine g_getf (15 + 4 * m) (.int (iN (V (15 + 4 * m) 5))) fX6_274 (ox_M (m := m) hm) dX6_countChanges_6 rfl ?_
      refine g_top (show V (15 + 4 * m) 5 = (n : Int) from hn) ?_
      refine g_icmp_ge 46 dX6_countChanges_9 (by decide) (fun c_1 => ?_) (fun c_1 => ?_)
      · refine g_iload_n 2 dX6_countChanges_46 rfl rfl ?_
        exact g_iret hq rfl rfl dX6_countChanges_47 (⟨by rw [hcn]; rcases hi with h | ⟨h, h0⟩; (· rw [show i = n by omega]); (· rw [h, h0]; rfl), rfl⟩)
      · refine g_aload_n 0 dX6_countChanges_12 rfl rfl ?_
        refine g_aload_n 1 dX6_countChanges_13 rfl rfl ?_
        refine g_getf (15 + 4 * m) (.ref (a (15 + 4 * m + 1))) fX6_277 (ox_M (m := m) hm) dX6_countChanges_14 rfl ?_
        refine g_iload_n 3 dX6_countChanges_17 rfl rfl ?_
        refine g_iconst dX6_countChanges_18 ?_
        refine g_isub dX6_countChanges_19 ?_
        refine g_iald (15 + 4 * m + 1) (i - 1) (ax_R (m := m) (by omega)) dX6_countChanges_20 (by omega) (by omega) ?_
        refine g_top (show V (15 + 4 * m + 1) (i - 1) = (((V (15 + 4 * m + 1) (i - 1)).toNat : Nat) : Int) from by omega) ?_
        refine g_callI (k := 0) [.int (iN (((V (15 + 4 * m + 1) (i - 1)).toNat : Nat) : Int))] (met_X6_nozzleFor ha ((V (15 + 4 * m + 1) (i - 1)).toNat) (by omega) hko) vX6_293 ox_0 rfl rfl ⟨rfl, rfl, Nat.le_of_ble_eq_true rfl, Nat.le_of_ble_eq_true rfl⟩ rfl (Nat.le_of_ble_eq_true rfl) dX6_countChanges_21 rfl ?_
        rintro z9 V9 ⟨hz9, hV9⟩
        replace hz9 := hz9.symm
        replace hV9 := hV9.symm
        subst hz9
        subst hV9
        refine g_aload_n 0 dX6_countChanges_24 rfl rfl ?_
        refine g_aload_n 1 dX6_countChanges_25 rfl rfl ?_
        refine g_getf (15 + 4 * m) (.ref (a (15 + 4 * m + 1))) fX6_277 (ox_M (m := m) hm) dX6_countChanges_26 rfl ?_
        refine g_iload_n 3 dX6_countChanges_29 rfl rfl ?_
        refine g_iald (15 + 4 * m + 1) i (ax_R (m := m) (by omega)) dX6_countChanges_30 rfl (by omega) ?_
        refine g_top (show V (15 + 4 * m + 1) i = (((V (15 + 4 * m + 1) i).toNat : Nat) : Int) from by omega) ?_
        refine g_callI (k := 0) [.int (iN (((V (15 + 4 * m + 1) i).toNat : Nat) : Int))] (met_X6_nozzleFor ha ((V (15 + 4 * m + 1) i).toNat) (by omega) hko) vX6_293 ox_0 rfl rfl ⟨rfl, rfl, Nat.le_of_ble_eq_true rfl, Nat.le_of_ble_eq_true rfl⟩ rfl (Nat.le_of_ble_eq_true rfl) dX6_countChanges_31 rfl ?_
        rintro z9 V9 ⟨hz9, hV9⟩
        replace hz9 := hz9.symm
        replace hV9 := hV9.symm
        subst hz9
        subst hV9
        refine g_icmp_eq 40 dX6_countChanges_34 (by decide) (fun c_2 => ?_) (fun c_2 => ?_)
        · refine g_iinc 3 [(3, .int (iN ((i : Int) + 1))), (0, .ref (a 0)), (1, .ref (a (15 + 4 * m))), (2, .int (iN c))] dX6_countChanges_40 rfl (by decide) rfl ?_
          refine g_goto 4 dX6_countChanges_43 (by decide) ?_
          refine g_lv [1, 2, 3, 0] rfl ?_
          exact ih_4 (i + 1) c (by omega) (by omega) (by rw [hcn]; simp only [chg]; rw [if_neg (fun z => z.2 (by omega)), Int.add_zero]) (by omega)
        · refine g_iinc 2 [(2, .int (iN (c + 1))), (0, .ref (a 0)), (1, .ref (a (15 + 4 * m))), (3, .int (iN (i : Int)))] dX6_countChanges_37 rfl (by decide) rfl ?_
          refine g_iinc 3 [(3, .int (iN ((i : Int) + 1))), (2, .int (iN (c + 1))), (0, .ref (a 0)), (1, .ref (a (15 + 4 * m)))] dX6_countChanges_40 rfl (by decide) rfl ?_
          refine g_goto 4 dX6_countChanges_43 (by decide) ?_
          refine g_lv [2, 3, 1, 0] rfl ?_
          exact ih_4 (i + 1) (c + 1) (by omega) (by omega) (by rw [hcn]; simp only [chg]; rw [if_pos ⟨by omega, by omega⟩]) (by omega)
  refine g_lv [2, 3, 1, 0] rfl ?_
  exact lp_4 _ 1 0 (by omega) (by omega) rfl (Nat.lt_succ_self _)
