set_option maxHeartbeats 4000000 in
/-- has(p) -/
theorem met_X3_has {l : Launch} {D : va_G} {τ : Nat → ClassId} {a : Nat → Nat} (ha : Apart (LX τ) a) {V : Mem} (p : Int) (hp : -2147483648 ≤ p ∧ p ≤ 2147483647) (hc : 0 ≤ V 9 4 ∧ V 9 4 ≤ 40) : CI l D (tysL τ) (LX τ) a yX3_has mX3_has [.ref (a 9), .int (iN p)] V (fun z V' => ((z = 1 ∧ (0 ≤ p ∧ p < V 9 4)) ∨ (z = 0 ∧ ¬ (0 ≤ p ∧ p < V 9 4))) ∧ V' = V) := by
  refine CI.of (by decide +kernel) rfl (Nat.le_of_ble_eq_true rfl) ha (fun x hq => ?_)
  show G l D (tysL τ) (LX τ) a mX3_has x 0 [(0, .ref (a 9)), (1, .int (iN p))] [] V
  refine g_iload_n 1 dX3_has_0 rfl rfl ?_
  refine g_if_lt 16 dX3_has_1 (by decide) (fun c_1 => ?_) (fun c_1 => ?_)
  · refine g_iconst dX3_has_16 ?_
    exact g_iret hq rfl rfl dX3_has_17 (⟨Or.inr ⟨rfl, by omega⟩, rfl⟩)
  · refine g_iload_n 1 dX3_has_4 rfl rfl ?_
    refine g_aload_n 0 dX3_has_5 rfl rfl ?_
    refine g_getf 9 (.int (iN (V 9 4))) fX3_24 ox_9 dX3_has_6 rfl ?_
    refine g_icmp_ge 16 dX3_has_9 (by decide) (fun c_2 => ?_) (fun c_2 => ?_)
    · refine g_iconst dX3_has_16 ?_
      exact g_iret hq rfl rfl dX3_has_17 (⟨Or.inr ⟨rfl, by omega⟩, rfl⟩)
    · refine g_iconst dX3_has_12 ?_
      refine g_goto 17 dX3_has_13 (by decide) ?_
      exact g_iret hq rfl rfl dX3_has_17 (⟨Or.inl ⟨rfl, by omega⟩, rfl⟩)

set_option maxHeartbeats 4000000 in
/-- countOf(k) -/
theorem met_X3_countOf {l : Launch} {D : va_G} {τ : Nat → ClassId} {a : Nat → Nat} (ha : Apart (LX τ) a) {V : Mem} (k : Int) (hk : -2147483648 ≤ k ∧ k ≤ 2147483647) (hc : 0 ≤ V 9 4 ∧ V 9 4 ≤ 40) (hv : ∀ p, p < 40 → -2147483648 ≤ V 10 p ∧ V 10 p ≤ 2147483647) : CI l D (tysL τ) (LX τ) a yX3_countOf mX3_countOf [.ref (a 9), .int (iN k)] V (fun z V' => z = cnt (V 10) k (V 9 4).toNat ∧ V' = V) := by
  refine CI.of (by decide +kernel) rfl (Nat.le_of_ble_eq_true rfl) ha (fun x hq => ?_)
  show G l D (tysL τ) (LX τ) a mX3_countOf x 0 [(0, .ref (a 9)), (1, .int (iN k))] [] V
  refine g_iconst dX3_countOf_0 ?_
  refine g_istore_n [(2, .int (iN 0)), (0, .ref (a 9)), (1, .int (iN k))] dX3_countOf_1 rfl (by decide) rfl ?_
  refine g_iconst dX3_countOf_2 ?_
  refine g_istore_n [(3, .int (iN 0)), (2, .int (iN 0)), (0, .ref (a 9)), (1, .int (iN k))] dX3_countOf_3 rfl (by decide) rfl ?_
  have lp_4 : ∀ (fuel : Nat) (p : Nat) (r : Int), ((p : Int) ≤ V 9 4) → (r = cnt (V 10) k p) → ((V 9 4).toNat - p) < fuel → G l D (tysL τ) (LX τ) a mX3_countOf x 4 [(0, .ref (a 9)), (1, .int (iN k)), (2, .int (iN r)), (3, .int (iN (p : Int)))] [] V := by
    intro fuel
    induction fuel with
    | zero => intro p r hp hr hfu; exact absurd hfu (Nat.not_lt_zero _)
    | succ fuel ih_4 =>
      intro p r hp hr hfu
      have hvp := hv p
      refine g_iload_n 3 dX3_countOf_4 rfl rfl ?_
      refine g_aload_n 0 dX3_countOf_5 rfl rfl ?_
      refine g_getf 9 (.int (iN (V 9 4))) fX3_24 ox_9 dX3_countOf_6 rfl ?_
      refine g_icmp_ge 31 dX3_countOf_9 (by decide) (fun c_1 => ?_) (fun c_1 => ?_)
      · refine g_iload_n 2 dX3_countOf_31 rfl rfl ?_
        exact g_iret hq rfl rfl dX3_countOf_32 (⟨by rw [hr, show p = (V 9 4).toNat by omega], rfl⟩)
      · refine g_aload_n 0 dX3_countOf_12 rfl rfl ?_
        refine g_getf 9 (.ref (a 10)) fX3_9 ox_9 dX3_countOf_13 rfl ?_
        refine g_iload_n 3 dX3_countOf_16 rfl rfl ?_
        refine g_iald 10 p ax_10 dX3_countOf_17 rfl (by omega) ?_
        refine g_iload_n 1 dX3_countOf_18 rfl rfl ?_
        refine g_icmp_ne 25 dX3_countOf_19 (by decide) (fun c_2 => ?_) (fun c_2 => ?_)
        · refine g_iinc 3 [(3, .int (iN ((p : Int) + 1))), (0, .ref (a 9)), (1, .int (iN k)), (2, .int (iN r))] dX3_countOf_25 rfl (by decide) rfl ?_
          refine g_goto 4 dX3_countOf_28 (by decide) ?_
          refine g_lv [1, 2, 3, 0] rfl ?_
          exact ih_4 (p + 1) r (by omega) (by rw [hr]; simp [cnt, *]) (by omega)
        · refine g_iinc 2 [(2, .int (iN (r + 1))), (0, .ref (a 9)), (1, .int (iN k)), (3, .int (iN (p : Int)))] dX3_countOf_22 rfl (by decide) rfl ?_
          refine g_iinc 3 [(3, .int (iN ((p : Int) + 1))), (2, .int (iN (r + 1))), (0, .ref (a 9)), (1, .int (iN k))] dX3_countOf_25 rfl (by decide) rfl ?_
          refine g_goto 4 dX3_countOf_28 (by decide) ?_
          refine g_lv [2, 3, 1, 0] rfl ?_
          exact ih_4 (p + 1) (r + 1) (by omega) (by rw [hr]; simp [cnt, *]) (by omega)
  refine g_lv [2, 3, 1, 0] rfl ?_
  exact lp_4 _ 0 0 (by omega) rfl (Nat.lt_succ_self _)

set_option maxHeartbeats 4000000 in
/-- wayBetween(p, q) -/
theorem met_X3_wayBetween {l : Launch} {D : va_G} {τ : Nat → ClassId} {a : Nat → Nat} (ha : Apart (LX τ) a) {V : Mem} (p q : Int) (hp : -2147483648 ≤ p ∧ p ≤ 2147483647) (hq0 : -2147483648 ≤ q ∧ q ≤ 2147483647) (hc : 0 ≤ V 9 4 ∧ V 9 4 ≤ 40) (hx : ∀ p, p < 40 → 0 ≤ V 11 p ∧ V 11 p ≤ 100000) (hy : ∀ p, p < 40 → 0 ≤ V 12 p ∧ V 12 p ≤ 100000) : CI l D (tysL τ) (LX τ) a yX3_wayBetween mX3_wayBetween [.ref (a 9), .int (iN p), .int (iN q)] V (fun z V' => z = way (V 11) (V 12) (V 9 4) p q ∧ V' = V) := by
  refine CI.of (by decide +kernel) rfl (Nat.le_of_ble_eq_true rfl) ha (fun x hq => ?_)
  show G l D (tysL τ) (LX τ) a mX3_wayBetween x 0 [(0, .ref (a 9)), (1, .int (iN p)), (2, .int (iN q))] [] V
  have hx1 := hx p.toNat
  have hx2 := hx q.toNat
  have hy1 := hy p.toNat
  have hy2 := hy q.toNat
  have jn_18 : ∀ (u1 : Int), (u1 = co (V 11) (V 9 4) p) → G l D (tysL τ) (LX τ) a mX3_wayBetween x 18 [(0, .ref (a 9)), (1, .int (iN p)), (2, .int (iN q))] [.int (iN u1)] V := by
    intro u1 hu1
    have bu1 : 0 ≤ u1 ∧ u1 ≤ 100000 := by rw [hu1, co]; split <;> omega
    have jn_36 : ∀ (u2 : Int), (u2 = co (V 11) (V 9 4) q) → G l D (tysL τ) (LX τ) a mX3_wayBetween x 36 [(0, .ref (a 9)), (1, .int (iN p)), (2, .int (iN q))] [.int (iN u2), .int (iN u1)] V := by
      intro u2 hu2
      have bu2 : 0 ≤ u2 ∧ u2 ≤ 100000 := by rw [hu2, co]; split <;> omega
      refine g_isub dX3_wayBetween_36 ?_
      refine g_istore_n [(3, .int (iN (u1 - u2))), (0, .ref (a 9)), (1, .int (iN p)), (2, .int (iN q))] dX3_wayBetween_37 rfl (by decide) rfl ?_
      have jn_56 : ∀ (u3 : Int), (u3 = co (V 12) (V 9 4) p) → G l D (tysL τ) (LX τ) a mX3_wayBetween x 56 [(3, .int (iN (u1 - u2))), (0, .ref (a 9)), (1, .int (iN p)), (2, .int (iN q))] [.int (iN u3)] V := by
        intro u3 hu3
        have bu3 : 0 ≤ u3 ∧ u3 ≤ 100000 := by rw [hu3, co]; split <;> omega
        have jn_74 : ∀ (u4 : Int), (u4 = co (V 12) (V 9 4) q) → G l D (tysL τ) (LX τ) a mX3_wayBetween x 74 [(3, .int (iN (u1 - u2))), (0, .ref (a 9)), (1, .int (iN p)), (2, .int (iN q))] [.int (iN u4), .int (iN u3)] V := by
          intro u4 hu4
          have bu4 : 0 ≤ u4 ∧ u4 ≤ 100000 := by rw [hu4, co]; split <;> omega
          refine g_isub dX3_wayBetween_74 ?_
          refine g_istore [(4, .int (iN (u3 - u4))), (3, .int (iN (u1 - u2))), (0, .ref (a 9)), (1, .int (iN p)), (2, .int (iN q))] dX3_wayBetween_75 (by decide) rfl ?_
          refine g_iload_n 1 dX3_wayBetween_77 rfl rfl ?_
          refine g_mabs jX3_32 ⟨Nat.le_of_ble_eq_true rfl, Nat.le_of_ble_eq_true rfl⟩ (Nat.le_of_ble_eq_true rfl) dX3_wayBetween_78 (by omega) ?_
          refine g_iload 0 dX3_wayBetween_81 rfl ?_
          have ba1 : 0 ≤ zabs (u1 - u2) ∧ zabs (u1 - u2) ≤ 100000 := by unfold zabs; split <;> omega
          have ba2 : 0 ≤ zabs (u3 - u4) ∧ zabs (u3 - u4) ≤ 100000 := by unfold zabs; split <;> omega
          refine g_mabs jX3_32 ⟨Nat.le_of_ble_eq_true rfl, Nat.le_of_ble_eq_true rfl⟩ (Nat.le_of_ble_eq_true rfl) dX3_wayBetween_83 (by omega) ?_
          refine g_mmax jX3_38 ⟨Nat.le_of_ble_eq_true rfl, Nat.le_of_ble_eq_true rfl⟩ (Nat.le_of_ble_eq_true rfl) dX3_wayBetween_86 (by omega) (by omega) ?_
          exact g_iret hq rfl rfl dX3_wayBetween_89 (⟨by rw [hu1, hu2, hu3, hu4, way], rfl⟩)
        refine g_aload_n 1 dX3_wayBetween_56 rfl rfl ?_
        refine g_iload_n 3 dX3_wayBetween_57 rfl rfl ?_
        refine g_callI (k := 9) [.int (iN q)] (met_X3_has ha q (by omega) (by omega)) vX3_28 ox_9 rfl rfl ⟨rfl, rfl, Nat.le_of_ble_eq_true rfl, Nat.le_of_ble_eq_true rfl⟩ rfl (Nat.le_of_ble_eq_true rfl) dX3_wayBetween_58 rfl ?_
        rintro z9 V9 ⟨hp9, hV9⟩
        replace hV9 := hV9.symm
        subst hV9
        rcases hp9 with ⟨hz9, b_1⟩ | ⟨hz9, b_1⟩
        · subst hz9
          refine g_if_eq 73 dX3_wayBetween_61 (by decide) (fun c_2 => absurd c_2 (by decide)) (fun _ => ?_)
          refine g_aload_n 1 dX3_wayBetween_64 rfl rfl ?_
          refine g_getf 9 (.ref (a 12)) fX3_18 ox_9 dX3_wayBetween_65 rfl ?_
          refine g_iload_n 3 dX3_wayBetween_68 rfl rfl ?_
          refine g_iald 12 ((q).toNat) ax_12 dX3_wayBetween_69 (by omega) (by omega) ?_
          refine g_goto 74 dX3_wayBetween_70 (by decide) ?_
          exact jn_74 (V 12 ((q).toNat)) (by rw [co, if_pos (by omega)])
        · subst hz9
          refine g_if_eq 73 dX3_wayBetween_61 (by decide) (fun _ => ?_) (fun c_3 => absurd c_3 (by decide))
          refine g_iconst dX3_wayBetween_73 ?_
          exact jn_74 0 (by rw [co, if_neg (by omega)])
      refine g_aload_n 1 dX3_wayBetween_38 rfl rfl ?_
      refine g_iload_n 2 dX3_wayBetween_39 rfl rfl ?_
      refine g_callI (k := 9) [.int (iN p)] (met_X3_has ha p (by omega) (by omega)) vX3_28 ox_9 rfl rfl ⟨rfl, rfl, Nat.le_of_ble_eq_true rfl, Nat.le_of_ble_eq_true rfl⟩ rfl (Nat.le_of_ble_eq_true rfl) dX3_wayBetween_40 rfl ?_
      rintro z9 V9 ⟨hp9, hV9⟩
      replace hV9 := hV9.symm
      subst hV9
      rcases hp9 with ⟨hz9, b_4⟩ | ⟨hz9, b_4⟩
      · subst hz9
        refine g_if_eq 55 dX3_wayBetween_43 (by decide) (fun c_5 => absurd c_5 (by decide)) (fun _ => ?_)
        refine g_aload_n 1 dX3_wayBetween_46 rfl rfl ?_
        refine g_getf 9 (.ref (a 12)) fX3_18 ox_9 dX3_wayBetween_47 rfl ?_
        refine g_iload_n 2 dX3_wayBetween_50 rfl rfl ?_
        refine g_iald 12 ((p).toNat) ax_12 dX3_wayBetween_51 (by omega) (by omega) ?_
        refine g_goto 56 dX3_wayBetween_52 (by decide) ?_
        exact jn_56 (V 12 ((p).toNat)) (by rw [co, if_pos (by omega)])
      · subst hz9
        refine g_if_eq 55 dX3_wayBetween_43 (by decide) (fun _ => ?_) (fun c_6 => absurd c_6 (by decide))
        refine g_iconst dX3_wayBetween_55 ?_
        exact jn_56 0 (by rw [co, if_neg (by omega)])
    refine g_aload_n 0 dX3_wayBetween_18 rfl rfl ?_
    refine g_iload_n 2 dX3_wayBetween_19 rfl rfl ?_
    refine g_callI (k := 9) [.int (iN q)] (met_X3_has ha q (by omega) (by omega)) vX3_28 ox_9 rfl rfl ⟨rfl, rfl, Nat.le_of_ble_eq_true rfl, Nat.le_of_ble_eq_true rfl⟩ rfl (Nat.le_of_ble_eq_true rfl) dX3_wayBetween_20 rfl ?_
    rintro z9 V9 ⟨hp9, hV9⟩
    replace hV9 := hV9.symm
    subst hV9
    rcases hp9 with ⟨hz9, b_7⟩ | ⟨hz9, b_7⟩
    · subst hz9
      refine g_if_eq 35 dX3_wayBetween_23 (by decide) (fun c_8 => absurd c_8 (by decide)) (fun _ => ?_)
      refine g_aload_n 0 dX3_wayBetween_26 rfl rfl ?_
      refine g_getf 9 (.ref (a 11)) fX3_15 ox_9 dX3_wayBetween_27 rfl ?_
      refine g_iload_n 2 dX3_wayBetween_30 rfl rfl ?_
      refine g_iald 11 ((q).toNat) ax_11 dX3_wayBetween_31 (by omega) (by omega) ?_
      refine g_goto 36 dX3_wayBetween_32 (by decide) ?_
      exact jn_36 (V 11 ((q).toNat)) (by rw [co, if_pos (by omega)])
    · subst hz9
      refine g_if_eq 35 dX3_wayBetween_23 (by decide) (fun _ => ?_) (fun c_9 => absurd c_9 (by decide))
      refine g_iconst dX3_wayBetween_35 ?_
      exact jn_36 0 (by rw [co, if_neg (by omega)])
  refine g_aload_n 0 dX3_wayBetween_0 rfl rfl ?_
  refine g_iload_n 1 dX3_wayBetween_1 rfl rfl ?_
  refine g_callI (k := 9) [.int (iN p)] (met_X3_has ha p (by omega) (by omega)) vX3_28 ox_9 rfl rfl ⟨rfl, rfl, Nat.le_of_ble_eq_true rfl, Nat.le_of_ble_eq_true rfl⟩ rfl (Nat.le_of_ble_eq_true rfl) dX3_wayBetween_2 rfl ?_
  rintro z9 V9 ⟨hp9, hV9⟩
  replace hV9 := hV9.symm
  subst hV9
  rcases hp9 with ⟨hz9, b_10⟩ | ⟨hz9, b_10⟩
  · subst hz9
    refine g_if_eq 17 dX3_wayBetween_5 (by decide) (fun c_11 => absurd c_11 (by decide)) (fun _ => ?_)
    refine g_aload_n 0 dX3_wayBetween_8 rfl rfl ?_
    refine g_getf 9 (.ref (a 11)) fX3_15 ox_9 dX3_wayBetween_9 rfl ?_
    refine g_iload_n 1 dX3_wayBetween_12 rfl rfl ?_
    refine g_iald 11 ((p).toNat) ax_11 dX3_wayBetween_13 (by omega) (by omega) ?_
    refine g_goto 18 dX3_wayBetween_14 (by decide) ?_
    exact jn_18 (V 11 ((p).toNat)) (by rw [co, if_pos (by omega)])
  · subst hz9
    refine g_if_eq 17 dX3_wayBetween_5 (by decide) (fun _ => ?_) (fun c_12 => absurd c_12 (by decide))
    refine g_iconst dX3_wayBetween_17 ?_
    exact jn_18 0 (by rw [co, if_neg (by omega)])

set_option maxHeartbeats 4000000 in
/-- sameHeight(p, q) -/
theorem met_X3_sameHeight {l : Launch} {D : va_G} {τ : Nat → ClassId} {a : Nat → Nat} (ha : Apart (LX τ) a) {V : Mem} (p q : Nat) (hp : p < 40) (hq0 : q < 40) (hh : ∀ p, p < 40 → 0 ≤ V 13 p ∧ V 13 p ≤ 10000) : CI l D (tysL τ) (LX τ) a yX3_sameHeight mX3_sameHeight [.ref (a 9), .int (iN (p : Int)), .int (iN (q : Int))] V (fun z V' => ((z = 1 ∧ V 13 p = V 13 q) ∨ (z = 0 ∧ ¬ V 13 p = V 13 q)) ∧ V' = V) := by
  refine CI.of (by decide +kernel) rfl (Nat.le_of_ble_eq_true rfl) ha (fun x hq => ?_)
  show G l D (tysL τ) (LX τ) a mX3_sameHeight x 0 [(0, .ref (a 9)), (1, .int (iN (p : Int))), (2, .int (iN (q : Int)))] [] V
  have h1 := hh p
  have h2 := hh q
  refine g_aload_n 0 dX3_sameHeight_0 rfl rfl ?_
  refine g_getf 9 (.ref (a 13)) fX3_21 ox_9 dX3_sameHeight_1 rfl ?_
  refine g_iload_n 1 dX3_sameHeight_4 rfl rfl ?_
  refine g_iald 13 p ax_13 dX3_sameHeight_5 rfl (by omega) ?_
  refine g_aload_n 0 dX3_sameHeight_6 rfl rfl ?_
  refine g_getf 9 (.ref (a 13)) fX3_21 ox_9 dX3_sameHeight_7 rfl ?_
  refine g_iload_n 2 dX3_sameHeight_10 rfl rfl ?_
  refine g_iald 13 q ax_13 dX3_sameHeight_11 rfl (by omega) ?_
  refine g_icmp_ne 19 dX3_sameHeight_12 (by decide) (fun c_1 => ?_) (fun c_1 => ?_)
  · refine g_iconst dX3_sameHeight_19 ?_
    exact g_iret hq rfl rfl dX3_sameHeight_20 (⟨Or.inr ⟨rfl, by omega⟩, rfl⟩)
  · refine g_iconst dX3_sameHeight_15 ?_
    refine g_goto 20 dX3_sameHeight_16 (by decide) ?_
    exact g_iret hq rfl rfl dX3_sameHeight_20 (⟨Or.inl ⟨rfl, by omega⟩, rfl⟩)

set_option maxHeartbeats 4000000 in
/-- standsAhead(p, q) -/
theorem met_X3_standsAhead {l : Launch} {D : va_G} {τ : Nat → ClassId} {a : Nat → Nat} (ha : Apart (LX τ) a) {V : Mem} (p q : Nat) (hp : p < 40) (hq0 : q < 40) (hh : ∀ p, p < 40 → 0 ≤ V 13 p ∧ V 13 p ≤ 10000) (hx : ∀ p, p < 40 → 0 ≤ V 11 p ∧ V 11 p ≤ 100000) (hy : ∀ p, p < 40 → 0 ≤ V 12 p ∧ V 12 p ≤ 100000) : CI l D (tysL τ) (LX τ) a yX3_standsAhead mX3_standsAhead [.ref (a 9), .int (iN (p : Int)), .int (iN (q : Int))] V (fun z V' => ((z = 1 ∧ ahead (V 13) (V 11) (V 12) p q) ∨ (z = 0 ∧ ¬ ahead (V 13) (V 11) (V 12) p q)) ∧ V' = V) := by
  refine CI.of (by decide +kernel) rfl (Nat.le_of_ble_eq_true rfl) ha (fun x hq => ?_)
  show G l D (tysL τ) (LX τ) a mX3_standsAhead x 0 [(0, .ref (a 9)), (1, .int (iN (p : Int))), (2, .int (iN (q : Int)))] [] V
  have h1 := hh p
  have h2 := hh q
  have hx1 := hx p
  have hx2 := hx q
  have hy1 := hy p
  have hy2 := hy q
  unfold ahead at hq
  refine g_aload_n 0 dX3_standsAhead_0 rfl rfl ?_
  refine g_getf 9 (.ref (a 13)) fX3_21 ox_9 dX3_standsAhead_1 rfl ?_
  refine g_iload_n 1 dX3_standsAhead_4 rfl rfl ?_
  refine g_iald 13 p ax_13 dX3_standsAhead_5 rfl (by omega) ?_
  refine g_aload_n 0 dX3_standsAhead_6 rfl rfl ?_
  refine g_getf 9 (.ref (a 13)) fX3_21 ox_9 dX3_standsAhead_7 rfl ?_
  refine g_iload_n 2 dX3_standsAhead_10 rfl rfl ?_
  refine g_iald 13 q ax_13 dX3_standsAhead_11 rfl (by omega) ?_
  refine g_icmp_eq 36 dX3_standsAhead_12 (by decide) (fun c_1 => ?_) (fun c_1 => ?_)
  · refine g_aload_n 0 dX3_standsAhead_36 rfl rfl ?_
    refine g_getf 9 (.ref (a 11)) fX3_15 ox_9 dX3_standsAhead_37 rfl ?_
    refine g_iload_n 1 dX3_standsAhead_40 rfl rfl ?_
    refine g_iald 11 p ax_11 dX3_standsAhead_41 rfl (by omega) ?_
    refine g_aload_n 0 dX3_standsAhead_42 rfl rfl ?_
    refine g_getf 9 (.ref (a 11)) fX3_15 ox_9 dX3_standsAhead_43 rfl ?_
    refine g_iload_n 2 dX3_standsAhead_46 rfl rfl ?_
    refine g_iald 11 q ax_11 dX3_standsAhead_47 rfl (by omega) ?_
    refine g_icmp_eq 72 dX3_standsAhead_48 (by decide) (fun c_2 => ?_) (fun c_2 => ?_)
    · refine g_aload_n 0 dX3_standsAhead_72 rfl rfl ?_
      refine g_getf 9 (.ref (a 12)) fX3_18 ox_9 dX3_standsAhead_73 rfl ?_
      refine g_iload_n 1 dX3_standsAhead_76 rfl rfl ?_
      refine g_iald 12 p ax_12 dX3_standsAhead_77 rfl (by omega) ?_
      refine g_aload_n 0 dX3_standsAhead_78 rfl rfl ?_
      refine g_getf 9 (.ref (a 12)) fX3_18 ox_9 dX3_standsAhead_79 rfl ?_
      refine g_iload_n 2 dX3_standsAhead_82 rfl rfl ?_
      refine g_iald 12 q ax_12 dX3_standsAhead_83 rfl (by omega) ?_
      refine g_icmp_eq 110 dX3_standsAhead_84 (by decide) (fun c_3 => ?_) (fun c_3 => ?_)
      · refine g_iload_n 1 dX3_standsAhead_110 rfl rfl ?_
        refine g_iload_n 2 dX3_standsAhead_111 rfl rfl ?_
        refine g_icmp_ge 119 dX3_standsAhead_112 (by decide) (fun c_4 => ?_) (fun c_4 => ?_)
        · refine g_iconst dX3_standsAhead_119 ?_
          exact g_iret hq rfl rfl dX3_standsAhead_120 (⟨Or.inr ⟨rfl, by omega⟩, rfl⟩)
        · refine g_iconst dX3_standsAhead_115 ?_
          refine g_goto 120 dX3_standsAhead_116 (by decide) ?_
          exact g_iret hq rfl rfl dX3_standsAhead_120 (⟨Or.inl ⟨rfl, by omega⟩, rfl⟩)
      · refine g_aload_n 0 dX3_standsAhead_87 rfl rfl ?_
        refine g_getf 9 (.ref (a 12)) fX3_18 ox_9 dX3_standsAhead_88 rfl ?_
        refine g_iload_n 1 dX3_standsAhead_91 rfl rfl ?_
        refine g_iald 12 p ax_12 dX3_standsAhead_92 rfl (by omega) ?_
        refine g_aload_n 0 dX3_standsAhead_93 rfl rfl ?_
        refine g_getf 9 (.ref (a 12)) fX3_18 ox_9 dX3_standsAhead_94 rfl ?_
        refine g_iload_n 2 dX3_standsAhead_97 rfl rfl ?_
        refine g_iald 12 q ax_12 dX3_standsAhead_98 rfl (by omega) ?_
        refine g_icmp_ge 106 dX3_standsAhead_99 (by decide) (fun c_5 => ?_) (fun c_5 => ?_)
        · refine g_iconst dX3_standsAhead_106 ?_
          refine g_goto 120 dX3_standsAhead_107 (by decide) ?_
          exact g_iret hq rfl rfl dX3_standsAhead_120 (⟨Or.inr ⟨rfl, by omega⟩, rfl⟩)
        · refine g_iconst dX3_standsAhead_102 ?_
          refine g_goto 120 dX3_standsAhead_103 (by decide) ?_
          exact g_iret hq rfl rfl dX3_standsAhead_120 (⟨Or.inl ⟨rfl, by omega⟩, rfl⟩)
    · refine g_aload_n 0 dX3_standsAhead_51 rfl rfl ?_
      refine g_getf 9 (.ref (a 11)) fX3_15 ox_9 dX3_standsAhead_52 rfl ?_
      refine g_iload_n 1 dX3_standsAhead_55 rfl rfl ?_
      refine g_iald 11 p ax_11 dX3_standsAhead_56 rfl (by omega) ?_
      refine g_aload_n 0 dX3_standsAhead_57 rfl rfl ?_
      refine g_getf 9 (.ref (a 11)) fX3_15 ox_9 dX3_standsAhead_58 rfl ?_
      refine g_iload_n 2 dX3_standsAhead_61 rfl rfl ?_
      refine g_iald 11 q ax_11 dX3_standsAhead_62 rfl (by omega) ?_
      refine g_icmp_ge 70 dX3_standsAhead_63 (by decide) (fun c_6 => ?_) (fun c_6 => ?_)
      · refine g_iconst dX3_standsAhead_70 ?_
        exact g_iret hq rfl rfl dX3_standsAhead_71 (⟨Or.inr ⟨rfl, by omega⟩, rfl⟩)
      · refine g_iconst dX3_standsAhead_66 ?_
        refine g_goto 71 dX3_standsAhead_67 (by decide) ?_
        exact g_iret hq rfl rfl dX3_standsAhead_71 (⟨Or.inl ⟨rfl, by omega⟩, rfl⟩)
  · refine g_aload_n 0 dX3_standsAhead_15 rfl rfl ?_
    refine g_getf 9 (.ref (a 13)) fX3_21 ox_9 dX3_standsAhead_16 rfl ?_
    refine g_iload_n 1 dX3_standsAhead_19 rfl rfl ?_
    refine g_iald 13 p ax_13 dX3_standsAhead_20 rfl (by omega) ?_
    refine g_aload_n 0 dX3_standsAhead_21 rfl rfl ?_
    refine g_getf 9 (.ref (a 13)) fX3_21 ox_9 dX3_standsAhead_22 rfl ?_
    refine g_iload_n 2 dX3_standsAhead_25 rfl rfl ?_
    refine g_iald 13 q ax_13 dX3_standsAhead_26 rfl (by omega) ?_
    refine g_icmp_ge 34 dX3_standsAhead_27 (by decide) (fun c_7 => ?_) (fun c_7 => ?_)
    · refine g_iconst dX3_standsAhead_34 ?_
      exact g_iret hq rfl rfl dX3_standsAhead_35 (⟨Or.inr ⟨rfl, by omega⟩, rfl⟩)
    · refine g_iconst dX3_standsAhead_30 ?_
      refine g_goto 35 dX3_standsAhead_31 (by decide) ?_
      exact g_iret hq rfl rfl dX3_standsAhead_35 (⟨Or.inl ⟨rfl, by omega⟩, rfl⟩)

set_option maxHeartbeats 4000000 in
/-- add(k, x, y, h) -/
theorem met_X3_add {l : Launch} {D : va_G} {τ : Nat → ClassId} {a : Nat → Nat} (ha : Apart (LX τ) a) {V : Mem} (k x0 y0 h0 : Int) (hc : 0 ≤ V 9 4 ∧ V 9 4 ≤ 40) : CI l D (tysL τ) (LX τ) a yX3_add mX3_add [.ref (a 9), .int (iN k), .int (iN x0), .int (iN y0), .int (iN h0)] V (fun z V' => (40 ≤ V 9 4 ∧ z = -1 ∧ V' = V) ∨ (V 9 4 < 40 ∧ z = V 9 4 ∧ V' = up (up (up (up (up V 10 (V 9 4).toNat k) 11 (V 9 4).toNat x0) 12 (V 9 4).toNat y0) 13 (V 9 4).toNat h0) 9 4 (V 9 4 + 1))) := by
  refine CI.of (by decide +kernel) rfl (Nat.le_of_ble_eq_true rfl) ha (fun x hq => ?_)
  show G l D (tysL τ) (LX τ) a mX3_add x 0 [(0, .ref (a 9)), (1, .int (iN k)), (2, .int (iN x0)), (3, .int (iN y0)), (4, .int (iN h0))] [] V
  refine g_aload_n 0 dX3_add_0 rfl rfl ?_
  refine g_getf 9 (.int (iN (V 9 4))) fX3_24 ox_9 dX3_add_1 rfl ?_
  refine g_bipush dX3_add_4 rfl ?_
  refine g_icmp_lt 11 dX3_add_6 (by decide) (fun c_1 => ?_) (fun c_1 => ?_)
  · refine g_aload_n 0 dX3_add_11 rfl rfl ?_
    refine g_getf 9 (.ref (a 10)) fX3_9 ox_9 dX3_add_12 rfl ?_
    refine g_aload_n 0 dX3_add_15 rfl rfl ?_
    refine g_getf 9 (.int (iN (V 9 4))) fX3_24 ox_9 dX3_add_16 rfl ?_
    refine g_iload_n 1 dX3_add_19 rfl rfl ?_
    refine g_iast 10 ((V 9 4).toNat) ax_10 dX3_add_20 (by omega) (by omega) ?_
    obtain ⟨V_2, eV_2⟩ : ∃ q, q = up V 10 ((V 9 4).toNat) k := ⟨_, rfl⟩
    refine g_mem eV_2.symm ?_
    refine g_aload_n 0 dX3_add_21 rfl rfl ?_
    refine g_getf 9 (.ref (a 11)) fX3_15 ox_9 dX3_add_22 rfl ?_
    refine g_aload_n 0 dX3_add_25 rfl rfl ?_
    refine g_getf 9 (.int (iN (V_2 9 4))) fX3_24 ox_9 dX3_add_26 rfl ?_
    refine g_top (show _ = V 9 4 from by rw [eV_2, up_ne (by omega)]) ?_
    refine g_iload_n 2 dX3_add_29 rfl rfl ?_
    refine g_iast 11 ((V 9 4).toNat) ax_11 dX3_add_30 (by omega) (by omega) ?_
    obtain ⟨V_3, eV_3⟩ : ∃ q, q = up V_2 11 ((V 9 4).toNat) x0 := ⟨_, rfl⟩
    refine g_mem eV_3.symm ?_
    refine g_aload_n 0 dX3_add_31 rfl rfl ?_
    refine g_getf 9 (.ref (a 12)) fX3_18 ox_9 dX3_add_32 rfl ?_
    refine g_aload_n 0 dX3_add_35 rfl rfl ?_
    refine g_getf 9 (.int (iN (V_3 9 4))) fX3_24 ox_9 dX3_add_36 rfl ?_
    refine g_top (show _ = V 9 4 from by rw [eV_3, up_ne (by omega), eV_2, up_ne (by omega)]) ?_
    refine g_iload_n 3 dX3_add_39 rfl rfl ?_
    refine g_iast 12 ((V 9 4).toNat) ax_12 dX3_add_40 (by omega) (by omega) ?_
    obtain ⟨V_4, eV_4⟩ : ∃ q, q = up V_3 12 ((V 9 4).toNat) y0 := ⟨_, rfl⟩
    refine g_mem eV_4.symm ?_
    refine g_aload_n 0 dX3_add_41 rfl rfl ?_
    refine g_getf 9 (.ref (a 13)) fX3_21 ox_9 dX3_add_42 rfl ?_
    refine g_aload_n 0 dX3_add_45 rfl rfl ?_
    refine g_getf 9 (.int (iN (V_4 9 4))) fX3_24 ox_9 dX3_add_46 rfl ?_
    refine g_top (show _ = V 9 4 from by rw [eV_4, up_ne (by omega), eV_3, up_ne (by omega), eV_2, up_ne (by omega)]) ?_
    refine g_iload 4 dX3_add_49 rfl ?_
    refine g_iast 13 ((V 9 4).toNat) ax_13 dX3_add_51 (by omega) (by omega) ?_
    obtain ⟨V_5, eV_5⟩ : ∃ q, q = up V_4 13 ((V 9 4).toNat) h0 := ⟨_, rfl⟩
    refine g_mem eV_5.symm ?_
    refine g_aload_n 0 dX3_add_52 rfl rfl ?_
    refine g_dup dX3_add_53 rfl ?_
    refine g_getf 9 (.int (iN (V_5 9 4))) fX3_24 ox_9 dX3_add_54 rfl ?_
    refine g_top (show _ = V 9 4 from by rw [eV_5, up_ne (by omega), eV_4, up_ne (by omega), eV_3, up_ne (by omega), eV_2, up_ne (by omega)]) ?_
    refine g_iconst dX3_add_57 ?_
    refine g_iadd dX3_add_58 ?_
    refine g_putf 9 (v := (V 9 4) + 1) (.int (iN ((V 9 4) + 1))) pX3_24 ox_9 dX3_add_59 rfl rfl (Nat.le_of_ble_eq_true rfl) rfl ?_
    obtain ⟨V_6, eV_6⟩ : ∃ q, q = up V_5 9 4 ((V 9 4) + 1) := ⟨_, rfl⟩
    refine g_mem eV_6.symm ?_
    refine g_aload_n 0 dX3_add_62 rfl rfl ?_
    refine g_getf 9 (.int (iN (V_6 9 4))) fX3_24 ox_9 dX3_add_63 rfl ?_
    refine g_top (show _ = (V 9 4) + 1 from by rw [eV_6, up_eq]) ?_
    refine g_iconst dX3_add_66 ?_
    refine g_isub dX3_add_67 ?_
    exact g_iret hq rfl rfl dX3_add_68 (Or.inr ⟨by omega, by omega, by rw [eV_6, eV_5, eV_4, eV_3, eV_2]⟩)
  · refine g_iconst dX3_add_9 ?_
    exact g_iret hq rfl rfl dX3_add_10 (Or.inl ⟨by omega, rfl, rfl⟩)
