set_option maxHeartbeats 4000000 in
/-- has(p) -/
theorem met_X3_has {l : Launch} {D : va_G} {τ : Nat → ClassId} {a : Nat → Nat} (ha : Apart (LX τ) a) {V : Mem} (p : Int) (hp : -2147483648 ≤ p ∧ p ≤ 2147483647) (hc : 0 ≤ V 9 4 ∧ V 9 4 ≤ 40) : CI l D (tysL τ) (LX τ) a yX3_has mX3_has [.ref (a 9), .int (iN p)] V (fun z V' => ((z = 1 ∧ (0 ≤ p ∧ p < V 9 4)) ∨ (z = 0 ∧ ¬ (0 ≤ p ∧ p < V 9 4))) ∧ V' = V) := by
  refine CI.of (by decide +kernel) rfl (Nat.le_of_ble_eq_true rfl) ha (fun x hq => ?_)
  show G l D (tysL τ) (LX τ) a mX3_has x 0 [(0, .ref (a 9)), (1, .int (iN p))] [] V
  refine g_iload_n 1 dX3_has_0 rfl rfl ?_
  refine g_if_lt 16 dX3_has_1 (by decide) (fun c_1 => ?_) (fun c_1 => ?_)
  · refine g_iconst dX3_has_16 ?_
    exact g_iret hq rfl rfl dX3_has_17 (⟨Or.inr ⟨rfl, by omega⟩, rfl⟩)
  · refine g_iload_n 1 dX3_has_4 rfl rfl ?_
    refine g_aload_n 0 dX3_has_5 rfl rfl ?_
    refine g_getf 9 (.int (iN (V 9 4))) fX3_24 ox_9 dX3_has_6 rfl ?_
    refine g_icmp_ge 16 dX3_has_9 (by decide) (fun c_2 => ?_) (fun c_2 => ?_)
    · refine g_iconst dX3_has_16 ?_
      exact g_iret hq rfl rfl dX3_has_17 (⟨Or.inr ⟨rfl, by omega⟩, rfl⟩)
    · refine g_iconst dX3_has_12 ?_
      refine g_goto 17 dX3_has_13 (by decide) ?_
      exact g_iret hq rfl rfl dX3_has_17 (⟨Or.inl ⟨rfl, by omega⟩, rfl⟩)

set_option maxHeartbeats 4000000 in
/-- countOf(k) -/
theorem met_X3_countOf {l : Launch} {D : va_G} {τ : Nat → ClassId} {a : Nat → Nat} (ha : Apart (LX τ) a) {V : Mem} (k : Int) (hk : -2147483648 ≤ k ∧ k ≤ 2147483647) (hc : 0 ≤ V 9 4 ∧ V 9 4 ≤ 40) (hv : ∀ p, p < 40 → -2147483648 ≤ V 10 p ∧ V 10 p ≤ 2147483647) : CI l D (tysL τ) (LX τ) a yX3_countOf mX3_countOf [.ref (a 9), .int (iN k)] V (fun z V' => z = cnt (V 10) k (V 9 4).toNat ∧ V' = V) := by
  refine CI.of (by decide +kernel) rfl (Nat.le_of_ble_eq_true rfl) ha (fun x hq => ?_)
  show G l D (tysL τ) (LX τ) a mX3_countOf x 0 [(0, .ref (a 9)), (1, .int (iN k))] [] V
  refine g_iconst dX3_countOf_0 ?_
  refine g_istore_n [(2, .int (iN 0)), (0, .ref (a 9)), (1, .int (iN k))] dX3_countOf_1 rfl (by decide) rfl ?_
  refine g_iconst dX3_countOf_2 ?_
  refine g_istore_n [(3, .int (iN 0)), (2, .int (iN 0)), (0, .ref (a 9)), (1, .int (iN k))] dX3_countOf_3 rfl (by decide) rfl ?_
  have lp_4 : ∀ (fuel : Nat) (p : Nat) (r : Int), ((p : Int) ≤ V 9 4) → (r = cnt (V 10) k p) → ((V 9 4).toNat - p) < fuel → G l D (tysL τ) (LX τ) a mX3_countOf x 4 [(0, .ref (a 9)), (1, .int (iN k)), (2, .int (iN r)), (3, .int (iN (p : Int)))] [] V := by
    intro fuel
    induction fuel with
    | zero => intro p r hp hr hf; exact absurd hf (Nat.not_lt_zero _)
    | succ fuel ih_4 =>
      intro p r hp hr hf
      have hvp := hv p
      refine g_iload_n 3 dX3_countOf_4 rfl rfl ?_
      refine g_aload_n 0 dX3_countOf_5 rfl rfl ?_
      refine g_getf 9 (.int (iN (V 9 4))) fX3_24 ox_9 dX3_countOf_6 rfl ?_
      refine g_icmp_ge 31 dX3_countOf_9 (by decide) (fun c_1 => ?_) (fun c_1 => ?_)
      · refine g_iload_n 2 dX3_countOf_31 rfl rfl ?_
        exact g_iret hq rfl rfl dX3_countOf_32 (⟨by rw [hr, show p = (V 9 4).toNat by omega], rfl⟩)
      · refine g_aload_n 0 dX3_countOf_12 rfl rfl ?_
        refine g_getf 9 (.ref (a 10)) fX3_9 ox_9 dX3_countOf_13 rfl ?_
        refine g_iload_n 3 dX3_countOf_16 rfl rfl ?_
        refine g_iald 10 p ax_10 dX3_countOf_17 rfl (by omega) ?_
        refine g_iload_n 1 dX3_countOf_18 rfl rfl ?_
        refine g_icmp_ne 25 dX3_countOf_19 (by decide) (fun c_2 => ?_) (fun c_2 => ?_)
        · refine g_iinc 3 [(3, .int (iN ((p : Int) + 1))), (0, .ref (a 9)), (1, .int (iN k)), (2, .int (iN r))] dX3_countOf_25 rfl (by decide) rfl ?_
          refine g_goto 4 dX3_countOf_28 (by decide) ?_
          refine g_lv [1, 2, 3, 0] rfl ?_
          exact ih_4 (p + 1) r (by omega) (by rw [hr]; simp [cnt, *]) (by omega)
        · refine g_iinc 2 [(2, .int (iN (r + 1))), (0, .ref (a 9)), (1, .int (iN k)), (3, .int (iN (p : Int)))] dX3_countOf_22 rfl (by decide) rfl ?_
          refine g_iinc 3 [(3, .int (iN ((p : Int) + 1))), (2, .int (iN (r + 1))), (0, .ref (a 9)), (1, .int (iN k))] dX3_countOf_25 rfl (by decide) rfl ?_
          refine g_goto 4 dX3_countOf_28 (by decide) ?_
          refine g_lv [2, 3, 1, 0] rfl ?_
          exact ih_4 (p + 1) (r + 1) (by omega) (by rw [hr]; simp [cnt, *]) (by omega)
  refine g_lv [2, 3, 1, 0] rfl ?_
  exact lp_4 _ 0 0 (by omega) rfl (Nat.lt_succ_self _)
