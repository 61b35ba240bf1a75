set_option maxHeartbeats 4000000 in
/-- Kinds.add(w, z) -/
theorem met_X1_add {l : Launch} {D : va_G} {τ : Nat → ClassId} {a : Nat → Nat} (ha : Apart (LX τ) a) {V : Mem} (w0 z0 : Int) (hc : 0 ≤ V 2 6 ∧ V 2 6 ≤ 10) : CI l D (tysL τ) (LX τ) a yX1_add mX1_add [.ref (a 2), .int (iN w0), .int (iN z0)] V (fun z V' => (10 ≤ V 2 6 ∧ z = -1 ∧ V' = V) ∨ (V 2 6 < 10 ∧ z = V 2 6 ∧ V' = up (up (up (up (up V 3 (V 2 6).toNat w0) 4 (V 2 6).toNat z0) 5 (V 2 6).toNat (-1)) 8 (V 2 6).toNat 1) 2 6 (V 2 6 + 1))) := by
  refine CI.of (by decide +kernel) rfl (Nat.le_of_ble_eq_true rfl) ha (fun x hq => ?_)
  show G l D (tysL τ) (LX τ) a mX1_add x 0 [(0, .ref (a 2)), (1, .int (iN w0)), (2, .int (iN z0))] [] V
  refine g_aload_n 0 dX1_add_0 rfl rfl ?_
  refine g_getf 2 (.int (iN (V 2 6))) fX1_30 ox_2 dX1_add_1 rfl ?_
  refine g_bipush dX1_add_4 rfl ?_
  refine g_icmp_lt 11 dX1_add_6 (by decide) (fun c_1 => ?_) (fun c_1 => ?_)
  · refine g_aload_n 0 dX1_add_11 rfl rfl ?_
    refine g_getf 2 (.ref (a 3)) fX1_9 ox_2 dX1_add_12 rfl ?_
    refine g_aload_n 0 dX1_add_15 rfl rfl ?_
    refine g_getf 2 (.int (iN (V 2 6))) fX1_30 ox_2 dX1_add_16 rfl ?_
    refine g_iload_n 1 dX1_add_19 rfl rfl ?_
    refine g_iast 3 ((V 2 6).toNat) ax_3 dX1_add_20 (by omega) (by omega) ?_
    obtain ⟨V_2, eV_2⟩ : ∃ q, q = up V 3 ((V 2 6).toNat) w0 := ⟨_, rfl⟩
    refine g_mem eV_2.symm ?_
    refine g_aload_n 0 dX1_add_21 rfl rfl ?_
    refine g_getf 2 (.ref (a 4)) fX1_15 ox_2 dX1_add_22 rfl ?_
    refine g_aload_n 0 dX1_add_25 rfl rfl ?_
    refine g_getf 2 (.int (iN (V_2 2 6))) fX1_30 ox_2 dX1_add_26 rfl ?_
    refine g_top (show _ = V 2 6 from by rw [eV_2, up_ne (by omega)]) ?_
    refine g_iload_n 2 dX1_add_29 rfl rfl ?_
    refine g_iast 4 ((V 2 6).toNat) ax_4 dX1_add_30 (by omega) (by omega) ?_
    obtain ⟨V_3, eV_3⟩ : ∃ q, q = up V_2 4 ((V 2 6).toNat) z0 := ⟨_, rfl⟩
    refine g_mem eV_3.symm ?_
    refine g_aload_n 0 dX1_add_31 rfl rfl ?_
    refine g_getf 2 (.ref (a 5)) fX1_18 ox_2 dX1_add_32 rfl ?_
    refine g_aload_n 0 dX1_add_35 rfl rfl ?_
    refine g_getf 2 (.int (iN (V_3 2 6))) fX1_30 ox_2 dX1_add_36 rfl ?_
    refine g_top (show _ = V 2 6 from by rw [eV_3, up_ne (by omega), eV_2, up_ne (by omega)]) ?_
    refine g_iconst dX1_add_39 ?_
    refine g_iast 5 ((V 2 6).toNat) ax_5 dX1_add_40 (by omega) (by omega) ?_
    obtain ⟨V_4, eV_4⟩ : ∃ q, q = up V_3 5 ((V 2 6).toNat) (-1) := ⟨_, rfl⟩
    refine g_mem eV_4.symm ?_
    refine g_aload_n 0 dX1_add_41 rfl rfl ?_
    refine g_getf 2 (.ref (a 8)) fX1_27 ox_2 dX1_add_42 rfl ?_
    refine g_aload_n 0 dX1_add_45 rfl rfl ?_
    refine g_getf 2 (.int (iN (V_4 2 6))) fX1_30 ox_2 dX1_add_46 rfl ?_
    refine g_top (show _ = V 2 6 from by rw [eV_4, up_ne (by omega), eV_3, up_ne (by omega), eV_2, up_ne (by omega)]) ?_
    refine g_iconst dX1_add_49 ?_
    refine g_iast 8 ((V 2 6).toNat) ax_8 dX1_add_50 (by omega) (by omega) ?_
    obtain ⟨V_5, eV_5⟩ : ∃ q, q = up V_4 8 ((V 2 6).toNat) 1 := ⟨_, rfl⟩
    refine g_mem eV_5.symm ?_
    refine g_aload_n 0 dX1_add_51 rfl rfl ?_
    refine g_dup dX1_add_52 rfl ?_
    refine g_getf 2 (.int (iN (V_5 2 6))) fX1_30 ox_2 dX1_add_53 rfl ?_
    refine g_top (show _ = V 2 6 from by rw [eV_5, up_ne (by omega), eV_4, up_ne (by omega), eV_3, up_ne (by omega), eV_2, up_ne (by omega)]) ?_
    refine g_iconst dX1_add_56 ?_
    refine g_iadd dX1_add_57 ?_
    refine g_putf 2 (v := (V 2 6) + 1) (.int (iN ((V 2 6) + 1))) pX1_30 ox_2 dX1_add_58 rfl rfl (Nat.le_of_ble_eq_true rfl) rfl ?_
    obtain ⟨V_6, eV_6⟩ : ∃ q, q = up V_5 2 6 ((V 2 6) + 1) := ⟨_, rfl⟩
    refine g_mem eV_6.symm ?_
    refine g_aload_n 0 dX1_add_61 rfl rfl ?_
    refine g_getf 2 (.int (iN (V_6 2 6))) fX1_30 ox_2 dX1_add_62 rfl ?_
    refine g_top (show _ = (V 2 6) + 1 from by rw [eV_6, up_eq]) ?_
    refine g_iconst dX1_add_65 ?_
    refine g_isub dX1_add_66 ?_
    exact g_iret hq rfl rfl dX1_add_67 (Or.inr ⟨by omega, by omega, by rw [eV_6, eV_5, eV_4, eV_3, eV_2]⟩)
  · refine g_iconst dX1_add_9 ?_
    exact g_iret hq rfl rfl dX1_add_10 (Or.inl ⟨by omega, rfl, rfl⟩)

set_option maxHeartbeats 4000000 in
/-- Kinds.isFree(begins, at, width) -/
theorem met_X1_isFree {l : Launch} {D : va_G} {τ : Nat → ClassId} {a : Nat → Nat} (ha : Apart (LX τ) a) {V : Mem} {B : Nat} (hB : ArI (LX τ) a (tysL τ) B 10) (s0 d0 : Int) (hc : 0 ≤ V 2 6 ∧ V 2 6 ≤ 10) (hs : 0 ≤ s0 ∧ s0 ≤ 1000) (hd : 0 ≤ d0 ∧ d0 ≤ 1000) (hf : ∀ k, k < 10 → -1 ≤ V B k ∧ V B k ≤ 1000) (hw : ∀ k, k < 10 → 0 ≤ V 3 k ∧ V 3 k ≤ 1000) : CI l D (tysL τ) (LX τ) a yX1_isFree mX1_isFree [.ref (a 2), .ref (a B), .int (iN s0), .int (iN d0)] V (fun z V' => ((z = 1 ∧ free (V B) (V 3) (V 2 6).toNat s0 d0) ∨ (z = 0 ∧ ¬ free (V B) (V 3) (V 2 6).toNat s0 d0)) ∧ V' = V) := by
  refine CI.of (by decide +kernel) rfl (Nat.le_of_ble_eq_true rfl) ha (fun x hq => ?_)
  show G l D (tysL τ) (LX τ) a mX1_isFree x 0 [(0, .ref (a 2)), (1, .ref (a B)), (2, .int (iN s0)), (3, .int (iN d0))] [] V
  refine g_iconst dX1_isFree_0 ?_
  refine g_istore [(4, .int (iN 0)), (0, .ref (a 2)), (1, .ref (a B)), (2, .int (iN s0)), (3, .int (iN d0))] dX1_isFree_1 (by decide) rfl ?_
  have lp_3 : ∀ (fuel : Nat) (k : Nat), ((k : Int) ≤ V 2 6) → (free (V B) (V 3) k s0 d0) → ((V 2 6).toNat - k) < fuel → G l D (tysL τ) (LX τ) a mX1_isFree x 3 [(0, .ref (a 2)), (1, .ref (a B)), (2, .int (iN s0)), (3, .int (iN d0)), (4, .int (iN (k : Int)))] [] V := by
    intro fuel
    induction fuel with
    | zero => intro k hk hfr hfu; exact absurd hfu (Nat.not_lt_zero _)
    | succ fuel ih_3 =>
      intro k hk hfr hfu
      have hfk := hf k
      have hwk := hw k
      refine g_iload 4 dX1_isFree_3 rfl ?_
      refine g_aload_n 0 dX1_isFree_5 rfl rfl ?_
      refine g_getf 2 (.int (iN (V 2 6))) fX1_30 ox_2 dX1_isFree_6 rfl ?_
      refine g_icmp_ge 54 dX1_isFree_9 (by decide) (fun c_1 => ?_) (fun c_1 => ?_)
      · refine g_iconst dX1_isFree_54 ?_
        exact g_iret hq rfl rfl dX1_isFree_55 (⟨Or.inl ⟨rfl, by rw [show (V 2 6).toNat = k by omega]; exact hfr⟩, rfl⟩)
      · refine g_aload_n 1 dX1_isFree_12 rfl rfl ?_
        refine g_iload 4 dX1_isFree_13 rfl ?_
        refine g_iald B k hB dX1_isFree_15 rfl (by omega) ?_
        refine g_iconst dX1_isFree_16 ?_
        refine g_icmp_eq 48 dX1_isFree_17 (by decide) (fun c_2 => ?_) (fun c_2 => ?_)
        · refine g_iinc 4 [(4, .int (iN ((k : Int) + 1))), (0, .ref (a 2)), (1, .ref (a B)), (2, .int (iN s0)), (3, .int (iN d0))] dX1_isFree_48 rfl (by decide) rfl ?_
          refine g_goto 3 dX1_isFree_51 (by decide) ?_
          refine g_lv [1, 2, 3, 4, 0] rfl ?_
          exact ih_3 (k + 1) (by omega) (free_s hfr (by omega)) (by omega)
        · refine g_iload_n 2 dX1_isFree_20 rfl rfl ?_
          refine g_aload_n 1 dX1_isFree_21 rfl rfl ?_
          refine g_iload 4 dX1_isFree_22 rfl ?_
          refine g_iald B k hB dX1_isFree_24 rfl (by omega) ?_
          refine g_aload_n 0 dX1_isFree_25 rfl rfl ?_
          refine g_getf 2 (.ref (a 3)) fX1_9 ox_2 dX1_isFree_26 rfl ?_
          refine g_iload 4 dX1_isFree_29 rfl ?_
          refine g_iald 3 k ax_3 dX1_isFree_31 rfl (by omega) ?_
          refine g_iadd dX1_isFree_32 ?_
          refine g_icmp_ge 48 dX1_isFree_33 (by decide) (fun c_3 => ?_) (fun c_3 => ?_)
          · refine g_iinc 4 [(4, .int (iN ((k : Int) + 1))), (0, .ref (a 2)), (1, .ref (a B)), (2, .int (iN s0)), (3, .int (iN d0))] dX1_isFree_48 rfl (by decide) rfl ?_
            refine g_goto 3 dX1_isFree_51 (by decide) ?_
            refine g_lv [1, 2, 3, 4, 0] rfl ?_
            exact ih_3 (k + 1) (by omega) (free_s hfr (by omega)) (by omega)
          · refine g_aload_n 1 dX1_isFree_36 rfl rfl ?_
            refine g_iload 4 dX1_isFree_37 rfl ?_
            refine g_iald B k hB dX1_isFree_39 rfl (by omega) ?_
            refine g_iload_n 2 dX1_isFree_40 rfl rfl ?_
            refine g_iload_n 3 dX1_isFree_41 rfl rfl ?_
            refine g_iadd dX1_isFree_42 ?_
            refine g_icmp_ge 48 dX1_isFree_43 (by decide) (fun c_4 => ?_) (fun c_4 => ?_)
            · refine g_iinc 4 [(4, .int (iN ((k : Int) + 1))), (0, .ref (a 2)), (1, .ref (a B)), (2, .int (iN s0)), (3, .int (iN d0))] dX1_isFree_48 rfl (by decide) rfl ?_
              refine g_goto 3 dX1_isFree_51 (by decide) ?_
              refine g_lv [1, 2, 3, 4, 0] rfl ?_
              exact ih_3 (k + 1) (by omega) (free_s hfr (by omega)) (by omega)
            · refine g_iconst dX1_isFree_46 ?_
              exact g_iret hq rfl rfl dX1_isFree_47 (⟨Or.inr ⟨rfl, fun h => h k (by omega) (by omega)⟩, rfl⟩)
  refine g_lv [1, 2, 3, 4, 0] rfl ?_
  exact lp_3 _ 0 (by omega) (fun j h => absurd h (Nat.not_lt_zero _)) (Nat.lt_succ_self _)

set_option maxHeartbeats 4000000 in
/-- Kinds.pickedFor(k, n) -/
theorem met_X1_pickedFor {l : Launch} {D : va_G} {τ : Nat → ClassId} {a : Nat → Nat} (ha : Apart (LX τ) a) {V : Mem} (k : Nat) (n : Int) (hk : k < 10) (hn : 0 ≤ n ∧ n ≤ 40) (hb : 1 ≤ V 8 k ∧ V 8 k ≤ 1000) (hr : 0 ≤ V 7 k ∧ V 7 k < V 8 k) : CI l D (tysL τ) (LX τ) a yX1_pickedFor mX1_pickedFor [.ref (a 2), .int (iN (k : Int)), .int (iN n)] V (fun z V' => z = picked n (V 8 k) (V 7 k) ∧ V' = V) := by
  refine CI.of (by decide +kernel) rfl (Nat.le_of_ble_eq_true rfl) ha (fun x hq => ?_)
  show G l D (tysL τ) (LX τ) a mX1_pickedFor x 0 [(0, .ref (a 2)), (1, .int (iN (k : Int))), (2, .int (iN n))] [] V
  have hm : 0 ≤ n * V 8 k ∧ n * V 8 k ≤ 40000 := ⟨Int.mul_nonneg hn.1 (by omega), Int.le_trans (Int.mul_le_mul hn.2 hb.2 (by omega) (by omega)) (by omega)⟩
  refine g_aload_n 0 dX1_pickedFor_0 rfl rfl ?_
  refine g_getf 2 (.ref (a 8)) fX1_27 ox_2 dX1_pickedFor_1 rfl ?_
  refine g_iload_n 1 dX1_pickedFor_4 rfl rfl ?_
  refine g_iald 8 k ax_8 dX1_pickedFor_5 rfl (by omega) ?_
  refine g_aload_n 0 dX1_pickedFor_6 rfl rfl ?_
  refine g_getf 2 (.ref (a 7)) fX1_24 ox_2 dX1_pickedFor_7 rfl ?_
  refine g_iload_n 1 dX1_pickedFor_10 rfl rfl ?_
  refine g_iald 7 k ax_7 dX1_pickedFor_11 rfl (by omega) ?_
  refine g_isub dX1_pickedFor_12 ?_
  refine g_istore_n [(3, .int (iN ((V 8 k) - (V 7 k)))), (0, .ref (a 2)), (1, .int (iN (k : Int))), (2, .int (iN n))] dX1_pickedFor_13 rfl (by decide) rfl ?_
  refine g_iload_n 0 dX1_pickedFor_14 rfl rfl ?_
  refine g_if_le 35 dX1_pickedFor_15 (by decide) (fun c_1 => ?_) (fun c_1 => ?_)
  · omega
  · refine g_iload_n 3 dX1_pickedFor_18 rfl rfl ?_
    refine g_aload_n 1 dX1_pickedFor_19 rfl rfl ?_
    refine g_getf 2 (.ref (a 8)) fX1_27 ox_2 dX1_pickedFor_20 rfl ?_
    refine g_iload_n 2 dX1_pickedFor_23 rfl rfl ?_
    refine g_iald 8 k ax_8 dX1_pickedFor_24 rfl (by omega) ?_
    refine g_imul dX1_pickedFor_25 ?_
    refine g_iload_n 0 dX1_pickedFor_26 rfl rfl ?_
    refine g_iadd dX1_pickedFor_27 ?_
    refine g_iconst dX1_pickedFor_28 ?_
    refine g_isub dX1_pickedFor_29 ?_
    refine g_iload_n 0 dX1_pickedFor_30 rfl rfl ?_
    refine g_idiv dX1_pickedFor_31 (by omega) (by omega) ?_
    refine g_goto 36 dX1_pickedFor_32 (by decide) ?_
    exact g_iret hq rfl rfl dX1_pickedFor_36 (⟨by rw [picked], rfl⟩)

set_option maxHeartbeats 4000000 in
/-- Kinds.refillsFor(k, p) -/
theorem met_X1_refillsFor {l : Launch} {D : va_G} {τ : Nat → ClassId} {a : Nat → Nat} (ha : Apart (LX τ) a) {V : Mem} (k : Nat) (n : Int) (hk : k < 10) (hn : 1 ≤ n ∧ n ≤ 1000000) (hr : 0 ≤ V 6 k ∧ V 6 k ≤ 2147483647) : CI l D (tysL τ) (LX τ) a yX1_refillsFor mX1_refillsFor [.ref (a 2), .int (iN (k : Int)), .int (iN n)] V (fun z V' => z = refilled n (V 6 k) ∧ V' = V) := by
  refine CI.of (by decide +kernel) rfl (Nat.le_of_ble_eq_true rfl) ha (fun x hq => ?_)
  show G l D (tysL τ) (LX τ) a mX1_refillsFor x 0 [(0, .ref (a 2)), (1, .int (iN (k : Int))), (2, .int (iN n))] [] V
  refine g_aload_n 0 dX1_refillsFor_0 rfl rfl ?_
  refine g_getf 2 (.ref (a 6)) fX1_21 ox_2 dX1_refillsFor_1 rfl ?_
  refine g_iload_n 1 dX1_refillsFor_4 rfl rfl ?_
  refine g_iald 6 k ax_6 dX1_refillsFor_5 rfl (by omega) ?_
  refine g_if_le 22 dX1_refillsFor_6 (by decide) (fun c_1 => ?_) (fun c_1 => ?_)
  · refine g_iconst dX1_refillsFor_22 ?_
    exact g_iret hq rfl rfl dX1_refillsFor_23 (⟨by rw [refilled, if_neg (by omega)], rfl⟩)
  · refine g_iload_n 2 dX1_refillsFor_9 rfl rfl ?_
    refine g_iconst dX1_refillsFor_10 ?_
    refine g_isub dX1_refillsFor_11 ?_
    refine g_aload_n 0 dX1_refillsFor_12 rfl rfl ?_
    refine g_getf 2 (.ref (a 6)) fX1_21 ox_2 dX1_refillsFor_13 rfl ?_
    refine g_iload_n 1 dX1_refillsFor_16 rfl rfl ?_
    refine g_iald 6 k ax_6 dX1_refillsFor_17 rfl (by omega) ?_
    refine g_idiv dX1_refillsFor_18 (by omega) (by omega) ?_
    refine g_goto 23 dX1_refillsFor_19 (by decide) ?_
    exact g_iret hq rfl rfl dX1_refillsFor_23 (⟨by rw [refilled, if_pos (by omega)], rfl⟩)
