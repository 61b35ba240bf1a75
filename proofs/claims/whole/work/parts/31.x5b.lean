set_option maxHeartbeats 4000000 in
/-- TripPlan.takeIn(p) -/
theorem met_X5_takeIn {l : Launch} {D : va_G} {τ : Nat → ClassId} {a : Nat → Nat} (ha : Apart (LX τ) a) {V : Mem} (p : Int) (n : Nat) (hp : -2147483648 ≤ p ∧ p ≤ 2147483647) (hn : V 44 4 = (n : Int)) (hn6 : n < 6) (hr : ∀ i, i < n → 0 ≤ V 45 i ∧ V 45 i < 40) : CV l D (tysL τ) (LX τ) a yX5_takeIn mX5_takeIn [.ref (a 44), .int (iN p)] V (fun V' => V' = up (up (shiftM V 45 (insN (V 45) p n) n) 45 (insN (V 45) p n) p) 44 4 ((n : Int) + 1)) := by
  refine CV.of (by decide +kernel) rfl (Nat.le_of_ble_eq_true rfl) ha (fun x hq => ?_)
  show G l D (tysL τ) (LX τ) a mX5_takeIn x 0 [(0, .ref (a 44)), (1, .int (iN p))] [] V
  have jn_41 : ∀ (t : Nat) (U : Mem), (t ≤ n) → (U = shiftM V 45 t n) → (insN (V 45) p n = t) → G l D (tysL τ) (LX τ) a mX5_takeIn x 41 [(0, .ref (a 44)), (1, .int (iN p)), (2, .int (iN (t : Int)))] [] U := by
    intro t U ht hU hfin
    have hU44 : U 44 = V 44 := by rw [hU]; exact shiftM_ne (by omega)
    refine g_aload_n 0 dX5_takeIn_41 rfl rfl ?_
    refine g_getf 44 (.ref (a 45)) fX5_9 ox_44 dX5_takeIn_42 rfl ?_
    refine g_iload_n 2 dX5_takeIn_45 rfl rfl ?_
    refine g_iload_n 1 dX5_takeIn_46 rfl rfl ?_
    refine g_iast 45 t ax_45 dX5_takeIn_47 rfl (by omega) ?_
    obtain ⟨V_1, eV_1⟩ : ∃ V9 : Mem, V9 = up U 45 t p := ⟨_, rfl⟩
    refine g_mem eV_1.symm ?_
    refine g_aload_n 0 dX5_takeIn_48 rfl rfl ?_
    refine g_dup dX5_takeIn_49 rfl ?_
    refine g_getf 44 (.int (iN (V_1 44 4))) fX5_26 ox_44 dX5_takeIn_50 rfl ?_
    refine g_top (show _ = U 44 4 from by rw [eV_1, up_ne (by omega)]) ?_
    refine g_top (show U 44 4 = (n : Int) from by rw [hU44]; exact hn) ?_
    refine g_iconst dX5_takeIn_53 ?_
    refine g_iadd dX5_takeIn_54 ?_
    refine g_putf 44 (v := (n : Int) + 1) (.int (iN ((n : Int) + 1))) pX5_26 ox_44 dX5_takeIn_55 rfl rfl (Nat.le_of_ble_eq_true rfl) rfl ?_
    obtain ⟨V_2, eV_2⟩ : ∃ V9 : Mem, V9 = up V_1 44 4 ((n : Int) + 1) := ⟨_, rfl⟩
    refine g_mem eV_2.symm ?_
    exact g_vret hq rfl dX5_takeIn_58 (by rw [eV_2, eV_1, hU, hfin])
  refine g_aload_n 0 dX5_takeIn_0 rfl rfl ?_
  refine g_getf 44 (.int (iN (V 44 4))) fX5_26 ox_44 dX5_takeIn_1 rfl ?_
  refine g_top (show V 44 4 = (n : Int) from hn) ?_
  refine g_istore_n [(2, .int (iN (n : Int))), (0, .ref (a 44)), (1, .int (iN p))] dX5_takeIn_4 rfl (by decide) rfl ?_
  have lp_5 : ∀ (fuel : Nat) (t : Nat) (U : Mem), (t ≤ n) → (U = shiftM V 45 t n) → (insN (V 45) p n = insN (V 45) p t) → (t) < fuel → G l D (tysL τ) (LX τ) a mX5_takeIn x 5 [(0, .ref (a 44)), (1, .int (iN p)), (2, .int (iN (t : Int)))] [] U := by
    intro fuel
    induction fuel with
    | zero => intro t U ht hU hi hfu; exact absurd hfu (Nat.not_lt_zero _)
    | succ fuel ih_5 =>
      intro t U ht hU hi hfu
      have hU44 : U 44 = V 44 := by rw [hU]; exact shiftM_ne (by omega)
      refine g_iload_n 2 dX5_takeIn_5 rfl rfl ?_
      refine g_if_le 41 dX5_takeIn_6 (by decide) (fun c_3 => ?_) (fun c_3 => ?_)
      · exact jn_41 t U ht hU (by rw [hi, show t = 0 by omega]; rfl)
      · obtain ⟨t, rfl⟩ : ∃ q, t = q + 1 := ⟨t - 1, by omega⟩
        have hrt := hr t (by omega)
        refine g_iload_n 1 dX5_takeIn_9 rfl rfl ?_
        refine g_aload_n 0 dX5_takeIn_10 rfl rfl ?_
        refine g_getf 44 (.ref (a 45)) fX5_9 ox_44 dX5_takeIn_11 rfl ?_
        refine g_iload_n 2 dX5_takeIn_14 rfl rfl ?_
        refine g_iconst dX5_takeIn_15 ?_
        refine g_isub dX5_takeIn_16 ?_
        refine g_iald 45 t ax_45 dX5_takeIn_17 (by omega) (by omega) ?_
        refine g_top (show U 45 t = V 45 t from by rw [hU, shiftM_lo (by omega)]) ?_
        refine g_icmp_ge 41 dX5_takeIn_18 (by decide) (fun c_4 => ?_) (fun c_4 => ?_)
        · exact jn_41 (t + 1) U ht hU (by rw [hi]; exact insN_f (by omega))
        · refine g_aload_n 0 dX5_takeIn_21 rfl rfl ?_
          refine g_getf 44 (.ref (a 45)) fX5_9 ox_44 dX5_takeIn_22 rfl ?_
          refine g_iload_n 2 dX5_takeIn_25 rfl rfl ?_
          refine g_aload_n 0 dX5_takeIn_26 rfl rfl ?_
          refine g_getf 44 (.ref (a 45)) fX5_9 ox_44 dX5_takeIn_27 rfl ?_
          refine g_iload_n 2 dX5_takeIn_30 rfl rfl ?_
          refine g_iconst dX5_takeIn_31 ?_
          refine g_isub dX5_takeIn_32 ?_
          refine g_iald 45 t ax_45 dX5_takeIn_33 (by omega) (by omega) ?_
          refine g_top (show U 45 t = V 45 t from by rw [hU, shiftM_lo (by omega)]) ?_
          refine g_iast 45 (t + 1) ax_45 dX5_takeIn_34 rfl (by omega) ?_
          obtain ⟨V_5, eV_5⟩ : ∃ V9 : Mem, V9 = up U 45 (t + 1) (V 45 t) := ⟨_, rfl⟩
          refine g_mem eV_5.symm ?_
          refine g_iinc 2 [(2, .int (iN (((t + 1 : Nat) : Int) + (-1)))), (0, .ref (a 44)), (1, .int (iN p))] dX5_takeIn_35 rfl (by decide) rfl ?_
          refine g_lve (show ([(2, .int (iN (((t + 1 : Nat) : Int) + (-1)))), (0, .ref (a 44)), (1, .int (iN p))] : List (Nat × Value)) = ([(2, .int (iN (t : Int))), (0, .ref (a 44)), (1, .int (iN p))] : List (Nat × Value)) from by rw [show ((t + 1 : Nat) : Int) + (-1) = (t : Int) from by omega]) ?_
          refine g_goto 5 dX5_takeIn_38 (by decide) ?_
          refine g_lv [1, 2, 0] rfl ?_
          exact ih_5 t V_5 (by omega) (by rw [eV_5, hU, shiftM_s (by omega)]) (by rw [hi]; exact insN_t (by omega)) (by omega)
  refine g_lv [1, 2, 0] rfl ?_
  exact lp_5 _ n V (Nat.le_refl _) shiftM_n.symm rfl (Nat.lt_succ_self _)
