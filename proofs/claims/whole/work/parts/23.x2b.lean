set_option maxHeartbeats 4000000 in
/-- Machine.insert(p, parts) -/
theorem met_X2_insert {l : Launch} {D : va_G} {τ : Nat → ClassId} {a : Nat → Nat} (ha : Apart (LX τ) a) {V : Mem} {m : Nat} (hm : m < 3) (p kd : Nat) (n : Nat) (hp : p < 40) (hkd : V 10 p = (kd : Int)) (hkl : kd < 10) (hn : V (15 + 4 * m) 5 = (n : Int)) (hn40 : n < 40) (hr : ∀ i, i < n → 0 ≤ V (15 + 4 * m + 1) i ∧ V (15 + 4 * m + 1) i < 40) (hh : ∀ p, p < 40 → 0 ≤ V 13 p ∧ V 13 p ≤ 10000) (hx : ∀ p, p < 40 → 0 ≤ V 11 p ∧ V 11 p ≤ 100000) (hy : ∀ p, p < 40 → 0 ≤ V 12 p ∧ V 12 p ≤ 100000) : CV l D (tysL τ) (LX τ) a yX2_insert mX2_insert [.ref (a (15 + 4 * m)), .int (iN (p : Int)), .ref (a 9)] V (fun V' => V' = up (up (up (shiftM V (15 + 4 * m + 1) (insP (V 13) (V 11) (V 12) (V (15 + 4 * m + 1)) p n) n) (15 + 4 * m + 1) (insP (V 13) (V 11) (V 12) (V (15 + 4 * m + 1)) p n) (p : Int)) (15 + 4 * m) 5 ((n : Int) + 1)) (15 + 4 * m + 3) kd (V (15 + 4 * m + 3) kd + 1)) := by
  refine CV.of (by decide +kernel) rfl (Nat.le_of_ble_eq_true rfl) ha (fun x hq => ?_)
  show G l D (tysL τ) (LX τ) a mX2_insert x 0 [(0, .ref (a (15 + 4 * m))), (1, .int (iN (p : Int))), (2, .ref (a 9))] [] V
  refine g_aload_n 0 dX2_insert_0 rfl rfl ?_
  refine g_getf (15 + 4 * m) (.int (iN (V (15 + 4 * m) 5))) fX2_28 (ox_M (m := m) hm) dX2_insert_1 rfl ?_
  refine g_top (show V (15 + 4 * m) 5 = (n : Int) from hn) ?_
  refine g_bipush dX2_insert_4 rfl ?_
  refine g_icmp_lt 10 dX2_insert_6 (by decide) (fun c_1 => ?_) (fun c_1 => ?_)
  · have jn_55 : ∀ (t : Nat) (U : Mem), (t ≤ n) → (U = shiftM V (15 + 4 * m + 1) t n) → (insP (V 13) (V 11) (V 12) (V (15 + 4 * m + 1)) p n = t) → G l D (tysL τ) (LX τ) a mX2_insert x 55 [(0, .ref (a (15 + 4 * m))), (1, .int (iN (p : Int))), (2, .ref (a 9)), (3, .int (iN (t : Int)))] [] U := by
      intro t U ht hU hfin
      have hU13 : U 13 = V 13 := by rw [hU]; exact shiftM_ne (by omega)
      have hU11 : U 11 = V 11 := by rw [hU]; exact shiftM_ne (by omega)
      have hU12 : U 12 = V 12 := by rw [hU]; exact shiftM_ne (by omega)
      have hU10 : U 10 = V 10 := by rw [hU]; exact shiftM_ne (by omega)
      have hUA : U (15 + 4 * m + 3) = V (15 + 4 * m + 3) := by rw [hU]; exact shiftM_ne (by omega)
      have hUC : U (15 + 4 * m) = V (15 + 4 * m) := by rw [hU]; exact shiftM_ne (by omega)
      refine g_aload_n 0 dX2_insert_55 rfl rfl ?_
      refine g_getf (15 + 4 * m) (.ref (a (15 + 4 * m + 1))) fX2_9 (ox_M (m := m) hm) dX2_insert_56 rfl ?_
      refine g_iload_n 3 dX2_insert_59 rfl rfl ?_
      refine g_iload_n 1 dX2_insert_60 rfl rfl ?_
      refine g_iast (15 + 4 * m + 1) t (ax_R (m := m) (by omega)) dX2_insert_61 rfl (by omega) ?_
      obtain ⟨V_2, eV_2⟩ : ∃ q, q = up U (15 + 4 * m + 1) t (p : Int) := ⟨_, rfl⟩
      refine g_mem eV_2.symm ?_
      refine g_aload_n 0 dX2_insert_62 rfl rfl ?_
      refine g_dup dX2_insert_63 rfl ?_
      refine g_getf (15 + 4 * m) (.int (iN (V_2 (15 + 4 * m) 5))) fX2_28 (ox_M (m := m) hm) dX2_insert_64 rfl ?_
      refine g_top (show _ = U (15 + 4 * m) 5 from by rw [eV_2, up_ne (by omega)]) ?_
      refine g_top (show U (15 + 4 * m) 5 = (n : Int) from by rw [hUC]; exact hn) ?_
      refine g_iconst dX2_insert_67 ?_
      refine g_iadd dX2_insert_68 ?_
      refine g_putf (15 + 4 * m) (v := (n : Int) + 1) (.int (iN ((n : Int) + 1))) pX2_28 (ox_M (m := m) hm) dX2_insert_69 rfl rfl (Nat.le_of_ble_eq_true rfl) rfl ?_
      obtain ⟨V_3, eV_3⟩ : ∃ q, q = up V_2 (15 + 4 * m) 5 ((n : Int) + 1) := ⟨_, rfl⟩
      refine g_mem eV_3.symm ?_
      refine g_aload_n 0 dX2_insert_72 rfl rfl ?_
      refine g_getf (15 + 4 * m) (.ref (a (15 + 4 * m + 3))) fX2_18 (ox_M (m := m) hm) dX2_insert_73 rfl ?_
      refine g_aload_n 2 dX2_insert_76 rfl rfl ?_
      refine g_getf 9 (.ref (a 10)) fX2_46 ox_9 dX2_insert_77 rfl ?_
      refine g_iload_n 1 dX2_insert_80 rfl rfl ?_
      refine g_iald 10 p ax_10 dX2_insert_81 rfl (by omega) ?_
      refine g_top (show _ = U 10 p from by rw [eV_3, up_ne (by omega), eV_2, up_ne (by omega)]) ?_
      refine g_top (show U 10 p = ((kd : Nat) : Int) from by rw [hU10]; exact hkd) ?_
      refine g_dup2 dX2_insert_82 rfl rfl ?_
      refine g_iald (15 + 4 * m + 3) kd (ax_A (m := m) (by omega)) dX2_insert_83 rfl (by omega) ?_
      refine g_top (show _ = U (15 + 4 * m + 3) kd from by rw [eV_3, up_ne (by omega), eV_2, up_ne (by omega)]) ?_
      refine g_top (show U (15 + 4 * m + 3) kd = V (15 + 4 * m + 3) kd from by rw [hUA]) ?_
      refine g_iconst dX2_insert_84 ?_
      refine g_iadd dX2_insert_85 ?_
      refine g_iast (15 + 4 * m + 3) kd (ax_A (m := m) (by omega)) dX2_insert_86 rfl (by omega) ?_
      obtain ⟨V_4, eV_4⟩ : ∃ q, q = up V_3 (15 + 4 * m + 3) kd ((V (15 + 4 * m + 3) kd) + 1) := ⟨_, rfl⟩
      refine g_mem eV_4.symm ?_
      exact g_vret hq rfl dX2_insert_87 (by rw [eV_4, eV_3, eV_2, hU, hfin])
    refine g_aload_n 0 dX2_insert_10 rfl rfl ?_
    refine g_getf (15 + 4 * m) (.int (iN (V (15 + 4 * m) 5))) fX2_28 (ox_M (m := m) hm) dX2_insert_11 rfl ?_
    refine g_top (show V (15 + 4 * m) 5 = (n : Int) from hn) ?_
    refine g_istore_n [(3, .int (iN (n : Int))), (0, .ref (a (15 + 4 * m))), (1, .int (iN (p : Int))), (2, .ref (a 9))] dX2_insert_14 rfl (by decide) rfl ?_
    have lp_15 : ∀ (fuel : Nat) (t : Nat) (U : Mem), (t ≤ n) → (U = shiftM V (15 + 4 * m + 1) t n) → (insP (V 13) (V 11) (V 12) (V (15 + 4 * m + 1)) p n = insP (V 13) (V 11) (V 12) (V (15 + 4 * m + 1)) p t) → (t) < fuel → G l D (tysL τ) (LX τ) a mX2_insert x 15 [(0, .ref (a (15 + 4 * m))), (1, .int (iN (p : Int))), (2, .ref (a 9)), (3, .int (iN (t : Int)))] [] U := by
      intro fuel
      induction fuel with
      | zero => intro t U ht hU hi hfu; exact absurd hfu (Nat.not_lt_zero _)
      | succ fuel ih_15 =>
        intro t U ht hU hi hfu
        have hU13 : U 13 = V 13 := by rw [hU]; exact shiftM_ne (by omega)
        have hU11 : U 11 = V 11 := by rw [hU]; exact shiftM_ne (by omega)
        have hU12 : U 12 = V 12 := by rw [hU]; exact shiftM_ne (by omega)
        have hU10 : U 10 = V 10 := by rw [hU]; exact shiftM_ne (by omega)
        have hUA : U (15 + 4 * m + 3) = V (15 + 4 * m + 3) := by rw [hU]; exact shiftM_ne (by omega)
        have hUC : U (15 + 4 * m) = V (15 + 4 * m) := by rw [hU]; exact shiftM_ne (by omega)
        refine g_iload_n 3 dX2_insert_15 rfl rfl ?_
        refine g_if_le 55 dX2_insert_16 (by decide) (fun c_5 => ?_) (fun c_5 => ?_)
        · exact jn_55 t U ht hU (by rw [hi, show t = 0 by omega]; rfl)
        · obtain ⟨t, rfl⟩ : ∃ q, t = q + 1 := ⟨t - 1, by omega⟩
          have hrt := hr t (by omega)
          refine g_aload_n 2 dX2_insert_19 rfl rfl ?_
          refine g_iload_n 1 dX2_insert_20 rfl rfl ?_
          refine g_aload_n 0 dX2_insert_21 rfl rfl ?_
          refine g_getf (15 + 4 * m) (.ref (a (15 + 4 * m + 1))) fX2_9 (ox_M (m := m) hm) dX2_insert_22 rfl ?_
          refine g_iload_n 3 dX2_insert_25 rfl rfl ?_
          refine g_iconst dX2_insert_26 ?_
          refine g_isub dX2_insert_27 ?_
          refine g_iald (15 + 4 * m + 1) t (ax_R (m := m) (by omega)) dX2_insert_28 (by omega) (by omega) ?_
          refine g_top (show U (15 + 4 * m + 1) t = (((V (15 + 4 * m + 1) t).toNat : Nat) : Int) from by rw [hU, shiftM_lo (by omega)]; omega) ?_
          refine g_callI (k := 9) [.int (iN (p : Int)), .int (iN (((V (15 + 4 * m + 1) t).toNat : Nat) : Int))] (met_X3_standsAhead (V := U) ha p ((V (15 + 4 * m + 1) t).toNat) hp (by omega) (by rw [hU13]; exact hh) (by rw [hU11]; exact hx) (by rw [hU12]; exact hy)) vX2_40 ox_9 rfl rfl ⟨rfl, rfl, Nat.le_of_ble_eq_true rfl, Nat.le_of_ble_eq_true rfl⟩ rfl (Nat.le_of_ble_eq_true rfl) dX2_insert_29 rfl ?_
          rintro z9 V9 ⟨hp9, hV9⟩
          replace hV9 := hV9.symm
          subst hV9
          rcases hp9 with ⟨hz9, b_6⟩ | ⟨hz9, b_6⟩
          · subst hz9
            refine g_if_eq 55 dX2_insert_32 (by decide) (fun c_7 => absurd c_7 (by decide)) (fun _ => ?_)
            rw [hU13, hU11, hU12] at b_6
            refine g_aload_n 0 dX2_insert_35 rfl rfl ?_
            refine g_getf (15 + 4 * m) (.ref (a (15 + 4 * m + 1))) fX2_9 (ox_M (m := m) hm) dX2_insert_36 rfl ?_
            refine g_iload_n 3 dX2_insert_39 rfl rfl ?_
            refine g_aload_n 0 dX2_insert_40 rfl rfl ?_
            refine g_getf (15 + 4 * m) (.ref (a (15 + 4 * m + 1))) fX2_9 (ox_M (m := m) hm) dX2_insert_41 rfl ?_
            refine g_iload_n 3 dX2_insert_44 rfl rfl ?_
            refine g_iconst dX2_insert_45 ?_
            refine g_isub dX2_insert_46 ?_
            refine g_iald (15 + 4 * m + 1) t (ax_R (m := m) (by omega)) dX2_insert_47 (by omega) (by omega) ?_
            refine g_top (show U (15 + 4 * m + 1) t = V (15 + 4 * m + 1) t from by rw [hU, shiftM_lo (by omega)]) ?_
            refine g_iast (15 + 4 * m + 1) (t + 1) (ax_R (m := m) (by omega)) dX2_insert_48 rfl (by omega) ?_
            obtain ⟨V_8, eV_8⟩ : ∃ q, q = up U (15 + 4 * m + 1) (t + 1) (V (15 + 4 * m + 1) t) := ⟨_, rfl⟩
            refine g_mem eV_8.symm ?_
            refine g_iinc 3 [(3, .int (iN (((t + 1 : Nat) : Int) + (-1)))), (0, .ref (a (15 + 4 * m))), (1, .int (iN (p : Int))), (2, .ref (a 9))] dX2_insert_49 rfl (by decide) rfl ?_
            refine g_lve (show ([(3, .int (iN (((t + 1 : Nat) : Int) + (-1)))), (0, .ref (a (15 + 4 * m))), (1, .int (iN (p : Int))), (2, .ref (a 9))] : List (Nat × Value)) = ([(3, .int (iN (t : Int))), (0, .ref (a (15 + 4 * m))), (1, .int (iN (p : Int))), (2, .ref (a 9))] : List (Nat × Value)) from by rw [show ((t + 1 : Nat) : Int) + (-1) = (t : Int) from by omega]) ?_
            refine g_goto 15 dX2_insert_52 (by decide) ?_
            refine g_lv [1, 2, 3, 0] rfl ?_
            exact ih_15 t V_8 (by omega) (by rw [eV_8, hU, shiftM_s (by omega)]) (by rw [hi]; exact insP_t b_6) (by omega)
          · subst hz9
            refine g_if_eq 55 dX2_insert_32 (by decide) (fun _ => ?_) (fun c_9 => absurd c_9 (by decide))
            exact jn_55 (t + 1) U ht hU (by rw [hU13, hU11, hU12] at b_6; rw [hi]; exact insP_f b_6)
    refine g_lv [1, 2, 3, 0] rfl ?_
    exact lp_15 _ n V (Nat.le_refl _) shiftM_n.symm rfl (Nat.lt_succ_self _)
  · omega

set_option maxHeartbeats 4000000 in
/-- Draws.next(n) -/
theorem met_X0_next {l : Launch} {D : va_G} {τ : Nat → ClassId} {a : Nat → Nat} (ha : Apart (LX τ) a) {V : Mem} (n : Int) (hn : 0 < n ∧ n ≤ 2147483647) : CI l D (tysL τ) (LX τ) a yX0_next mX0_next [.ref (a 1), .int (iN n)] V (fun z V' => z = drw (V 1 0 * 6364136223846793005 + 1442695040888963407) % n ∧ V' = up V 1 0 (V 1 0 * 6364136223846793005 + 1442695040888963407)) := by
  refine CI.of (by decide +kernel) rfl (Nat.le_of_ble_eq_true rfl) ha (fun x hq => ?_)
  show G l D (tysL τ) (LX τ) a mX0_next x 0 [(0, .ref (a 1)), (1, .int (iN n))] [] V
  refine g_aload_n 0 dX0_next_0 rfl rfl ?_
  refine g_aload_n 0 dX0_next_1 rfl rfl ?_
  refine g_getf 1 (.long (jN (V 1 0))) fX0_7 ox_1 dX0_next_2 rfl ?_
  refine g_ldc2 6364136223846793005 kX0_13 rfl dX0_next_5 ?_
  refine g_lmul dX0_next_8 ?_
  refine g_ldc2 1442695040888963407 kX0_15 rfl dX0_next_9 ?_
  refine g_ladd dX0_next_12 ?_
  refine g_putf 1 (v := ((V 1 0) * 6364136223846793005) + 1442695040888963407) (.long (jN (((V 1 0) * 6364136223846793005) + 1442695040888963407))) pX0_7 ox_1 dX0_next_13 rfl rfl (Nat.le_of_ble_eq_true rfl) rfl ?_
  obtain ⟨V_1, eV_1⟩ : ∃ q, q = up V 1 0 (((V 1 0) * 6364136223846793005) + 1442695040888963407) := ⟨_, rfl⟩
  refine g_mem eV_1.symm ?_
  refine g_iload_n 1 dX0_next_16 rfl rfl ?_
  refine g_if_le 34 dX0_next_17 (by decide) (fun c_2 => ?_) (fun c_2 => ?_)
  · omega
  · refine g_aload_n 0 dX0_next_20 rfl rfl ?_
    refine g_getf 1 (.long (jN (V_1 1 0))) fX0_7 ox_1 dX0_next_21 rfl ?_
    refine g_topl (show _ = ((V 1 0) * 6364136223846793005) + 1442695040888963407 from by rw [eV_1, up_eq]) ?_
    refine g_bipush dX0_next_24 rfl ?_
    refine g_lushr (drw (((V 1 0) * 6364136223846793005) + 1442695040888963407)) dX0_next_26 (drw_j _) ?_
    have hdr := drw_in (((V 1 0) * 6364136223846793005) + 1442695040888963407)
    refine g_iload_n 1 dX0_next_27 rfl rfl ?_
    refine g_i2l dX0_next_28 (by omega) ?_
    refine g_lrem dX0_next_29 (by omega) (by omega) ?_
    refine g_l2i dX0_next_30 ?_
    refine g_goto 35 dX0_next_31 (by decide) ?_
    exact g_iret hq rfl rfl dX0_next_35 (⟨rfl, by rw [eV_1]⟩)
