set_option maxHeartbeats 4000000 in
/-- lowestRoom(machine, d) -/
theorem met_X6_lowestRoom {l : Launch} {D : va_G} {τ : Nat → ClassId} {a : Nat → Nat} (ha : Apart (LX τ) a) {V : Mem} {m : Nat} (hm : m < 3) (d : Int) (kc : Nat) (hkc : V 2 6 = (kc : Int)) (hkc10 : kc ≤ 10) (sl : Nat) (hsl : V 0 0 = (sl : Int)) (hsl120 : sl ≤ 120) (hd : 1 ≤ d ∧ d ≤ 4) (hwd : ∀ k, k < 10 → 0 ≤ V 3 k ∧ V 3 k ≤ 4) (hfd : ∀ k, k < 10 → -1 ≤ V (15 + 4 * m + 2) k ∧ V (15 + 4 * m + 2) k ≤ 120) : CI l D (tysL τ) (LX τ) a yX6_lowestRoom mX6_lowestRoom [.ref (a 0), .ref (a (15 + 4 * m)), .int (iN d)] V (fun z V' => isLow (V (15 + 4 * m + 2)) (V 3) kc sl d z ∧ V' = V) := by
  refine CI.of (by decide +kernel) rfl (Nat.le_of_ble_eq_true rfl) ha (fun x hq => ?_)
  show G l D (tysL τ) (LX τ) a mX6_lowestRoom x 0 [(0, .ref (a 0)), (1, .ref (a (15 + 4 * m))), (2, .int (iN d))] [] V
  refine g_iconst dX6_lowestRoom_0 ?_
  refine g_istore_n [(3, .int (iN 0)), (0, .ref (a 0)), (1, .ref (a (15 + 4 * m))), (2, .int (iN d))] dX6_lowestRoom_1 rfl (by decide) rfl ?_
  have lp_2 : ∀ (fuel : Nat) (s : Nat), (s ≤ sl) → (∀ r : Nat, r < s → ¬ free (V (15 + 4 * m + 2)) (V 3) kc r d) → (sl - s) < fuel → G l D (tysL τ) (LX τ) a mX6_lowestRoom x 2 [(0, .ref (a 0)), (1, .ref (a (15 + 4 * m))), (2, .int (iN d)), (3, .int (iN (s : Int)))] [] V := by
    intro fuel
    induction fuel with
    | zero => intro s hs hno hfu; exact absurd hfu (Nat.not_lt_zero _)
    | succ fuel ih_2 =>
      intro s hs hno hfu
      refine g_iload_n 3 dX6_lowestRoom_2 rfl rfl ?_
      refine g_iload_n 2 dX6_lowestRoom_3 rfl rfl ?_
      refine g_iadd dX6_lowestRoom_4 ?_
      refine g_aload_n 0 dX6_lowestRoom_5 rfl rfl ?_
      refine g_getf 0 (.int (iN (V 0 0))) fX6_64 ox_0 dX6_lowestRoom_6 rfl ?_
      refine g_top (show V 0 0 = (sl : Int) from hsl) ?_
      refine g_icmp_gt 36 dX6_lowestRoom_9 (by decide) (fun c_1 => ?_) (fun c_1 => ?_)
      · refine g_iconst dX6_lowestRoom_36 ?_
        exact g_iret hq rfl rfl dX6_lowestRoom_37 (⟨Or.inl ⟨rfl, fun r hr => hno r (by omega)⟩, rfl⟩)
      · refine g_aload_n 0 dX6_lowestRoom_12 rfl rfl ?_
        refine g_getf 0 (.ref (a 2)) fX6_10 ox_0 dX6_lowestRoom_13 rfl ?_
        refine g_aload_n 1 dX6_lowestRoom_16 rfl rfl ?_
        refine g_getf (15 + 4 * m) (.ref (a (15 + 4 * m + 2))) fX6_151 (ox_M (m := m) hm) dX6_lowestRoom_17 rfl ?_
        refine g_iload_n 3 dX6_lowestRoom_20 rfl rfl ?_
        refine g_iload_n 2 dX6_lowestRoom_21 rfl rfl ?_
        refine g_callI (k := 2) [.ref (a (15 + 4 * m + 2)), .int (iN (s : Int)), .int (iN d)] (met_X1_isFree ha (ax_F (m := m) hm) (s : Int) d (by omega) (by omega) (by omega) (fun k hk => by have := hfd k hk; omega) (fun k hk => by have := hwd k hk; omega)) vX6_124 ox_2 rfl rfl ⟨rfl, rfl, Nat.le_of_ble_eq_true rfl, Nat.le_of_ble_eq_true rfl⟩ rfl (Nat.le_of_ble_eq_true rfl) dX6_lowestRoom_22 rfl ?_
        rintro z9 V9 ⟨hp9, hV9⟩
        replace hV9 := hV9.symm
        subst hV9
        rcases hp9 with ⟨hz9, b_2⟩ | ⟨hz9, b_2⟩
        · subst hz9
          rw [show (V 2 6).toNat = kc by omega] at b_2
          refine g_if_eq 30 dX6_lowestRoom_25 (by decide) (fun c_3 => absurd c_3 (by decide)) (fun _ => ?_)
          refine g_iload_n 3 dX6_lowestRoom_28 rfl rfl ?_
          exact g_iret hq rfl rfl dX6_lowestRoom_29 (⟨Or.inr ⟨s, rfl, by omega, b_2, hno⟩, rfl⟩)
        · subst hz9
          rw [show (V 2 6).toNat = kc by omega] at b_2
          refine g_if_eq 30 dX6_lowestRoom_25 (by decide) (fun _ => ?_) (fun c_4 => absurd c_4 (by decide))
          refine g_iinc 3 [(3, .int (iN ((s : Int) + 1))), (0, .ref (a 0)), (1, .ref (a (15 + 4 * m))), (2, .int (iN d))] dX6_lowestRoom_30 rfl (by decide) rfl ?_
          refine g_goto 2 dX6_lowestRoom_33 (by decide) ?_
          refine g_lv [1, 2, 3, 0] rfl ?_
          exact ih_2 (s + 1) (by omega) (fun r hr => by by_cases e : r = s; (· rw [e]; exact b_2); (· exact hno r (by omega))) (by omega)
  refine g_lv [1, 2, 3, 0] rfl ?_
  exact lp_2 _ 0 (Nat.zero_le _) (fun r h => absurd h (Nat.not_lt_zero _)) (Nat.lt_succ_self _)

set_option maxHeartbeats 4000000 in
/-- placeFixedFeeders(machine, num) -/
theorem met_X6_placeFixedFeeders {l : Launch} {D : va_G} {τ : Nat → ClassId} {a : Nat → Nat} (ha : Apart (LX τ) a) {V : Mem} {m : Nat} (hm : m < 3) (num : Nat) (kc : Nat) (hkc : V 2 6 = (kc : Int)) (hkc10 : kc ≤ 10) (hnum : num < 3) (hhm : ∀ k, k < 10 → -1 ≤ V 28 k ∧ V 28 k ≤ 2) (hfx : ∀ k, k < 10 → -1 ≤ V 5 k ∧ V 5 k ≤ 120) : CV l D (tysL τ) (LX τ) a yX6_placeFixedFeeders mX6_placeFixedFeeders [.ref (a 0), .ref (a (15 + 4 * m)), .int (iN (num : Int))] V (fun V' => V' = setR V (15 + 4 * m + 2) (fixF (V 5) (V 28) (num : Int) (V (15 + 4 * m + 2)) kc)) := by
  refine CV.of (by decide +kernel) rfl (Nat.le_of_ble_eq_true rfl) ha (fun x hq => ?_)
  show G l D (tysL τ) (LX τ) a mX6_placeFixedFeeders x 0 [(0, .ref (a 0)), (1, .ref (a (15 + 4 * m))), (2, .int (iN (num : Int)))] [] V
  refine g_iconst dX6_placeFixedFeeders_0 ?_
  refine g_istore_n [(3, .int (iN 0)), (0, .ref (a 0)), (1, .ref (a (15 + 4 * m))), (2, .int (iN (num : Int)))] dX6_placeFixedFeeders_1 rfl (by decide) rfl ?_
  have lp_2 : ∀ (fuel : Nat) (k : Nat) (U : Mem), (k ≤ kc) → (U = setR V (15 + 4 * m + 2) (fixF (V 5) (V 28) (num : Int) (V (15 + 4 * m + 2)) k)) → (kc - k) < fuel → G l D (tysL τ) (LX τ) a mX6_placeFixedFeeders x 2 [(0, .ref (a 0)), (1, .ref (a (15 + 4 * m))), (2, .int (iN (num : Int))), (3, .int (iN (k : Int)))] [] U := by
    intro fuel
    induction fuel with
    | zero => intro k U hk hU hfu; exact absurd hfu (Nat.not_lt_zero _)
    | succ fuel ih_2 =>
      intro k U hk hU hfu
      have u2 : U 2 = V 2 := by rw [hU]; exact setR_ne (by omega)
      have u5 : U 5 = V 5 := by rw [hU]; exact setR_ne (by omega)
      have u28 : U 28 = V 28 := by rw [hU]; exact setR_ne (by omega)
      have h1 := hhm k
      have h2 := hfx k
      refine g_iload_n 3 dX6_placeFixedFeeders_2 rfl rfl ?_
      refine g_aload_n 0 dX6_placeFixedFeeders_3 rfl rfl ?_
      refine g_getf 0 (.ref (a 2)) fX6_10 ox_0 dX6_placeFixedFeeders_4 rfl ?_
      refine g_getf 2 (.int (iN (U 2 6))) fX6_199 ox_2 dX6_placeFixedFeeders_7 rfl ?_
      refine g_top (show U 2 6 = (kc : Int) from by rw [u2]; exact hkc) ?_
      refine g_icmp_ge 47 dX6_placeFixedFeeders_10 (by decide) (fun c_1 => ?_) (fun c_1 => ?_)
      · exact g_vret hq rfl dX6_placeFixedFeeders_47 (by rw [hU, show k = kc by omega])
      · refine g_aload_n 0 dX6_placeFixedFeeders_13 rfl rfl ?_
        refine g_getf 0 (.ref (a 27)) fX6_33 ox_0 dX6_placeFixedFeeders_14 rfl ?_
        refine g_getf 27 (.ref (a 28)) fX6_260 ox_27 dX6_placeFixedFeeders_17 rfl ?_
        refine g_iload_n 3 dX6_placeFixedFeeders_20 rfl rfl ?_
        refine g_iald 28 k ax_28 dX6_placeFixedFeeders_21 rfl (by omega) ?_
        refine g_top (show U 28 k = V 28 k from by rw [u28]) ?_
        refine g_iload_n 2 dX6_placeFixedFeeders_22 rfl rfl ?_
        refine g_icmp_ne 41 dX6_placeFixedFeeders_23 (by decide) (fun c_2 => ?_) (fun c_2 => ?_)
        · refine g_iinc 3 [(3, .int (iN ((k : Int) + 1))), (0, .ref (a 0)), (1, .ref (a (15 + 4 * m))), (2, .int (iN (num : Int)))] dX6_placeFixedFeeders_41 rfl (by decide) rfl ?_
          refine g_goto 2 dX6_placeFixedFeeders_44 (by decide) ?_
          refine g_lv [1, 2, 3, 0] rfl ?_
          exact ih_2 (k + 1) U (by omega) (by rw [hU, fixF_f (by omega)]) (by omega)
        · refine g_aload_n 1 dX6_placeFixedFeeders_26 rfl rfl ?_
          refine g_getf (15 + 4 * m) (.ref (a (15 + 4 * m + 2))) fX6_151 (ox_M (m := m) hm) dX6_placeFixedFeeders_27 rfl ?_
          refine g_iload_n 3 dX6_placeFixedFeeders_30 rfl rfl ?_
          refine g_aload_n 0 dX6_placeFixedFeeders_31 rfl rfl ?_
          refine g_getf 0 (.ref (a 2)) fX6_10 ox_0 dX6_placeFixedFeeders_32 rfl ?_
          refine g_getf 2 (.ref (a 5)) fX6_121 ox_2 dX6_placeFixedFeeders_35 rfl ?_
          refine g_iload_n 3 dX6_placeFixedFeeders_38 rfl rfl ?_
          refine g_iald 5 k ax_5 dX6_placeFixedFeeders_39 rfl (by omega) ?_
          refine g_top (show U 5 k = V 5 k from by rw [u5]) ?_
          refine g_iast (15 + 4 * m + 2) k (ax_F (m := m) (by omega)) dX6_placeFixedFeeders_40 rfl (by omega) ?_
          obtain ⟨V_3, eV_3⟩ : ∃ V9 : Mem, V9 = up U (15 + 4 * m + 2) k (V 5 k) := ⟨_, rfl⟩
          refine g_mem eV_3.symm ?_
          refine g_iinc 3 [(3, .int (iN ((k : Int) + 1))), (0, .ref (a 0)), (1, .ref (a (15 + 4 * m))), (2, .int (iN (num : Int)))] dX6_placeFixedFeeders_41 rfl (by decide) rfl ?_
          refine g_goto 2 dX6_placeFixedFeeders_44 (by decide) ?_
          refine g_lv [1, 2, 3, 0] rfl ?_
          exact ih_2 (k + 1) V_3 (by omega) (by rw [eV_3, hU, setR_up, fixF_t (by omega)]) (by omega)
  refine g_lv [1, 2, 3, 0] rfl ?_
  exact lp_2 _ 0 V (Nat.zero_le _) (by rw [fixF_0, setR_self]) (Nat.lt_succ_self _)

set_option maxHeartbeats 4000000 in
/-- placeOtherFeeders(machine, num) -/
theorem met_X6_placeOtherFeeders {l : Launch} {D : va_G} {τ : Nat → ClassId} {a : Nat → Nat} (ha : Apart (LX τ) a) {V : Mem} {m : Nat} (hm : m < 3) (num : Nat) (kc : Nat) (hkc : V 2 6 = (kc : Int)) (hkc10 : kc ≤ 10) (sl : Nat) (hsl : V 0 0 = (sl : Int)) (hsl120 : sl ≤ 120) (hnum : num < 3) (hwd : ∀ k, k < 10 → 0 ≤ V 3 k ∧ V 3 k ≤ 4) (hwk : ∀ k, k < kc → 1 ≤ V 3 k) (hhm : ∀ k, k < 10 → -1 ≤ V 28 k ∧ V 28 k ≤ 2) (hfx : ∀ k, k < 10 → -1 ≤ V 5 k ∧ V 5 k ≤ 120) (hfd : ∀ k, k < 10 → -1 ≤ V (15 + 4 * m + 2) k ∧ V (15 + 4 * m + 2) k ≤ 120) : CV l D (tysL τ) (LX τ) a yX6_placeOtherFeeders mX6_placeOtherFeeders [.ref (a 0), .ref (a (15 + 4 * m)), .int (iN (num : Int))] V (fun V' => ∃ g, othR (V 3) (V 5) (V 28) kc sl (num : Int) (V (15 + 4 * m + 2)) kc g ∧ (∀ k, k < 10 → -1 ≤ g k ∧ g k ≤ 120) ∧ V' = setR V (15 + 4 * m + 2) g) := by
  refine CV.of (by decide +kernel) rfl (Nat.le_of_ble_eq_true rfl) ha (fun x hq => ?_)
  show G l D (tysL τ) (LX τ) a mX6_placeOtherFeeders x 0 [(0, .ref (a 0)), (1, .ref (a (15 + 4 * m))), (2, .int (iN (num : Int)))] [] V
  refine g_iconst dX6_placeOtherFeeders_0 ?_
  refine g_istore_n [(3, .int (iN 0)), (0, .ref (a 0)), (1, .ref (a (15 + 4 * m))), (2, .int (iN (num : Int)))] dX6_placeOtherFeeders_1 rfl (by decide) rfl ?_
  have lp_2 : ∀ (fuel : Nat) (k : Nat) (g : Nat → Int) (U : Mem), (k ≤ kc) → (othR (V 3) (V 5) (V 28) kc sl (num : Int) (V (15 + 4 * m + 2)) k g) → (∀ k, k < 10 → -1 ≤ g k ∧ g k ≤ 120) → (U = setR V (15 + 4 * m + 2) g) → (kc - k) < fuel → G l D (tysL τ) (LX τ) a mX6_placeOtherFeeders x 2 [(0, .ref (a 0)), (1, .ref (a (15 + 4 * m))), (2, .int (iN (num : Int))), (3, .int (iN (k : Int)))] [] U := by
    intro fuel
    induction fuel with
    | zero => intro k g U hk hor hg hU hfu; exact absurd hfu (Nat.not_lt_zero _)
    | succ fuel ih_2 =>
      intro k g U hk hor hg hU hfu
      have u0 : U 0 = V 0 := by rw [hU]; exact setR_ne (by omega)
      have u2 : U 2 = V 2 := by rw [hU]; exact setR_ne (by omega)
      have u3 : U 3 = V 3 := by rw [hU]; exact setR_ne (by omega)
      have u5 : U 5 = V 5 := by rw [hU]; exact setR_ne (by omega)
      have u28 : U 28 = V 28 := by rw [hU]; exact setR_ne (by omega)
      have h1 := hhm k
      have h2 := hfx k
      have h3 := hwk k
      have h4 := hwd k
      refine g_iload_n 3 dX6_placeOtherFeeders_2 rfl rfl ?_
      refine g_aload_n 0 dX6_placeOtherFeeders_3 rfl rfl ?_
      refine g_getf 0 (.ref (a 2)) fX6_10 ox_0 dX6_placeOtherFeeders_4 rfl ?_
      refine g_getf 2 (.int (iN (U 2 6))) fX6_199 ox_2 dX6_placeOtherFeeders_7 rfl ?_
      refine g_top (show U 2 6 = (kc : Int) from by rw [u2]; exact hkc) ?_
      refine g_icmp_ge 65 dX6_placeOtherFeeders_10 (by decide) (fun c_1 => ?_) (fun c_1 => ?_)
      · exact g_vret hq rfl dX6_placeOtherFeeders_65 (⟨g, by rw [← show k = kc by omega]; exact ⟨by rw [show k = kc by omega] at hor; rw [show k = kc by omega]; exact hor, hg, hU⟩⟩)
      · refine g_aload_n 0 dX6_placeOtherFeeders_13 rfl rfl ?_
        refine g_getf 0 (.ref (a 27)) fX6_33 ox_0 dX6_placeOtherFeeders_14 rfl ?_
        refine g_getf 27 (.ref (a 28)) fX6_260 ox_27 dX6_placeOtherFeeders_17 rfl ?_
        refine g_iload_n 3 dX6_placeOtherFeeders_20 rfl rfl ?_
        refine g_iald 28 k ax_28 dX6_placeOtherFeeders_21 rfl (by omega) ?_
        refine g_top (show U 28 k = V 28 k from by rw [u28]) ?_
        refine g_iload_n 2 dX6_placeOtherFeeders_22 rfl rfl ?_
        refine g_icmp_ne 59 dX6_placeOtherFeeders_23 (by decide) (fun c_2 => ?_) (fun c_2 => ?_)
        · refine g_iinc 3 [(3, .int (iN ((k : Int) + 1))), (0, .ref (a 0)), (1, .ref (a (15 + 4 * m))), (2, .int (iN (num : Int)))] dX6_placeOtherFeeders_59 rfl (by decide) rfl ?_
          refine g_goto 2 dX6_placeOtherFeeders_62 (by decide) ?_
          refine g_lv [1, 2, 3, 0] rfl ?_
          exact ih_2 (k + 1) g U (by omega) (⟨g, hor, Or.inr ⟨by omega, rfl⟩⟩) hg hU (by omega)
        · refine g_aload_n 0 dX6_placeOtherFeeders_26 rfl rfl ?_
          refine g_getf 0 (.ref (a 2)) fX6_10 ox_0 dX6_placeOtherFeeders_27 rfl ?_
          refine g_getf 2 (.ref (a 5)) fX6_121 ox_2 dX6_placeOtherFeeders_30 rfl ?_
          refine g_iload_n 3 dX6_placeOtherFeeders_33 rfl rfl ?_
          refine g_iald 5 k ax_5 dX6_placeOtherFeeders_34 rfl (by omega) ?_
          refine g_top (show U 5 k = V 5 k from by rw [u5]) ?_
          refine g_iconst dX6_placeOtherFeeders_35 ?_
          refine g_icmp_ne 59 dX6_placeOtherFeeders_36 (by decide) (fun c_3 => ?_) (fun c_3 => ?_)
          · refine g_iinc 3 [(3, .int (iN ((k : Int) + 1))), (0, .ref (a 0)), (1, .ref (a (15 + 4 * m))), (2, .int (iN (num : Int)))] dX6_placeOtherFeeders_59 rfl (by decide) rfl ?_
            refine g_goto 2 dX6_placeOtherFeeders_62 (by decide) ?_
            refine g_lv [1, 2, 3, 0] rfl ?_
            exact ih_2 (k + 1) g U (by omega) (⟨g, hor, Or.inr ⟨by omega, rfl⟩⟩) hg hU (by omega)
          · refine g_aload_n 1 dX6_placeOtherFeeders_39 rfl rfl ?_
            refine g_getf (15 + 4 * m) (.ref (a (15 + 4 * m + 2))) fX6_151 (ox_M (m := m) hm) dX6_placeOtherFeeders_40 rfl ?_
            refine g_iload_n 3 dX6_placeOtherFeeders_43 rfl rfl ?_
            refine g_aload_n 0 dX6_placeOtherFeeders_44 rfl rfl ?_
            refine g_aload_n 1 dX6_placeOtherFeeders_45 rfl rfl ?_
            refine g_aload_n 0 dX6_placeOtherFeeders_46 rfl rfl ?_
            refine g_getf 0 (.ref (a 2)) fX6_10 ox_0 dX6_placeOtherFeeders_47 rfl ?_
            refine g_getf 2 (.ref (a 3)) fX6_118 ox_2 dX6_placeOtherFeeders_50 rfl ?_
            refine g_iload_n 3 dX6_placeOtherFeeders_53 rfl rfl ?_
            refine g_iald 3 k ax_3 dX6_placeOtherFeeders_54 rfl (by omega) ?_
            refine g_top (show U 3 k = V 3 k from by rw [u3]) ?_
            refine g_callI (k := 0) [.ref (a (15 + 4 * m)), .int (iN (V 3 k))] (met_X6_lowestRoom (V := U) ha hm (V 3 k) kc (by rw [u2]; exact hkc) hkc10 sl (by rw [u0]; exact hsl) hsl120 (by omega) (by rw [u3]; exact fun k hk => by have := hwd k hk; omega) (fun k hk => by rw [show U (15 + 4 * m + 2) = g by rw [hU, setR_eq]]; exact hg k hk)) vX6_263 ox_0 rfl rfl ⟨rfl, rfl, Nat.le_of_ble_eq_true rfl, Nat.le_of_ble_eq_true rfl⟩ rfl (Nat.le_of_ble_eq_true rfl) dX6_placeOtherFeeders_55 rfl ?_
            rintro z9 V9 ⟨hz9, hV9⟩
            replace hV9 := hV9.symm
            subst hV9
            rw [show U (15 + 4 * m + 2) = g by rw [hU, setR_eq], u3] at hz9
            have hzb := isLow_in hz9 (by omega)
            refine g_iast (15 + 4 * m + 2) k (ax_F (m := m) (by omega)) dX6_placeOtherFeeders_58 rfl (by omega) ?_
            obtain ⟨V_4, eV_4⟩ : ∃ V9 : Mem, V9 = up U (15 + 4 * m + 2) k z9 := ⟨_, rfl⟩
            refine g_mem eV_4.symm ?_
            refine g_iinc 3 [(3, .int (iN ((k : Int) + 1))), (0, .ref (a 0)), (1, .ref (a (15 + 4 * m))), (2, .int (iN (num : Int)))] dX6_placeOtherFeeders_59 rfl (by decide) rfl ?_
            refine g_goto 2 dX6_placeOtherFeeders_62 (by decide) ?_
            refine g_lv [1, 2, 3, 0] rfl ?_
            exact ih_2 (k + 1) (up1 g k z9) V_4 (by omega) (⟨g, hor, Or.inl ⟨by omega, by omega, z9, hz9, rfl⟩⟩) (fun j hj => by unfold up1; split; (· omega); (· exact hg j hj)) (by rw [eV_4, hU, setR_up]) (by omega)
  refine g_lv [1, 2, 3, 0] rfl ?_
  exact lp_2 _ 0 (V (15 + 4 * m + 2)) V (Nat.zero_le _) rfl hfd setR_self.symm (Nat.lt_succ_self _)
