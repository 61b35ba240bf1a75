set_option maxHeartbeats 4000000 in
/-- exchangeParts(steps) -/
theorem met_X6_exchangeParts {l : Launch} {D : va_G} {τ : Nat → ClassId} {a : Nat → Nat} (ha : Apart (LX τ) a) {V : Mem} (st : Nat) (us : Nat) (hus : V 0 9 = (us : Int)) (hus3 : us ≤ 3) (hst200 : st ≤ 200) (hok0 : okX V) : CI l D (tysL τ) (LX τ) a yX6_exchangeParts mX6_exchangeParts [.ref (a 0), .int (iN (st : Int))] V (fun z V' => ((us = 0 ∧ z = 0 ∧ V' = V) ∨ (0 < us ∧ exSeq us V st z V')) ∧ okX V' ∧ V' 0 = V 0 ∧ 0 ≤ z ∧ z ≤ 200) := by
  refine CI.of (by decide +kernel) rfl (Nat.le_of_ble_eq_true rfl) ha (fun x hq => ?_)
  show G l D (tysL τ) (LX τ) a mX6_exchangeParts x 0 [(0, .ref (a 0)), (1, .int (iN (st : Int)))] [] V
  refine g_iconst dX6_exchangeParts_0 ?_
  refine g_istore_n [(2, .int (iN 0)), (0, .ref (a 0)), (1, .int (iN (st : Int)))] dX6_exchangeParts_1 rfl (by decide) rfl ?_
  refine g_iconst dX6_exchangeParts_2 ?_
  refine g_istore_n [(3, .int (iN 0)), (2, .int (iN 0)), (0, .ref (a 0)), (1, .int (iN (st : Int)))] dX6_exchangeParts_3 rfl (by decide) rfl ?_
  have lp_4 : ∀ (fuel : Nat) (i : Nat) (kp : Int) (U : Mem), (i ≤ st) → (exSeq us V i kp U) → (okX U) → (U 0 = V 0) → (0 ≤ kp ∧ kp ≤ i) → (us = 0 → i = 0) → (st - i) < fuel → G l D (tysL τ) (LX τ) a mX6_exchangeParts x 4 [(0, .ref (a 0)), (1, .int (iN (st : Int))), (2, .int (iN kp)), (3, .int (iN (i : Int)))] [] U := by
    intro fuel
    induction fuel with
    | zero => intro i kp U hi hseq hok h0 hkp hus0 hfu; exact absurd hfu (Nat.not_lt_zero _)
    | succ fuel ih_4 =>
      intro i kp U hi hseq hok h0 hkp hus0 hfu
      refine g_iload_n 3 dX6_exchangeParts_4 rfl rfl ?_
      refine g_iload_n 1 dX6_exchangeParts_5 rfl rfl ?_
      refine g_icmp_ge 48 dX6_exchangeParts_6 (by decide) (fun c_1 => ?_) (fun c_1 => ?_)
      · refine g_iload_n 2 dX6_exchangeParts_48 rfl rfl ?_
        exact g_iret hq rfl rfl dX6_exchangeParts_49 (⟨by
              by_cases hz : us = 0
              · have e0 := hus0 hz
                subst e0
                exact Or.inl ⟨hz, hseq.1, hseq.2⟩
              · exact Or.inr ⟨by omega, by rw [← show i = st by omega]; exact hseq⟩, hok, h0, by omega, by omega⟩)
      · refine g_aload_n 0 dX6_exchangeParts_9 rfl rfl ?_
        refine g_getf 0 (.int (iN (U 0 9))) fX6_52 ox_0 dX6_exchangeParts_10 rfl ?_
        refine g_top (show U 0 9 = (us : Int) from by rw [h0]; exact hus) ?_
        refine g_if_le 48 dX6_exchangeParts_13 (by decide) (fun c_2 => ?_) (fun c_2 => ?_)
        · refine g_iload_n 2 dX6_exchangeParts_48 rfl rfl ?_
          exact g_iret hq rfl rfl dX6_exchangeParts_49 (⟨by
                by_cases hz : us = 0
                · have e0 := hus0 hz
                  subst e0
                  exact Or.inl ⟨hz, hseq.1, hseq.2⟩
                · exact Or.inr ⟨by omega, by rw [← show i = st by omega]; exact hseq⟩, hok, h0, by omega, by omega⟩)
        · refine g_aload_n 0 dX6_exchangeParts_16 rfl rfl ?_
          refine g_aload_n 0 dX6_exchangeParts_17 rfl rfl ?_
          refine g_getf 0 (.ref (a 14)) fX6_26 ox_0 dX6_exchangeParts_18 rfl ?_
          refine g_aload_n 0 dX6_exchangeParts_21 rfl rfl ?_
          refine g_getf 0 (.ref (a 1)) fX6_72 ox_0 dX6_exchangeParts_22 rfl ?_
          refine g_aload_n 0 dX6_exchangeParts_25 rfl rfl ?_
          refine g_getf 0 (.int (iN (U 0 9))) fX6_52 ox_0 dX6_exchangeParts_26 rfl ?_
          refine g_top (show U 0 9 = (us : Int) from by rw [h0]; exact hus) ?_
          refine g_callI (k := 1) [.int (iN (us : Int))] (met_X0_next (V := U) ha (us : Int) (by omega)) vX6_267 ox_1 rfl rfl ⟨rfl, rfl, Nat.le_of_ble_eq_true rfl, Nat.le_of_ble_eq_true rfl⟩ rfl (Nat.le_of_ble_eq_true rfl) dX6_exchangeParts_29 rfl ?_
          rintro z9 Va ⟨hz9, eVa⟩
          have hdr := drw_in (lcg (U 1 0))
          change z9 = drw (lcg (U 1 0)) % (us : Int) at hz9
          have hmm : 0 ≤ drw (lcg (U 1 0)) % (us : Int) ∧ drw (lcg (U 1 0)) % (us : Int) < us := ⟨Int.emod_nonneg _ (by omega), Int.emod_lt_of_pos _ (by omega)⟩
          obtain ⟨m, hdm⟩ : ∃ q : Nat, (q : Int) = drw (lcg (U 1 0)) % (us : Int) := ⟨(drw (lcg (U 1 0)) % (us : Int)).toNat, by omega⟩
          rw [← hdm] at hz9
          replace hz9 := hz9.symm
          subst hz9
          have hm : m < us := by omega
          change Va = up U 1 0 (lcg (U 1 0)) at eVa
          have hokA : okX Va := by rw [eVa]; exact okX_draw hok
          obtain ⟨⟨k10, k4, k13, k9, k11, k12⟩, hMA⟩ := id hokA
          obtain ⟨q5, q4, qr, q6⟩ := hMA m (by omega)
          refine g_aald 14 m ax_14 dX6_exchangeParts_32 rfl (by omega) ?_
          refine g_callI (k := 0) [.ref (a (15 + 4 * m))] (met_X6_exchangeOnce (V := Va) ha (show m < 3 by omega) (Va (15 + 4 * m) 5).toNat (by omega) (by omega) (fun i hi => qr i (by omega)) (Va (15 + 4 * m) 4).toNat (by omega) (by omega) k10 k4 k13 k9 k11 k12 q6) vX6_270 ox_0 rfl rfl ⟨rfl, rfl, Nat.le_of_ble_eq_true rfl, Nat.le_of_ble_eq_true rfl⟩ rfl (Nat.le_of_ble_eq_true rfl) dX6_exchangeParts_33 rfl ?_
          intro z9 V9 hx9
          have hx9 : exR Va m (Va (15 + 4 * m) 5).toNat (Va (15 + 4 * m) 4).toNat z9 V9 := hx9
          obtain ⟨hok9, h09, hz01⟩ := exR_ok (by omega) (by omega) hokA hx9
          have h0A : Va 0 = U 0 := by rw [eVa]; exact up_ne1 (by omega)
          have hst : exStep us U z9 V9 := ⟨m, hm, hdm, by rw [eVa] at hx9; rw [up_ne1 (by omega)] at hx9; exact hx9⟩
          rcases hz01 with hz9 | hz9
          · subst hz9
            refine g_if_eq 42 dX6_exchangeParts_36 (by decide) (fun _ => ?_) (fun c_3 => absurd c_3 (by decide))
            refine g_iinc 3 [(3, .int (iN ((i : Int) + 1))), (0, .ref (a 0)), (1, .int (iN (st : Int))), (2, .int (iN kp))] dX6_exchangeParts_42 rfl (by decide) rfl ?_
            refine g_goto 4 dX6_exchangeParts_45 (by decide) ?_
            refine g_lv [1, 2, 3, 0] rfl ?_
            exact ih_4 (i + 1) kp V9 (by omega) (⟨kp, U, _, hseq, hst, by omega⟩) hok9 (by rw [h09, h0A, h0]) (by omega) (by omega) (by omega)
          · subst hz9
            refine g_if_eq 42 dX6_exchangeParts_36 (by decide) (fun c_4 => absurd c_4 (by decide)) (fun _ => ?_)
            refine g_iinc 2 [(2, .int (iN (kp + 1))), (0, .ref (a 0)), (1, .int (iN (st : Int))), (3, .int (iN (i : Int)))] dX6_exchangeParts_39 rfl (by decide) rfl ?_
            refine g_iinc 3 [(3, .int (iN ((i : Int) + 1))), (2, .int (iN (kp + 1))), (0, .ref (a 0)), (1, .int (iN (st : Int)))] dX6_exchangeParts_42 rfl (by decide) rfl ?_
            refine g_goto 4 dX6_exchangeParts_45 (by decide) ?_
            refine g_lv [2, 3, 1, 0] rfl ?_
            exact ih_4 (i + 1) (kp + 1) V9 (by omega) (⟨kp, U, _, hseq, hst, rfl⟩) hok9 (by rw [h09, h0A, h0]) (by omega) (by omega) (by omega)
  refine g_lv [2, 3, 1, 0] rfl ?_
  exact lp_4 _ 0 0 V (Nat.zero_le _) (⟨rfl, rfl⟩) hok0 rfl (by omega) (fun _ => rfl) (Nat.lt_succ_self _)
