set_option maxHeartbeats 4000000 in
/-- exchanges(st) -/
theorem met_X7_exchanges {l : Launch} {D : va_G} {τ : Nat → ClassId} {a : Nat → Nat} (ha : Apart (LM τ) a) {V : Mem} (kc : Nat) (hkc : V 0 3 = (kc : Int)) (us : Nat) (hus : V 0 18 = (us : Int)) (st : Nat) (hok : okR V) (hst : st ≤ 200) : CI l D (tysL τ) (LM τ) a yX7_exchanges mX7_exchanges [.ref (a 0), .long (jN (st : Int))] V (fun z V' => rxs V kc st z V' ∧ okR V' ∧ rxK V V' ∧ 0 ≤ z ∧ z ≤ 200) := by
  refine CI.of (by decide +kernel) rfl (Nat.le_of_ble_eq_true rfl) ha (fun x hq => ?_)
  show G l D (tysL τ) (LM τ) a mX7_exchanges x 0 [(0, .ref (a 0)), (1, .long (jN (st : Int)))] [] V
  obtain ⟨r2, r3, r10, r15, r18, q1, q1k, q2, q3, q4, q5, q6, q7, q7k, q8, q9, q10, q11, q12, q14, qr, qf⟩ := id hok
  refine g_iconst dX7_exchanges_0 ?_
  refine g_istore_n [(3, .int (iN 0)), (0, .ref (a 0)), (1, .long (jN (st : Int)))] dX7_exchanges_1 rfl (by decide) rfl ?_
  refine g_lconst 0 dX7_exchanges_2 rfl ?_
  refine g_lstore [(4, .long (jN 0)), (3, .int (iN 0)), (0, .ref (a 0)), (1, .long (jN (st : Int)))] dX7_exchanges_3 (by decide) rfl ?_
  have lp_5 : ∀ (fuel : Nat) (i : Nat) (kp : Int) (U : Mem), (i ≤ st) → (rxSeq us kc V i kp U) → (okR U) → (rxK V U) → (0 ≤ kp ∧ kp ≤ i) → (us = 0 → i = 0) → (st - i) < fuel → G l D (tysL τ) (LM τ) a mX7_exchanges x 5 [(0, .ref (a 0)), (1, .long (jN (st : Int))), (3, .int (iN kp)), (4, .long (jN (i : Int)))] [] U := by
    intro fuel
    induction fuel with
    | zero => intro i kp U hi hseq hokU hK hkp hus0 hfu; exact absurd hfu (Nat.not_lt_zero _)
    | succ fuel ih_5 =>
      intro i kp U hi hseq hokU hK hkp hus0 hfu
      refine g_lload 3 dX7_exchanges_5 rfl ?_
      refine g_lload_n 1 dX7_exchanges_7 rfl rfl ?_
      refine g_lcmp (cmpz (i : Int) (st : Int)) dX7_exchanges_8 (cmpz_j (by omega) (by omega)) ?_
      have hcmp_1 := cmpz_c (i : Int) (st : Int)
      refine g_if_ge 43 dX7_exchanges_9 (by decide) (fun c_2 => ?_) (fun c_2 => ?_)
      · refine g_iload_n 2 dX7_exchanges_43 rfl rfl ?_
        exact g_iret hq rfl rfl dX7_exchanges_44 (⟨by
              by_cases hz : us = 0
              · have e0 := hus0 hz
                subst e0
                exact Or.inl ⟨by omega, hseq.1, hseq.2⟩
              · exact Or.inr ⟨by omega, by rw [show (V 0 18).toNat = us by omega, ← show i = st by omega]; exact hseq⟩, hokU, hK, by omega, by omega⟩)
      · refine g_aload_n 0 dX7_exchanges_12 rfl rfl ?_
        refine g_getf 0 (.int (iN (U 0 18))) fX7_109 om_0 dX7_exchanges_13 rfl ?_
        refine g_top (show U 0 18 = (us : Int) from by rw [hK.2 18 (by omega) (by omega)]; exact hus) ?_
        refine g_if_le 43 dX7_exchanges_16 (by decide) (fun c_3 => ?_) (fun c_3 => ?_)
        · refine g_iload_n 2 dX7_exchanges_43 rfl rfl ?_
          exact g_iret hq rfl rfl dX7_exchanges_44 (⟨by
                by_cases hz : us = 0
                · have e0 := hus0 hz
                  subst e0
                  exact Or.inl ⟨by omega, hseq.1, hseq.2⟩
                · exact Or.inr ⟨by omega, by rw [show (V 0 18).toNat = us by omega, ← show i = st by omega]; exact hseq⟩, hokU, hK, by omega, by omega⟩)
        · refine g_iload_n 2 dX7_exchanges_19 rfl rfl ?_
          refine g_aload_n 0 dX7_exchanges_20 rfl rfl ?_
          refine g_callI (k := 0) [] (met_X7_exchange (V := U) ha kc (by rw [hK.2 3 (by omega) (by omega)]; exact hkc) us (by rw [hK.2 18 (by omega) (by omega)]; exact hus) hokU (by omega)) vX7_197 om_0 rfl rfl ⟨rfl, rfl, Nat.le_of_ble_eq_true rfl, Nat.le_of_ble_eq_true rfl⟩ rfl (Nat.le_of_ble_eq_true rfl) dX7_exchanges_21 rfl ?_
          intro z9 V9 hx9
          have hst : rxStep us kc U z9 V9 := hx9
          obtain ⟨hok9, hk9, hz01⟩ := rxStep_ok (by omega) hokU hst
          rcases hz01 with hz9 | hz9
          · subst hz9
            refine g_if_eq 31 dX7_exchanges_24 (by decide) (fun _ => ?_) (fun c_4 => absurd c_4 (by decide))
            refine g_iconst dX7_exchanges_31 ?_
            refine g_iadd dX7_exchanges_32 ?_
            refine g_istore_n [(3, .int (iN (kp + 0))), (0, .ref (a 0)), (1, .long (jN (st : Int))), (4, .long (jN (i : Int)))] dX7_exchanges_33 rfl (by decide) rfl ?_
            refine g_lload 3 dX7_exchanges_34 rfl ?_
            refine g_lconst 1 dX7_exchanges_36 rfl ?_
            refine g_ladd dX7_exchanges_37 ?_
            refine g_lstore [(4, .long (jN ((i : Int) + 1))), (3, .int (iN (kp + 0))), (0, .ref (a 0)), (1, .long (jN (st : Int)))] dX7_exchanges_38 (by decide) rfl ?_
            refine g_goto 5 dX7_exchanges_40 (by decide) ?_
            refine g_lve (show ([(4, .long (jN ((i : Int) + 1))), (3, .int (iN (kp + 0))), (0, .ref (a 0)), (1, .long (jN (st : Int)))] : List (Nat × Value)) = ([(4, .long (jN ((i + 1 : Nat) : Int))), (3, .int (iN (kp + 0))), (0, .ref (a 0)), (1, .long (jN (st : Int)))] : List (Nat × Value)) from by rw [show (i : Int) + 1 = ((i + 1 : Nat) : Int) from by omega]) ?_
            refine g_lv [2, 3, 1, 0] rfl ?_
            exact ih_5 (i + 1) (kp + 0) V9 (by omega) (⟨kp, U, _, hseq, hst, rfl⟩) hok9 (rxK_trans hK hk9) (by omega) (by omega) (by omega)
          · subst hz9
            refine g_if_eq 31 dX7_exchanges_24 (by decide) (fun c_5 => absurd c_5 (by decide)) (fun _ => ?_)
            refine g_iconst dX7_exchanges_27 ?_
            refine g_goto 32 dX7_exchanges_28 (by decide) ?_
            refine g_iadd dX7_exchanges_32 ?_
            refine g_istore_n [(3, .int (iN (kp + 1))), (0, .ref (a 0)), (1, .long (jN (st : Int))), (4, .long (jN (i : Int)))] dX7_exchanges_33 rfl (by decide) rfl ?_
            refine g_lload 3 dX7_exchanges_34 rfl ?_
            refine g_lconst 1 dX7_exchanges_36 rfl ?_
            refine g_ladd dX7_exchanges_37 ?_
            refine g_lstore [(4, .long (jN ((i : Int) + 1))), (3, .int (iN (kp + 1))), (0, .ref (a 0)), (1, .long (jN (st : Int)))] dX7_exchanges_38 (by decide) rfl ?_
            refine g_goto 5 dX7_exchanges_40 (by decide) ?_
            refine g_lve (show ([(4, .long (jN ((i : Int) + 1))), (3, .int (iN (kp + 1))), (0, .ref (a 0)), (1, .long (jN (st : Int)))] : List (Nat × Value)) = ([(4, .long (jN ((i + 1 : Nat) : Int))), (3, .int (iN (kp + 1))), (0, .ref (a 0)), (1, .long (jN (st : Int)))] : List (Nat × Value)) from by rw [show (i : Int) + 1 = ((i + 1 : Nat) : Int) from by omega]) ?_
            refine g_lv [2, 3, 1, 0] rfl ?_
            exact ih_5 (i + 1) (kp + 1) V9 (by omega) (⟨kp, U, _, hseq, hst, rfl⟩) hok9 (rxK_trans hK hk9) (by omega) (by omega) (by omega)
  refine g_lv [2, 3, 1, 0] rfl ?_
  exact lp_5 _ 0 0 V (by omega) (⟨rfl, rfl⟩) hok (⟨fun _ _ _ _ _ _ => rfl, fun _ _ _ => rfl⟩) (by omega) (fun _ => rfl) (Nat.lt_succ_self _)

set_option maxHeartbeats 4000000 in
/-- improve(st) -/
theorem met_X7_improve {l : Launch} {D : va_G} {τ : Nat → ClassId} {a : Nat → Nat} (ha : Apart (LM τ) a) {V : Mem} (kc : Nat) (hkc : V 0 3 = (kc : Int)) (us : Nat) (hus : V 0 18 = (us : Int)) (st : Nat) (hok : okR V) (hst : st ≤ 200) : CI l D (tysL τ) (LM τ) a yX7_improve mX7_improve [.ref (a 0), .int (iN (st : Int))] V (fun z V' => rxs (up V 0 0 0) kc st z V' ∧ okR V' ∧ rxK (up V 0 0 0) V' ∧ 0 ≤ z ∧ z ≤ 200) := by
  refine CI.of (by decide +kernel) rfl (Nat.le_of_ble_eq_true rfl) ha (fun x hq => ?_)
  show G l D (tysL τ) (LM τ) a mX7_improve x 0 [(0, .ref (a 0)), (1, .int (iN (st : Int)))] [] V
  obtain ⟨r2, r3, r10, r15, r18, q1, q1k, q2, q3, q4, q5, q6, q7, q7k, q8, q9, q10, q11, q12, q14, qr, qf⟩ := id hok
  refine g_aload_n 0 dX7_improve_0 rfl rfl ?_
  refine g_iload_n 1 dX7_improve_1 rfl rfl ?_
  refine g_if_lt 16 dX7_improve_2 (by decide) (fun c_1 => ?_) (fun c_1 => ?_)
  · omega
  · refine g_iload_n 1 dX7_improve_5 rfl rfl ?_
    refine g_sipush dX7_improve_6 rfl ?_
    refine g_icmp_gt 16 dX7_improve_9 (by decide) (fun c_2 => ?_) (fun c_2 => ?_)
    · omega
    · refine g_iconst dX7_improve_12 ?_
      refine g_goto 17 dX7_improve_13 (by decide) ?_
      refine g_putf 0 (v := 0) (.int (iN 0)) pX7_83 om_0 dX7_improve_17 rfl rfl (Nat.le_of_ble_eq_true rfl) rfl ?_
      obtain ⟨V_3, eV_3⟩ : ∃ V9 : Mem, V9 = up V 0 0 0 := ⟨_, rfl⟩
      refine g_mem eV_3.symm ?_
      have hok1 : okR V_3 := by rw [eV_3]; exact okR_thr _ hok
      have z14 : V_3 14 = V 14 := by rw [eV_3]; exact up_ne1 (by omega)
      have z15 : V_3 15 = V 15 := by rw [eV_3]; exact up_ne1 (by omega)
      have z2 : V_3 2 = V 2 := by rw [eV_3]; exact up_ne1 (by omega)
      have z7 : V_3 7 = V 7 := by rw [eV_3]; exact up_ne1 (by omega)
      have z11 : V_3 11 = V 11 := by rw [eV_3]; exact up_ne1 (by omega)
      have z12 : V_3 12 = V 12 := by rw [eV_3]; exact up_ne1 (by omega)
      have z13 : V_3 13 = V 13 := by rw [eV_3]; exact up_ne1 (by omega)
      have z1 : V_3 1 = V 1 := by rw [eV_3]; exact up_ne1 (by omega)
      have z3 : V_3 3 = V 3 := by rw [eV_3]; exact up_ne1 (by omega)
      have z018 : V_3 0 18 = V 0 18 := by rw [eV_3]; exact up_ne (by omega)
      have z03 : V_3 0 3 = V 0 3 := by rw [eV_3]; exact up_ne (by omega)
      refine g_aload_n 0 dX7_improve_20 rfl rfl ?_
      refine g_getf 0 (.int (iN (V_3 0 0))) fX7_83 om_0 dX7_improve_21 rfl ?_
      refine g_top (show _ = 0 from by rw [eV_3, up_eq]) ?_
      refine g_if_ne 36 dX7_improve_24 (by decide) (fun c_4 => absurd c_4 (by decide)) (fun _ => ?_)
      refine g_aload_n 0 dX7_improve_27 rfl rfl ?_
      refine g_iload_n 1 dX7_improve_28 rfl rfl ?_
      refine g_i2l dX7_improve_29 (by omega) ?_
      refine g_callI (k := 0) [.long (jN (st : Int))] (met_X7_exchanges (V := V_3) ha kc (by rw [z03]; exact hkc) us (by rw [z018]; exact hus) st hok1 hst) vX7_212 om_0 rfl rfl ⟨rfl, rfl, Nat.le_of_ble_eq_true rfl, Nat.le_of_ble_eq_true rfl⟩ rfl (Nat.le_of_ble_eq_true rfl) dX7_improve_30 rfl ?_
      intro z9 V9 hz9
      refine g_goto 37 dX7_improve_33 (by decide) ?_
      exact g_iret hq rfl rfl dX7_improve_37 (by rw [← eV_3]; exact hz9)

set_option maxHeartbeats 4000000 in
theorem met_X7_improve_b1 {l : Launch} {D : va_G} {τ : Nat → ClassId} {a : Nat → Nat} (ha : Apart (LM τ) a) {V : Mem} (st : Int) (hok : okR V) (hs0 : -2147483648 ≤ st ∧ st ≤ 2147483647) (hb : ¬ (0 ≤ st ∧ st ≤ 200)) : CI l D (tysL τ) (LM τ) a yX7_improve mX7_improve [.ref (a 0), .int (iN st)] V (fun z V' => V' = up V 0 0 1) := by
  refine CI.of (by decide +kernel) rfl (Nat.le_of_ble_eq_true rfl) ha (fun x hq => ?_)
  show G l D (tysL τ) (LM τ) a mX7_improve x 0 [(0, .ref (a 0)), (1, .int (iN st))] [] V
  obtain ⟨r2, r3, r10, r15, r18, q1, q1k, q2, q3, q4, q5, q6, q7, q7k, q8, q9, q10, q11, q12, q14, qr, qf⟩ := id hok
  refine g_aload_n 0 dX7_improve_0 rfl rfl ?_
  refine g_iload_n 1 dX7_improve_1 rfl rfl ?_
  refine g_if_lt 16 dX7_improve_2 (by decide) (fun c_1 => ?_) (fun c_1 => ?_)
  · refine g_iconst dX7_improve_16 ?_
    refine g_putf 0 (v := 1) (.int (iN 1)) pX7_83 om_0 dX7_improve_17 rfl rfl (Nat.le_of_ble_eq_true rfl) rfl ?_
    obtain ⟨V_2, eV_2⟩ : ∃ V9 : Mem, V9 = up V 0 0 1 := ⟨_, rfl⟩
    refine g_mem eV_2.symm ?_
    refine g_aload_n 0 dX7_improve_20 rfl rfl ?_
    refine g_getf 0 (.int (iN (V_2 0 0))) fX7_83 om_0 dX7_improve_21 rfl ?_
    refine g_top (show _ = 1 from by rw [eV_2, up_eq]) ?_
    refine g_if_ne 36 dX7_improve_24 (by decide) (fun _ => ?_) (fun c_3 => absurd c_3 (by decide))
    refine g_iconst dX7_improve_36 ?_
    exact g_iret hq rfl rfl dX7_improve_37 (by rw [eV_2])
  · refine g_iload_n 1 dX7_improve_5 rfl rfl ?_
    refine g_sipush dX7_improve_6 rfl ?_
    refine g_icmp_gt 16 dX7_improve_9 (by decide) (fun c_4 => ?_) (fun c_4 => ?_)
    · refine g_iconst dX7_improve_16 ?_
      refine g_putf 0 (v := 1) (.int (iN 1)) pX7_83 om_0 dX7_improve_17 rfl rfl (Nat.le_of_ble_eq_true rfl) rfl ?_
      obtain ⟨V_5, eV_5⟩ : ∃ V9 : Mem, V9 = up V 0 0 1 := ⟨_, rfl⟩
      refine g_mem eV_5.symm ?_
      refine g_aload_n 0 dX7_improve_20 rfl rfl ?_
      refine g_getf 0 (.int (iN (V_5 0 0))) fX7_83 om_0 dX7_improve_21 rfl ?_
      refine g_top (show _ = 1 from by rw [eV_5, up_eq]) ?_
      refine g_if_ne 36 dX7_improve_24 (by decide) (fun _ => ?_) (fun c_6 => absurd c_6 (by decide))
      refine g_iconst dX7_improve_36 ?_
      exact g_iret hq rfl rfl dX7_improve_37 (by rw [eV_5])
    · omega

set_option maxHeartbeats 4000000 in
theorem met_X7_run_b1 {l : Launch} {D : va_G} {τ : Nat → ClassId} {a : Nat → Nat} (ha : Apart (LM τ) a) {V : Mem} (mm st : Int) (hok : okR V) (hm0 : -2147483648 ≤ mm ∧ mm ≤ 2147483647) (hs0 : -9223372036854775808 ≤ st ∧ st ≤ 9223372036854775807) (hb : ¬ (0 ≤ mm ∧ mm ≤ 3 ∧ 0 ≤ st ∧ st ≤ 200)) : CI l D (tysL τ) (LM τ) a yX7_run mX7_run [.ref (a 0), .int (iN mm), .long (jN st)] V (fun z V' => V' = up V 0 0 1) := by
  refine CI.of (by decide +kernel) rfl (Nat.le_of_ble_eq_true rfl) ha (fun x hq => ?_)
  show G l D (tysL τ) (LM τ) a mX7_run x 0 [(0, .ref (a 0)), (1, .int (iN mm)), (2, .long (jN st))] [] V
  obtain ⟨r2, r3, r10, r15, r18, q1, q1k, q2, q3, q4, q5, q6, q7, q7k, q8, q9, q10, q11, q12, q14, qr, qf⟩ := id hok
  refine g_aload_n 0 dX7_run_0 rfl rfl ?_
  refine g_iload_n 1 dX7_run_1 rfl rfl ?_
  refine g_if_lt 28 dX7_run_2 (by decide) (fun c_1 => ?_) (fun c_1 => ?_)
  · refine g_iconst dX7_run_28 ?_
    refine g_putf 0 (v := 1) (.int (iN 1)) pX7_83 om_0 dX7_run_29 rfl rfl (Nat.le_of_ble_eq_true rfl) rfl ?_
    obtain ⟨V_2, eV_2⟩ : ∃ V9 : Mem, V9 = up V 0 0 1 := ⟨_, rfl⟩
    refine g_mem eV_2.symm ?_
    refine g_aload_n 0 dX7_run_32 rfl rfl ?_
    refine g_getf 0 (.int (iN (V_2 0 0))) fX7_83 om_0 dX7_run_33 rfl ?_
    refine g_top (show _ = 1 from by rw [eV_2, up_eq]) ?_
    refine g_if_eq 41 dX7_run_36 (by decide) (fun c_3 => absurd c_3 (by decide)) (fun _ => ?_)
    refine g_iconst dX7_run_39 ?_
    exact g_iret hq rfl rfl dX7_run_40 (by rw [eV_2])
  · refine g_iload_n 1 dX7_run_5 rfl rfl ?_
    refine g_iconst dX7_run_6 ?_
    refine g_icmp_gt 28 dX7_run_7 (by decide) (fun c_4 => ?_) (fun c_4 => ?_)
    · refine g_iconst dX7_run_28 ?_
      refine g_putf 0 (v := 1) (.int (iN 1)) pX7_83 om_0 dX7_run_29 rfl rfl (Nat.le_of_ble_eq_true rfl) rfl ?_
      obtain ⟨V_5, eV_5⟩ : ∃ V9 : Mem, V9 = up V 0 0 1 := ⟨_, rfl⟩
      refine g_mem eV_5.symm ?_
      refine g_aload_n 0 dX7_run_32 rfl rfl ?_
      refine g_getf 0 (.int (iN (V_5 0 0))) fX7_83 om_0 dX7_run_33 rfl ?_
      refine g_top (show _ = 1 from by rw [eV_5, up_eq]) ?_
      refine g_if_eq 41 dX7_run_36 (by decide) (fun c_6 => absurd c_6 (by decide)) (fun _ => ?_)
      refine g_iconst dX7_run_39 ?_
      exact g_iret hq rfl rfl dX7_run_40 (by rw [eV_5])
    · refine g_lload_n 2 dX7_run_10 rfl rfl ?_
      refine g_lconst 0 dX7_run_11 rfl ?_
      refine g_lcmp (cmpz st 0) dX7_run_12 (cmpz_j (by omega) (by omega)) ?_
      have hcmp_7 := cmpz_c st 0
      refine g_if_lt 28 dX7_run_13 (by decide) (fun c_8 => ?_) (fun c_8 => ?_)
      · refine g_iconst dX7_run_28 ?_
        refine g_putf 0 (v := 1) (.int (iN 1)) pX7_83 om_0 dX7_run_29 rfl rfl (Nat.le_of_ble_eq_true rfl) rfl ?_
        obtain ⟨V_9, eV_9⟩ : ∃ V9 : Mem, V9 = up V 0 0 1 := ⟨_, rfl⟩
        refine g_mem eV_9.symm ?_
        refine g_aload_n 0 dX7_run_32 rfl rfl ?_
        refine g_getf 0 (.int (iN (V_9 0 0))) fX7_83 om_0 dX7_run_33 rfl ?_
        refine g_top (show _ = 1 from by rw [eV_9, up_eq]) ?_
        refine g_if_eq 41 dX7_run_36 (by decide) (fun c_10 => absurd c_10 (by decide)) (fun _ => ?_)
        refine g_iconst dX7_run_39 ?_
        exact g_iret hq rfl rfl dX7_run_40 (by rw [eV_9])
      · refine g_lload_n 2 dX7_run_16 rfl rfl ?_
        refine g_ldc2 200 kX7_200 rfl dX7_run_17 ?_
        refine g_lcmp (cmpz st 200) dX7_run_20 (cmpz_j (by omega) (by omega)) ?_
        have hcmp_11 := cmpz_c st 200
        refine g_if_gt 28 dX7_run_21 (by decide) (fun c_12 => ?_) (fun c_12 => ?_)
        · refine g_iconst dX7_run_28 ?_
          refine g_putf 0 (v := 1) (.int (iN 1)) pX7_83 om_0 dX7_run_29 rfl rfl (Nat.le_of_ble_eq_true rfl) rfl ?_
          obtain ⟨V_13, eV_13⟩ : ∃ V9 : Mem, V9 = up V 0 0 1 := ⟨_, rfl⟩
          refine g_mem eV_13.symm ?_
          refine g_aload_n 0 dX7_run_32 rfl rfl ?_
          refine g_getf 0 (.int (iN (V_13 0 0))) fX7_83 om_0 dX7_run_33 rfl ?_
          refine g_top (show _ = 1 from by rw [eV_13, up_eq]) ?_
          refine g_if_eq 41 dX7_run_36 (by decide) (fun c_14 => absurd c_14 (by decide)) (fun _ => ?_)
          refine g_iconst dX7_run_39 ?_
          exact g_iret hq rfl rfl dX7_run_40 (by rw [eV_13])
        · omega

set_option maxHeartbeats 4000000 in
/-- bound() -/
theorem met_X7_bound {l : Launch} {D : va_G} {τ : Nat → ClassId} {a : Nat → Nat} (ha : Apart (LM τ) a) {V : Mem} (kc : Nat) (hkc : V 0 3 = (kc : Int)) (us : Nat) (hus : V 0 18 = (us : Int)) (hok : okR V)  : CL l D (tysL τ) (LM τ) a yX7_bound mX7_bound [.ref (a 0)] V (fun z V' => z = mxF (rBd V kc) us ∧ V' = up V 0 0 0) := by
  refine CL.of (by decide +kernel) rfl (Nat.le_of_ble_eq_true rfl) ha (fun x hq => ?_)
  show G l D (tysL τ) (LM τ) a mX7_bound x 0 [(0, .ref (a 0))] [] V
  obtain ⟨r2, r3, r10, r15, r18, q1, q1k, q2, q3, q4, q5, q6, q7, q7k, q8, q9, q10, q11, q12, q14, qr, qf⟩ := id hok
  refine g_aload_n 0 dX7_bound_0 rfl rfl ?_
  refine g_iconst dX7_bound_1 ?_
  refine g_putf 0 (v := 0) (.int (iN 0)) pX7_83 om_0 dX7_bound_2 rfl rfl (Nat.le_of_ble_eq_true rfl) rfl ?_
  obtain ⟨V_1, eV_1⟩ : ∃ V9 : Mem, V9 = up V 0 0 0 := ⟨_, rfl⟩
  refine g_mem eV_1.symm ?_
  have hok1 : okR V_1 := by rw [eV_1]; exact okR_thr _ hok
  have z14 : V_1 14 = V 14 := by rw [eV_1]; exact up_ne1 (by omega)
  have z15 : V_1 15 = V 15 := by rw [eV_1]; exact up_ne1 (by omega)
  have z2 : V_1 2 = V 2 := by rw [eV_1]; exact up_ne1 (by omega)
  have z7 : V_1 7 = V 7 := by rw [eV_1]; exact up_ne1 (by omega)
  have z11 : V_1 11 = V 11 := by rw [eV_1]; exact up_ne1 (by omega)
  have z12 : V_1 12 = V 12 := by rw [eV_1]; exact up_ne1 (by omega)
  have z13 : V_1 13 = V 13 := by rw [eV_1]; exact up_ne1 (by omega)
  have z1 : V_1 1 = V 1 := by rw [eV_1]; exact up_ne1 (by omega)
  have z3 : V_1 3 = V 3 := by rw [eV_1]; exact up_ne1 (by omega)
  have z018 : V_1 0 18 = V 0 18 := by rw [eV_1]; exact up_ne (by omega)
  have z03 : V_1 0 3 = V 0 3 := by rw [eV_1]; exact up_ne (by omega)
  have zz6 : V_1 6 = V 6 := by rw [eV_1]; exact up_ne1 (by omega)
  have zz5 : V_1 5 = V 5 := by rw [eV_1]; exact up_ne1 (by omega)
  have zz4 : V_1 4 = V 4 := by rw [eV_1]; exact up_ne1 (by omega)
  have zz010 : V_1 0 10 = V 0 10 := by rw [eV_1]; exact up_ne (by omega)
  refine g_lconst 0 dX7_bound_5 rfl ?_
  refine g_lstore_n [(1, .long (jN 0)), (0, .ref (a 0))] dX7_bound_6 rfl (by decide) rfl ?_
  refine g_iconst dX7_bound_7 ?_
  refine g_istore_n [(3, .int (iN 0)), (1, .long (jN 0)), (0, .ref (a 0))] dX7_bound_8 rfl (by decide) rfl ?_
  have lp_9 : ∀ (fuel : Nat) (m : Nat) (t0 : Int), (m ≤ us) → (t0 = mxF (rBd V kc) m) → (0 ≤ t0 ∧ t0 ≤ 100000000) → (us - m) < fuel → G l D (tysL τ) (LM τ) a mX7_bound x 9 [(0, .ref (a 0)), (1, .long (jN t0)), (3, .int (iN (m : Int)))] [] V_1 := by
    intro fuel
    induction fuel with
    | zero => intro m t0 hm ht0 htb hfu; exact absurd hfu (Nat.not_lt_zero _)
    | succ fuel ih_9 =>
      intro m t0 hm ht0 htb hfu
      have q14m := q14 m
      refine g_iload_n 2 dX7_bound_9 rfl rfl ?_
      refine g_aload_n 0 dX7_bound_10 rfl rfl ?_
      refine g_getf 0 (.int (iN (V_1 0 18))) fX7_109 om_0 dX7_bound_11 rfl ?_
      refine g_top (show _ = V 0 18 from by rw [eV_1, up_ne (by omega)]) ?_
      refine g_top (show V 0 18 = (us : Int) from hus) ?_
      refine g_icmp_ge 144 dX7_bound_14 (by decide) (fun c_2 => ?_) (fun c_2 => ?_)
      · refine g_lload_n 1 dX7_bound_144 rfl rfl ?_
        exact g_lret hq rfl dX7_bound_145 (⟨by rw [ht0, show m = us by omega], by rw [eV_1]⟩)
      · refine g_iconst dX7_bound_17 ?_
        refine g_istore [(4, .int (iN 0)), (0, .ref (a 0)), (1, .long (jN t0)), (3, .int (iN (m : Int)))] dX7_bound_18 (by decide) rfl ?_
        refine g_bipush dX7_bound_20 rfl ?_
        refine g_iload_n 3 dX7_bound_22 rfl rfl ?_
        refine g_imul dX7_bound_23 ?_
        refine g_istore [(5, .int (iN (40 * (m : Int)))), (4, .int (iN 0)), (0, .ref (a 0)), (1, .long (jN t0)), (3, .int (iN (m : Int)))] dX7_bound_24 (by decide) rfl ?_
        refine g_lve (show ([(5, .int (iN (40 * (m : Int)))), (4, .int (iN 0)), (0, .ref (a 0)), (1, .long (jN t0)), (3, .int (iN (m : Int)))] : List (Nat × Value)) = ([(5, .int (iN ((40 * m + 0 : Nat) : Int))), (4, .int (iN 0)), (0, .ref (a 0)), (1, .long (jN t0)), (3, .int (iN (m : Int)))] : List (Nat × Value)) from by rw [show 40 * (m : Int) = ((40 * m + 0 : Nat) : Int) from by omega]) ?_
        have lp_26 : ∀ (fuel : Nat) (i : Nat) (f : Nat), (i ≤ (V 14 m).toNat) → (f = nzR (fun i => (V 2 (V 7 (V 15 (40 * m + i)).toNat).toNat).toNat) i) → ((V 14 m).toNat - i) < fuel → G l D (tysL τ) (LM τ) a mX7_bound x 26 [(0, .ref (a 0)), (1, .long (jN t0)), (3, .int (iN (m : Int))), (4, .int (iN (f : Int))), (5, .int (iN ((40 * m + i : Nat) : Int)))] [] V_1 := by
          intro fuel
          induction fuel with
          | zero => intro i f hi hf hfu; exact absurd hfu (Nat.not_lt_zero _)
          | succ fuel ih_26 =>
            intro i f hi hf hfu
            have h1 := qr m (by omega) i
            have h2 := q7 (V 15 (40 * m + i)).toNat
            have h3 := q2 (V 7 (V 15 (40 * m + i)).toNat).toNat
            refine g_iload 4 dX7_bound_26 rfl ?_
            refine g_bipush dX7_bound_28 rfl ?_
            refine g_iload_n 2 dX7_bound_30 rfl rfl ?_
            refine g_imul dX7_bound_31 ?_
            refine g_aload_n 0 dX7_bound_32 rfl rfl ?_
            refine g_getf 0 (.ref (a 14)) fX7_50 om_0 dX7_bound_33 rfl ?_
            refine g_iload_n 2 dX7_bound_36 rfl rfl ?_
            refine g_iald 14 m am_14 dX7_bound_37 rfl (by omega) ?_
            refine g_top (show _ = V 14 m from by rw [eV_1, up_ne (by omega)]) ?_
            refine g_iadd dX7_bound_38 ?_
            refine g_icmp_ge 72 dX7_bound_39 (by decide) (fun c_3 => ?_) (fun c_3 => ?_)
            · have hf9 : f = nzR (fun i => (V 2 (V 7 (V 15 (40 * m + i)).toNat).toNat).toNat) (V 14 m).toNat := by rw [hf, show i = (V 14 m).toNat by omega]
              have hf8 : f < 256 := by
                rw [hf9]
                exact nzR_lt (fun j hj => by
                  have h1 := qr m (by omega) j (by omega)
                  have h2 := q7 (V 15 (40 * m + j)).toNat (by omega)
                  have h3 := q2 (V 7 (V 15 (40 * m + j)).toNat).toNat (by omega)
                  omega)
              refine g_aload_n 0 dX7_bound_72 rfl rfl ?_
              refine g_iload_n 2 dX7_bound_73 rfl rfl ?_
              refine g_callL (k := 0) [.int (iN (m : Int))] (met_X7_placing (V := V_1) ha m (V 14 m).toNat (by rw [z14]; omega) kc (by rw [z03]; exact hkc) (by omega) (by omega) (fun i hi => by rw [z15, zz010]; exact qr m (by omega) i (by omega)) (by rw [zz010]; omega) (by rw [z7]; exact q7) (by omega) (fun k hk => by rw [zz6]; exact q6 k (by omega)) (fun k hk => by rw [zz5, zz6]; exact q5 k (by omega)) (fun k hk => by rw [zz4]; exact q4 k (by omega))) vX7_175 om_0 rfl rfl ⟨rfl, rfl, Nat.le_of_ble_eq_true rfl, Nat.le_of_ble_eq_true rfl⟩ rfl (Nat.le_of_ble_eq_true rfl) dX7_bound_74 rfl ?_
              rintro z9 V9 ⟨hz9, hV9⟩
              replace hV9 := hV9.symm
              subst hV9
              rw [z15, z7, zz6, zz5, zz4] at hz9
              replace hz9 := hz9.symm
              subst hz9
              have hsi : 0 ≤ sup (fun k => cnt (fun i => V 7 (V 15 (40 * m + i)).toNat) (k : Int) (V 14 m).toNat) (V 6) (V 5) (V 4) kc ∧ sup (fun k => cnt (fun i => V 7 (V 15 (40 * m + i)).toNat) (k : Int) (V 14 m).toNat) (V 6) (V 5) (V 4) kc ≤ 2132000 * (kc : Int) := sup_in (fun k hk => by have := cnt_in (fun i => V 7 (V 15 (40 * m + i)).toNat) (k : Int) (V 14 m).toNat; omega) (fun k hk => q6 k (by omega)) (fun k hk => q5 k (by omega))
              refine g_lstore [(5, .long (jN (sup (fun k => cnt (fun i => V 7 (V 15 (40 * m + i)).toNat) (k : Int) (V 14 m).toNat) (V 6) (V 5) (V 4) kc))), (0, .ref (a 0)), (1, .long (jN t0)), (3, .int (iN (m : Int))), (4, .int (iN (f : Int)))] dX7_bound_77 (by decide) rfl ?_
              refine g_iconst dX7_bound_79 ?_
              refine g_istore [(7, .int (iN 0)), (5, .long (jN (sup (fun k => cnt (fun i => V 7 (V 15 (40 * m + i)).toNat) (k : Int) (V 14 m).toNat) (V 6) (V 5) (V 4) kc))), (0, .ref (a 0)), (1, .long (jN t0)), (3, .int (iN (m : Int))), (4, .int (iN (f : Int)))] dX7_bound_80 (by decide) rfl ?_
              have lp_82 : ∀ (fuel : Nat) (k : Nat) (v0 : Int), (k ≤ 8) → (v0 = sup (fun k => cnt (fun i => V 7 (V 15 (40 * m + i)).toNat) (k : Int) (V 14 m).toNat) (V 6) (V 5) (V 4) kc + pcK f k) → (8 - k) < fuel → G l D (tysL τ) (LM τ) a mX7_bound x 82 [(0, .ref (a 0)), (1, .long (jN t0)), (3, .int (iN (m : Int))), (4, .int (iN (f : Int))), (5, .long (jN v0)), (7, .int (iN (k : Int)))] [] V_1 := by
                intro fuel
                induction fuel with
                | zero => intro k v0 hk hv0 hfu; exact absurd hfu (Nat.not_lt_zero _)
                | succ fuel ih_82 =>
                  intro k v0 hk hv0 hfu
                  have hpk := pcK_in f k
                  have hdk : f / 2 ^ k ≤ f := Nat.div_le_self _ _
                  refine g_iload 5 dX7_bound_82 rfl ?_
                  refine g_bipush dX7_bound_84 rfl ?_
                  refine g_icmp_ge 118 dX7_bound_86 (by decide) (fun c_4 => ?_) (fun c_4 => ?_)
                  · have hp8 := pcK_8 f
                    have hp9 := pop8_le (n := f)
                    have hk8 : k = 8 := by omega
                    rw [hk8] at hv0
                    refine g_lload_n 1 dX7_bound_118 rfl rfl ?_
                    refine g_iload 3 dX7_bound_119 rfl ?_
                    refine g_if_ne 128 dX7_bound_121 (by decide) (fun c_5 => ?_) (fun c_5 => ?_)
                    · refine g_lload 4 dX7_bound_128 rfl ?_
                      refine g_ldc2 20 kX7_178 rfl dX7_bound_130 ?_
                      refine g_lsub dX7_bound_133 ?_
                      refine g_callSL [.long (jN t0), .long (jN (v0 - 20))] (met_X7_greater ha t0 (v0 - 20) (by omega) (by omega)) vX7_142 ⟨rfl, rfl, Nat.le_of_ble_eq_true rfl, Nat.le_of_ble_eq_true rfl⟩ rfl (Nat.le_of_ble_eq_true rfl) dX7_bound_134 rfl ?_
                      rintro z9 V9 ⟨hz9, hV9⟩
                      replace hz9 := hz9.symm
                      replace hV9 := hV9.symm
                      subst hz9
                      subst hV9
                      refine g_lstore_n [(1, .long (jN (max t0 (v0 - 20)))), (0, .ref (a 0)), (3, .int (iN (m : Int))), (4, .int (iN (f : Int))), (5, .long (jN v0)), (7, .int (iN (k : Int)))] dX7_bound_137 rfl (by decide) rfl ?_
                      refine g_iinc 2 [(3, .int (iN ((m : Int) + 1))), (1, .long (jN (max t0 (v0 - 20)))), (0, .ref (a 0)), (4, .int (iN (f : Int))), (5, .long (jN v0)), (7, .int (iN (k : Int)))] dX7_bound_138 rfl (by decide) rfl ?_
                      refine g_goto 9 dX7_bound_141 (by decide) ?_
                      refine g_lv [2, 1, 0] rfl ?_
                      exact ih_9 (m + 1) (max t0 (v0 - 20)) (by omega) (by
                          rw [ht0]
                          show _ = max (mxF (rBd V kc) m) (rBd V kc m)
                          unfold rBd
                          rw [← hf9]
                          first | (rw [if_pos (by omega)]) | (rw [if_neg (by omega)]; rw [show sup (fun k => cnt (fun i => V 7 (V 15 (40 * m + i)).toNat) (k : Int) (V 14 m).toNat) (V 6) (V 5) (V 4) kc + 20 * (pop8 f : Int) - 20 = v0 - 20 by omega])) (by omega) (by omega)
                    · refine g_lconst 0 dX7_bound_124 rfl ?_
                      refine g_goto 134 dX7_bound_125 (by decide) ?_
                      refine g_callSL [.long (jN t0), .long (jN 0)] (met_X7_greater ha t0 0 (by omega) (by omega)) vX7_142 ⟨rfl, rfl, Nat.le_of_ble_eq_true rfl, Nat.le_of_ble_eq_true rfl⟩ rfl (Nat.le_of_ble_eq_true rfl) dX7_bound_134 rfl ?_
                      rintro z9 V9 ⟨hz9, hV9⟩
                      replace hz9 := hz9.symm
                      replace hV9 := hV9.symm
                      subst hz9
                      subst hV9
                      refine g_lstore_n [(1, .long (jN (max t0 0))), (0, .ref (a 0)), (3, .int (iN (m : Int))), (4, .int (iN (f : Int))), (5, .long (jN v0)), (7, .int (iN (k : Int)))] dX7_bound_137 rfl (by decide) rfl ?_
                      refine g_iinc 2 [(3, .int (iN ((m : Int) + 1))), (1, .long (jN (max t0 0))), (0, .ref (a 0)), (4, .int (iN (f : Int))), (5, .long (jN v0)), (7, .int (iN (k : Int)))] dX7_bound_138 rfl (by decide) rfl ?_
                      refine g_goto 9 dX7_bound_141 (by decide) ?_
                      refine g_lv [2, 1, 0] rfl ?_
                      exact ih_9 (m + 1) (max t0 0) (by omega) (by
                          rw [ht0]
                          show _ = max (mxF (rBd V kc) m) (rBd V kc m)
                          unfold rBd
                          rw [← hf9]
                          first | (rw [if_pos (by omega)]) | (rw [if_neg (by omega)]; rw [show sup (fun k => cnt (fun i => V 7 (V 15 (40 * m + i)).toNat) (k : Int) (V 14 m).toNat) (V 6) (V 5) (V 4) kc + 20 * (pop8 f : Int) - 20 = v0 - 20 by omega])) (by omega) (by omega)
                  · refine g_lload 4 dX7_bound_89 rfl ?_
                    refine g_iload 3 dX7_bound_91 rfl ?_
                    refine g_iload 5 dX7_bound_93 rfl ?_
                    refine g_ishr ((f / 2 ^ k : Nat) : Int) dX7_bound_95 (iN_shr (by omega) (by omega)) ?_
                    refine g_iconst dX7_bound_96 ?_
                    refine g_iand (((f / 2 ^ k) % 2 : Nat) : Int) dX7_bound_97 (iN_and1 _) ?_
                    refine g_iconst dX7_bound_98 ?_
                    refine g_icmp_ne 108 dX7_bound_99 (by decide) (fun c_6 => ?_) (fun c_6 => ?_)
                    · refine g_lconst 0 dX7_bound_108 rfl ?_
                      refine g_ladd dX7_bound_109 ?_
                      refine g_lstore [(5, .long (jN (v0 + 0))), (0, .ref (a 0)), (1, .long (jN t0)), (3, .int (iN (m : Int))), (4, .int (iN (f : Int))), (7, .int (iN (k : Int)))] dX7_bound_110 (by decide) rfl ?_
                      refine g_iinc 5 [(7, .int (iN ((k : Int) + 1))), (5, .long (jN (v0 + 0))), (0, .ref (a 0)), (1, .long (jN t0)), (3, .int (iN (m : Int))), (4, .int (iN (f : Int)))] dX7_bound_112 rfl (by decide) rfl ?_
                      refine g_goto 82 dX7_bound_115 (by decide) ?_
                      refine g_lv [2, 3, 4, 5, 1, 0] rfl ?_
                      exact ih_82 (k + 1) (v0 + 0) (by omega) (by rw [hv0]; simp only [pcK]; first | (rw [if_pos (by omega)]; omega) | (rw [if_neg (by omega)]; omega)) (by omega)
                    · refine g_ldc2 20 kX7_178 rfl dX7_bound_102 ?_
                      refine g_goto 109 dX7_bound_105 (by decide) ?_
                      refine g_ladd dX7_bound_109 ?_
                      refine g_lstore [(5, .long (jN (v0 + 20))), (0, .ref (a 0)), (1, .long (jN t0)), (3, .int (iN (m : Int))), (4, .int (iN (f : Int))), (7, .int (iN (k : Int)))] dX7_bound_110 (by decide) rfl ?_
                      refine g_iinc 5 [(7, .int (iN ((k : Int) + 1))), (5, .long (jN (v0 + 20))), (0, .ref (a 0)), (1, .long (jN t0)), (3, .int (iN (m : Int))), (4, .int (iN (f : Int)))] dX7_bound_112 rfl (by decide) rfl ?_
                      refine g_goto 82 dX7_bound_115 (by decide) ?_
                      refine g_lv [2, 3, 4, 5, 1, 0] rfl ?_
                      exact ih_82 (k + 1) (v0 + 20) (by omega) (by rw [hv0]; simp only [pcK]; first | (rw [if_pos (by omega)]; omega) | (rw [if_neg (by omega)]; omega)) (by omega)
              refine g_lv [2, 3, 4, 5, 1, 0] rfl ?_
              exact lp_82 _ 0 (sup (fun k => cnt (fun i => V 7 (V 15 (40 * m + i)).toNat) (k : Int) (V 14 m).toNat) (V 6) (V 5) (V 4) kc) (by omega) (by simp [pcK]) (Nat.lt_succ_self _)
            · refine g_iload 3 dX7_bound_42 rfl ?_
              refine g_iconst dX7_bound_44 ?_
              refine g_aload_n 0 dX7_bound_45 rfl rfl ?_
              refine g_getf 0 (.ref (a 2)) fX7_13 om_0 dX7_bound_46 rfl ?_
              refine g_aload_n 0 dX7_bound_49 rfl rfl ?_
              refine g_getf 0 (.ref (a 7)) fX7_29 om_0 dX7_bound_50 rfl ?_
              refine g_aload_n 0 dX7_bound_53 rfl rfl ?_
              refine g_getf 0 (.ref (a 15)) fX7_53 om_0 dX7_bound_54 rfl ?_
              refine g_iload 4 dX7_bound_57 rfl ?_
              refine g_iald 15 (40 * m + i) am_15 dX7_bound_59 rfl (by omega) ?_
              refine g_top (show _ = V 15 (40 * m + i) from by rw [eV_1, up_ne (by omega)]) ?_
              refine g_top (show V 15 (40 * m + i) = (((V 15 (40 * m + i)).toNat : Nat) : Int) from by omega) ?_
              refine g_iald 7 ((V 15 (40 * m + i)).toNat) am_7 dX7_bound_60 rfl (by omega) ?_
              refine g_top (show _ = V 7 ((V 15 (40 * m + i)).toNat) from by rw [eV_1, up_ne (by omega)]) ?_
              refine g_top (show V 7 ((V 15 (40 * m + i)).toNat) = (((V 7 ((V 15 (40 * m + i)).toNat)).toNat : Nat) : Int) from by omega) ?_
              refine g_iald 2 ((V 7 ((V 15 (40 * m + i)).toNat)).toNat) am_2 dX7_bound_61 rfl (by omega) ?_
              refine g_top (show _ = V 2 ((V 7 ((V 15 (40 * m + i)).toNat)).toNat) from by rw [eV_1, up_ne (by omega)]) ?_
              refine g_top (show V 2 ((V 7 ((V 15 (40 * m + i)).toNat)).toNat) = (((V 2 ((V 7 ((V 15 (40 * m + i)).toNat)).toNat)).toNat : Nat) : Int) from by omega) ?_
              refine g_ishl ((2 ^ ((V 2 ((V 7 ((V 15 (40 * m + i)).toNat)).toNat)).toNat) : Nat) : Int) dX7_bound_62 (iN_bit (by omega)) ?_
              refine g_ior ((f ||| (2 ^ ((V 2 ((V 7 ((V 15 (40 * m + i)).toNat)).toNat)).toNat)) : Nat) : Int) dX7_bound_63 (iN_or _ _) ?_
              refine g_istore [(4, .int (iN ((f ||| (2 ^ ((V 2 ((V 7 ((V 15 (40 * m + i)).toNat)).toNat)).toNat)) : Nat) : Int))), (0, .ref (a 0)), (1, .long (jN t0)), (3, .int (iN (m : Int))), (5, .int (iN ((40 * m + i : Nat) : Int)))] dX7_bound_64 (by decide) rfl ?_
              refine g_iinc 4 [(5, .int (iN (((40 * m + i : Nat) : Int) + 1))), (4, .int (iN ((f ||| (2 ^ ((V 2 ((V 7 ((V 15 (40 * m + i)).toNat)).toNat)).toNat)) : Nat) : Int))), (0, .ref (a 0)), (1, .long (jN t0)), (3, .int (iN (m : Int)))] dX7_bound_66 rfl (by decide) rfl ?_
              refine g_goto 26 dX7_bound_69 (by decide) ?_
              refine g_lve (show ([(5, .int (iN (((40 * m + i : Nat) : Int) + 1))), (4, .int (iN ((f ||| (2 ^ ((V 2 ((V 7 ((V 15 (40 * m + i)).toNat)).toNat)).toNat)) : Nat) : Int))), (0, .ref (a 0)), (1, .long (jN t0)), (3, .int (iN (m : Int)))] : List (Nat × Value)) = ([(5, .int (iN ((40 * m + (i + 1) : Nat) : Int))), (4, .int (iN ((f ||| (2 ^ ((V 2 ((V 7 ((V 15 (40 * m + i)).toNat)).toNat)).toNat)) : Nat) : Int))), (0, .ref (a 0)), (1, .long (jN t0)), (3, .int (iN (m : Int)))] : List (Nat × Value)) from by rw [show ((40 * m + i : Nat) : Int) + 1 = ((40 * m + (i + 1) : Nat) : Int) from by omega]) ?_
              refine g_lv [2, 3, 4, 1, 0] rfl ?_
              exact ih_26 (i + 1) (f ||| (2 ^ ((V 2 ((V 7 ((V 15 (40 * m + i)).toNat)).toNat)).toNat))) (by omega) (by rw [hf]; rfl) (by omega)
        refine g_lv [2, 3, 4, 1, 0] rfl ?_
        exact lp_26 _ 0 0 (by omega) rfl (Nat.lt_succ_self _)
  refine g_lv [2, 1, 0] rfl ?_
  exact lp_9 _ 0 0 (by omega) rfl (by omega) (Nat.lt_succ_self _)
