set_option maxHeartbeats 4000000 in
/-- goOn() -/
theorem met_X7_goOn {l : Launch} {D : va_G} {τ : Nat → ClassId} {a : Nat → Nat} (ha : Apart (LM τ) a) {V : Mem} (np us kc : Nat) (f : Nat → Nat) (hnp : V 0 10 = (np : Int)) (hus : V 0 18 = (us : Int)) (hkc : V 0 3 = (kc : Int)) (hok : okR V) (hsh : shS (V 16) (rAct V np us) f kc) (hsok : sOk kc (rAct V np us) (rMay V us) f) : CI l D (tysL τ) (LM τ) a yX7_goOn mX7_goOn [.ref (a 0)] V (fun z V' => (z = 1 ∧ goF V V' np us f kc) ∨ (z = 0 ∧ (∀ g, sOk kc (rAct V np us) (rMay V us) g → ¬ sLt kc (rAct V np us) f g) ∧ ∀ c, c ≠ 16 → V' c = V c)) := by
  refine CI.of (by decide +kernel) rfl (Nat.le_of_ble_eq_true rfl) ha (fun x hq => ?_)
  show G l D (tysL τ) (LM τ) a mX7_goOn x 0 [(0, .ref (a 0))] [] V
  obtain ⟨r2, r3, r10, r15, r18, q1, q1k, q2, q3, q4, q5, q6, q7, q7k, q8, q9, q10, q11, q12, q14, qr, qf⟩ := id hok
  refine g_aload_n 0 dX7_goOn_0 rfl rfl ?_
  refine g_getf 0 (.int (iN (V 0 3))) fX7_86 om_0 dX7_goOn_1 rfl ?_
  refine g_top (show V 0 3 = (kc : Int) from hkc) ?_
  refine g_iconst dX7_goOn_4 ?_
  refine g_isub dX7_goOn_5 ?_
  refine g_istore_n [(1, .int (iN ((kc : Int) - 1))), (0, .ref (a 0))] dX7_goOn_6 rfl (by decide) rfl ?_
  have lp_7 : ∀ (fuel : Nat) (j : Nat) (U : Mem), (j ≤ kc) → (goI V U np us f kc j) → (j) < fuel → G l D (tysL τ) (LM τ) a mX7_goOn x 7 [(0, .ref (a 0)), (1, .int (iN ((j : Int) - 1)))] [] U := by
    intro fuel
    induction fuel with
    | zero => intro j U hj hinv hfu; exact absurd hfu (Nat.not_lt_zero _)
    | succ fuel ih_7 =>
      intro j U hj hinv hfu
      refine g_iload_n 1 dX7_goOn_7 rfl rfl ?_
      refine g_if_lt 70 dX7_goOn_8 (by decide) (fun c_1 => ?_) (fun c_1 => ?_)
      · refine g_iconst dX7_goOn_70 ?_
        exact g_iret hq rfl rfl dX7_goOn_71 (Or.inr ⟨rfl, goI_end (by rw [show j = 0 by omega] at hinv; exact hinv)⟩)
      · obtain ⟨i, rfl⟩ : ∃ q, j = q + 1 := ⟨j - 1, by omega⟩
        have hokU : okR U := okR_congr hok (fun c hc => hinv.1 c (by omega))
        have hUi : U 16 i = V 16 i := hinv.2.1 i (by omega)
        have hsi := hsh i (by omega)
        have hsr : -1 ≤ U 16 i ∧ U 16 i ≤ 2 := by
          rw [hUi, hsi]
          split
          · rename_i ha9; have := (hsok i (by omega) ha9).1; omega
          · omega
        refine g_lve (show ([(0, .ref (a 0)), (1, .int (iN (((i + 1 : Nat) : Int) - 1)))] : List (Nat × Value)) = ([(0, .ref (a 0)), (1, .int (iN (i : Int)))] : List (Nat × Value)) from by rw [show ((i + 1 : Nat) : Int) - 1 = (i : Int) from by omega]) ?_
        refine g_aload_n 0 dX7_goOn_11 rfl rfl ?_
        refine g_getf 0 (.ref (a 16)) fX7_56 om_0 dX7_goOn_12 rfl ?_
        refine g_iload_n 1 dX7_goOn_15 rfl rfl ?_
        refine g_iald 16 i am_16 dX7_goOn_16 rfl (by omega) ?_
        refine g_iconst dX7_goOn_17 ?_
        refine g_icmp_ne 24 dX7_goOn_18 (by decide) (fun c_2 => ?_) (fun c_2 => ?_)
        · have hai : rAct V np us i = true := by
            cases e : rAct V np us i
            · rw [e] at hsi; simp at hsi; omega
            · rfl
          have hfi : U 16 i = (f i : Int) := by rw [hUi, hsi, if_pos hai]
          have hfi3 := (hsok i (by omega) hai).1
          refine g_aload_n 0 dX7_goOn_24 rfl rfl ?_
          refine g_iload_n 1 dX7_goOn_25 rfl rfl ?_
          refine g_aload_n 0 dX7_goOn_26 rfl rfl ?_
          refine g_getf 0 (.ref (a 16)) fX7_56 om_0 dX7_goOn_27 rfl ?_
          refine g_iload_n 1 dX7_goOn_30 rfl rfl ?_
          refine g_iald 16 i am_16 dX7_goOn_31 rfl (by omega) ?_
          refine g_iconst dX7_goOn_32 ?_
          refine g_iadd dX7_goOn_33 ?_
          refine g_top (show (U 16 i) + 1 = ((f i + 1 : Nat) : Int) from by omega) ?_
          refine g_callI (k := 0) [.int (iN (i : Int)), .int (iN ((f i + 1 : Nat) : Int))] (met_X7_nextMachine (V := U) ha i (f i + 1) us (by rw [hinv.1 0 (by omega)]; exact hus) hokU (by omega) (by omega)) vX7_120 om_0 rfl rfl ⟨rfl, rfl, Nat.le_of_ble_eq_true rfl, Nat.le_of_ble_eq_true rfl⟩ rfl (Nat.le_of_ble_eq_true rfl) dX7_goOn_34 rfl ?_
          rintro zx_3 V9 ⟨hx_3, hV9⟩
          replace hV9 := hV9.symm
          subst hV9
          rw [rHas_congr hinv.1] at hx_3
          have rx_3 := isNx_in (by omega) hx_3
          refine g_istore_n [(2, .int (iN zx_3)), (0, .ref (a 0)), (1, .int (iN (i : Int)))] dX7_goOn_37 rfl (by decide) rfl ?_
          refine g_iload_n 0 dX7_goOn_38 rfl rfl ?_
          refine g_iconst dX7_goOn_39 ?_
          refine g_icmp_eq 52 dX7_goOn_40 (by decide) (fun c_4 => ?_) (fun c_4 => ?_)
          · refine g_aload_n 1 dX7_goOn_52 rfl rfl ?_
            refine g_getf 0 (.ref (a 16)) fX7_56 om_0 dX7_goOn_53 rfl ?_
            refine g_iload_n 2 dX7_goOn_56 rfl rfl ?_
            refine g_aload_n 1 dX7_goOn_57 rfl rfl ?_
            refine g_iload_n 2 dX7_goOn_58 rfl rfl ?_
            refine g_iconst dX7_goOn_59 ?_
            refine g_top (show 0 = ((0 : Nat) : Int) from rfl) ?_
            refine g_callI (k := 0) [.int (iN (i : Int)), .int (iN ((0 : Nat) : Int))] (met_X7_nextMachine (V := U) ha i 0 us (by rw [hinv.1 0 (by omega)]; exact hus) hokU (by omega) (by omega)) vX7_120 om_0 rfl rfl ⟨rfl, rfl, Nat.le_of_ble_eq_true rfl, Nat.le_of_ble_eq_true rfl⟩ rfl (Nat.le_of_ble_eq_true rfl) dX7_goOn_60 rfl ?_
            rintro zx_5 V9 ⟨hx_5, hV9⟩
            replace hV9 := hV9.symm
            subst hV9
            rw [rHas_congr hinv.1] at hx_5
            have rx_5 := isNx_in (by omega) hx_5
            refine g_iast 16 i am_16 dX7_goOn_63 rfl (by omega) ?_
            obtain ⟨V_6, eV_6⟩ : ∃ V9 : Mem, V9 = up U 16 i zx_5 := ⟨_, rfl⟩
            refine g_mem eV_6.symm ?_
            refine g_iinc 2 [(1, .int (iN ((i : Int) + (-1)))), (2, .int (iN zx_3)), (0, .ref (a 0))] dX7_goOn_64 rfl (by decide) rfl ?_
            refine g_goto 7 dX7_goOn_67 (by decide) ?_
            refine g_lve (show ([(1, .int (iN ((i : Int) + (-1)))), (2, .int (iN zx_3)), (0, .ref (a 0))] : List (Nat × Value)) = ([(1, .int (iN ((i : Int) - 1))), (2, .int (iN zx_3)), (0, .ref (a 0))] : List (Nat × Value)) from by rw [show (i : Int) + (-1) = (i : Int) - 1 from by omega]) ?_
            refine g_lv [2, 0] rfl ?_
            exact ih_7 i V_6 (by omega) (by rw [eV_6]; exact goI_reset (by omega) hinv hai (fun m h1 h2 => by rcases hx_3 with ⟨-, q⟩ | ⟨m9, q, _⟩; (· exact q m h1 h2); (· omega)) hx_5) (by omega)
          · refine g_aload_n 1 dX7_goOn_43 rfl rfl ?_
            refine g_getf 0 (.ref (a 16)) fX7_56 om_0 dX7_goOn_44 rfl ?_
            refine g_iload_n 2 dX7_goOn_47 rfl rfl ?_
            refine g_iload_n 0 dX7_goOn_48 rfl rfl ?_
            refine g_iast 16 i am_16 dX7_goOn_49 rfl (by omega) ?_
            obtain ⟨V_7, eV_7⟩ : ∃ V9 : Mem, V9 = up U 16 i zx_3 := ⟨_, rfl⟩
            refine g_mem eV_7.symm ?_
            refine g_iconst dX7_goOn_50 ?_
            exact g_iret hq rfl rfl dX7_goOn_51 (Or.inl ⟨rfl, by rw [eV_7]; exact goI_found (by omega) hinv (by omega) hsh hsok hai hx_3 (by omega)⟩)
        · refine g_goto 64 dX7_goOn_21 (by decide) ?_
          refine g_iinc 1 [(1, .int (iN ((i : Int) + (-1)))), (0, .ref (a 0))] dX7_goOn_64 rfl (by decide) rfl ?_
          refine g_goto 7 dX7_goOn_67 (by decide) ?_
          refine g_lve (show ([(1, .int (iN ((i : Int) + (-1)))), (0, .ref (a 0))] : List (Nat × Value)) = ([(1, .int (iN ((i : Int) - 1))), (0, .ref (a 0))] : List (Nat × Value)) from by rw [show (i : Int) + (-1) = (i : Int) - 1 from by omega]) ?_
          refine g_lv [1, 0] rfl ?_
          exact ih_7 i U (by omega) (goI_skip hinv hsh (by omega) (by omega)) (by omega)
  refine g_lv [1, 0] rfl ?_
  exact lp_7 _ kc V (Nat.le_refl _) goI_0 (Nat.lt_succ_self _)
