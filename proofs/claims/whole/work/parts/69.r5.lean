set_option maxHeartbeats 4000000 in
/-- findShares() -/
theorem met_X7_findShares {l : Launch} {D : va_G} {τ : Nat → ClassId} {a : Nat → Nat} (ha : Apart (LM τ) a) {V : Mem} (np us kc : Nat) (hnp : V 0 10 = (np : Int)) (hus : V 0 18 = (us : Int)) (hkc : V 0 3 = (kc : Int)) (hok : okR V)  : CV l D (tysL τ) (LM τ) a yX7_findShares mX7_findShares [.ref (a 0)] V (fun V' => ∃ h : Nat → Nat, sBest kc (rAct V np us) (rCt V np) (rMay V us) h ∧ shS (V' 17) (rAct V np us) h kc ∧ off2 V V') := by
  refine CV.of (by decide +kernel) rfl (Nat.le_of_ble_eq_true rfl) ha (fun x hq => ?_)
  show G l D (tysL τ) (LM τ) a mX7_findShares x 0 [(0, .ref (a 0))] [] V
  obtain ⟨r2, r3, r10, r15, r18, q1, q1k, q2, q3, q4, q5, q6, q7, q7k, q8, q9, q10, q11, q12, q14, qr, qf⟩ := id hok
  refine g_iconst dX7_findShares_0 ?_
  refine g_istore_n [(1, .int (iN 0)), (0, .ref (a 0))] dX7_findShares_1 rfl (by decide) rfl ?_
  have lp_2 : ∀ (fuel : Nat) (k : Nat) (U : Mem), (k ≤ kc) → (fsI V U np us k) → (kc - k) < fuel → G l D (tysL τ) (LM τ) a mX7_findShares x 2 [(0, .ref (a 0)), (1, .int (iN (k : Int)))] [] U := by
    intro fuel
    induction fuel with
    | zero => intro k U hk hfs hfu; exact absurd hfu (Nat.not_lt_zero _)
    | succ fuel ih_2 =>
      intro k U hk hfs hfu
      have hokU : okR U := okR_congr hok (fun c hc => hfs.1 c (by omega))
      refine g_iload_n 1 dX7_findShares_2 rfl rfl ?_
      refine g_aload_n 0 dX7_findShares_3 rfl rfl ?_
      refine g_getf 0 (.int (iN (U 0 3))) fX7_86 om_0 dX7_findShares_4 rfl ?_
      refine g_top (show U 0 3 = (kc : Int) from by rw [hfs.1 0 (by omega)]; exact hkc) ?_
      refine g_icmp_ge 40 dX7_findShares_7 (by decide) (fun c_1 => ?_) (fun c_1 => ?_)
      · refine g_aload_n 0 dX7_findShares_40 rfl rfl ?_
        obtain ⟨hf1, hf2⟩ := fsI_end (ct := rCt V np) (show us ≤ 3 by omega) (by rw [show k = kc by omega] at hfs; exact hfs)
        have hoU : off2 V U := fun c a b => hfs.1 c a
        refine g_callI (k := 0) [] (met_X7_greatest (V := U) ha np us kc (by rw [hoU 0 (by omega) (by omega)]; exact hnp) (by rw [hoU 0 (by omega) (by omega)]; exact hus) (by rw [hoU 0 (by omega) (by omega)]; exact hkc) (okR_off hok hoU) (shS_in hf1 hf2.1)) vX7_124 om_0 rfl rfl ⟨rfl, rfl, Nat.le_of_ble_eq_true rfl, Nat.le_of_ble_eq_true rfl⟩ rfl (Nat.le_of_ble_eq_true rfl) dX7_findShares_41 rfl ?_
        rintro z9 V9 ⟨hz9, hV9⟩
        replace hV9 := hV9.symm
        subst hV9
        rw [most_of (show us ≤ 3 by omega) hoU hf1 hf2.1] at hz9
        replace hz9 := hz9.symm
        subst hz9
        have hmi := sMost_in (V := V) (np := np) (us := us) (kc := kc) (f := (fun q => (U 16 q).toNat)) (by omega) (by omega)
        refine g_istore_n [(1, .int (iN (sMost (rAct V np us) (rCt V np) (fun q => (U 16 q).toNat) kc : Int))), (0, .ref (a 0))] dX7_findShares_44 rfl (by decide) rfl ?_
        refine g_iconst dX7_findShares_45 ?_
        refine g_istore_n [(2, .int (iN 0)), (1, .int (iN (sMost (rAct V np us) (rCt V np) (fun q => (U 16 q).toNat) kc : Int))), (0, .ref (a 0))] dX7_findShares_46 rfl (by decide) rfl ?_
        have lp_47 : ∀ (fuel : Nat) (j : Nat) (U3 : Mem), (j ≤ kc) → (cpI U U3 j) → (kc - j) < fuel → G l D (tysL τ) (LM τ) a mX7_findShares x 47 [(0, .ref (a 0)), (1, .int (iN (sMost (rAct V np us) (rCt V np) (fun q => (U 16 q).toNat) kc : Int))), (2, .int (iN (j : Int)))] [] U3 := by
          intro fuel
          induction fuel with
          | zero => intro j U3 hj hcp hfu; exact absurd hfu (Nat.not_lt_zero _)
          | succ fuel ih_47 =>
            intro j U3 hj hcp hfu
            refine g_iload_n 2 dX7_findShares_47 rfl rfl ?_
            refine g_aload_n 0 dX7_findShares_48 rfl rfl ?_
            refine g_getf 0 (.int (iN (U3 0 3))) fX7_86 om_0 dX7_findShares_49 rfl ?_
            refine g_top (show U3 0 3 = (kc : Int) from by rw [hcp.1 0 (by omega), hfs.1 0 (by omega)]; exact hkc) ?_
            refine g_icmp_ge 73 dX7_findShares_52 (by decide) (fun c_2 => ?_) (fun c_2 => ?_)
            · have lp_73 : ∀ (fuel : Nat) (f : Nat → Nat) (best : Nat → Nat) (le : Int) (U1 : Mem), (enI V U1 np us kc f best le) → (3 ^ kc - sVal (rAct V np us) f kc) < fuel → G l D (tysL τ) (LM τ) a mX7_findShares x 73 [(0, .ref (a 0)), (1, .int (iN le))] [] U1 := by
                intro fuel
                induction fuel with
                | zero => intro f best le U1 hen hfu; exact absurd hfu (Nat.not_lt_zero _)
                | succ fuel ih_73 =>
                  intro f best le U1 hen hfu
                  have hle := sMost_in (V := V) (np := np) (us := us) (kc := kc) (f := best) (by omega) (by omega)
                  have hle2 := hen.2.2.2.2
                  refine g_aload_n 0 dX7_findShares_73 rfl rfl ?_
                  obtain ⟨e1, e2, e3, e4, e5⟩ := id hen
                  refine g_callI (k := 0) [] (met_X7_goOn (V := U1) ha np us kc f (by rw [e1 0 (by omega) (by omega)]; exact hnp) (by rw [e1 0 (by omega) (by omega)]; exact hus) (by rw [e1 0 (by omega) (by omega)]; exact hkc) (okR_off hok e1) (by rw [rAct_off e1]; exact e2) (by rw [rAct_off e1, rMay_off e1]; exact e4.1)) vX7_128 om_0 rfl rfl ⟨rfl, rfl, Nat.le_of_ble_eq_true rfl, Nat.le_of_ble_eq_true rfl⟩ rfl (Nat.le_of_ble_eq_true rfl) dX7_findShares_74 rfl ?_
                  rintro z9 U2 hgo
                  rw [rAct_off e1, rMay_off e1] at hgo
                  rcases hgo with ⟨hz9, hgo⟩ | ⟨hz9, hlast, hoth⟩
                  · subst hz9
                    have ho2 : off2 V U2 := off_go e1 hgo
                    obtain ⟨f', hs2, hok2, hlt2, hn2, hoth⟩ := hgo
                    rw [rAct_off e1] at hs2 hok2 hlt2 hn2
                    rw [rMay_off e1] at hok2 hn2
                    have hv2 := sVal_lt (fun k hk ha => (e4.1 k hk ha).1) hlt2
                    have hv3 := sVal_lt3 (n := kc) (fun k hk ha => (hok2 k hk ha).1)
                    refine g_if_eq 126 dX7_findShares_77 (by decide) (fun c_3 => absurd c_3 (by decide)) (fun _ => ?_)
                    refine g_aload_n 0 dX7_findShares_80 rfl rfl ?_
                    refine g_callI (k := 0) [] (met_X7_greatest (V := U2) ha np us kc (by rw [ho2 0 (by omega) (by omega)]; exact hnp) (by rw [ho2 0 (by omega) (by omega)]; exact hus) (by rw [ho2 0 (by omega) (by omega)]; exact hkc) (okR_off hok ho2) (shS_in hs2 hok2)) vX7_124 om_0 rfl rfl ⟨rfl, rfl, Nat.le_of_ble_eq_true rfl, Nat.le_of_ble_eq_true rfl⟩ rfl (Nat.le_of_ble_eq_true rfl) dX7_findShares_81 rfl ?_
                    rintro z9 V9 ⟨hz9, hV9⟩
                    replace hV9 := hV9.symm
                    subst hV9
                    rw [most_of (show us ≤ 3 by omega) ho2 hs2 hok2] at hz9
                    replace hz9 := hz9.symm
                    subst hz9
                    have hmi := sMost_in (V := V) (np := np) (us := us) (kc := kc) (f := f') (by omega) (by omega)
                    refine g_istore_n [(2, .int (iN (sMost (rAct V np us) (rCt V np) f' kc : Int))), (0, .ref (a 0)), (1, .int (iN le))] dX7_findShares_84 rfl (by decide) rfl ?_
                    refine g_iload_n 0 dX7_findShares_85 rfl rfl ?_
                    refine g_iload_n 2 dX7_findShares_86 rfl rfl ?_
                    refine g_icmp_lt 93 dX7_findShares_87 (by decide) (fun c_4 => ?_) (fun c_4 => ?_)
                    · refine g_iload_n 0 dX7_findShares_93 rfl rfl ?_
                      refine g_istore_n [(1, .int (iN (sMost (rAct V np us) (rCt V np) f' kc : Int))), (2, .int (iN (sMost (rAct V np us) (rCt V np) f' kc : Int))), (0, .ref (a 0))] dX7_findShares_94 rfl (by decide) rfl ?_
                      refine g_iconst dX7_findShares_95 ?_
                      refine g_istore_n [(3, .int (iN 0)), (1, .int (iN (sMost (rAct V np us) (rCt V np) f' kc : Int))), (2, .int (iN (sMost (rAct V np us) (rCt V np) f' kc : Int))), (0, .ref (a 0))] dX7_findShares_96 rfl (by decide) rfl ?_
                      have lp_97 : ∀ (fuel : Nat) (j : Nat) (U4 : Mem), (j ≤ kc) → (cpI U2 U4 j) → (kc - j) < fuel → G l D (tysL τ) (LM τ) a mX7_findShares x 97 [(0, .ref (a 0)), (1, .int (iN (sMost (rAct V np us) (rCt V np) f' kc : Int))), (2, .int (iN (sMost (rAct V np us) (rCt V np) f' kc : Int))), (3, .int (iN (j : Int)))] [] U4 := by
                        intro fuel
                        induction fuel with
                        | zero => intro j U4 hj hcp4 hfu; exact absurd hfu (Nat.not_lt_zero _)
                        | succ fuel ih_97 =>
                          intro j U4 hj hcp4 hfu
                          refine g_iload_n 3 dX7_findShares_97 rfl rfl ?_
                          refine g_aload_n 0 dX7_findShares_98 rfl rfl ?_
                          refine g_getf 0 (.int (iN (U4 0 3))) fX7_86 om_0 dX7_findShares_99 rfl ?_
                          refine g_top (show U4 0 3 = (kc : Int) from by rw [hcp4.1 0 (by omega), ho2 0 (by omega) (by omega)]; exact hkc) ?_
                          refine g_icmp_ge 123 dX7_findShares_102 (by decide) (fun c_5 => ?_) (fun c_5 => ?_)
                          · refine g_goto 73 dX7_findShares_123 (by decide) ?_
                            refine g_lv [0, 1] rfl ?_
                            exact ih_73 f' f' (sMost (rAct V np us) (rCt V np) f' kc : Int) U4 (enI_take hen hs2 hok2 hlt2 hn2 hoth (by omega) (by rw [show j = kc by omega] at hcp4; exact hcp4)) (by omega)
                          · refine g_aload_n 0 dX7_findShares_105 rfl rfl ?_
                            refine g_getf 0 (.ref (a 17)) fX7_59 om_0 dX7_findShares_106 rfl ?_
                            refine g_iload_n 3 dX7_findShares_109 rfl rfl ?_
                            refine g_aload_n 0 dX7_findShares_110 rfl rfl ?_
                            refine g_getf 0 (.ref (a 16)) fX7_56 om_0 dX7_findShares_111 rfl ?_
                            refine g_iload_n 3 dX7_findShares_114 rfl rfl ?_
                            refine g_iald 16 j am_16 dX7_findShares_115 rfl (by omega) ?_
                            refine g_iast 17 j am_17 dX7_findShares_116 rfl (by omega) ?_
                            obtain ⟨V_6, eV_6⟩ : ∃ V9 : Mem, V9 = up U4 17 j (U4 16 j) := ⟨_, rfl⟩
                            refine g_mem eV_6.symm ?_
                            refine g_iinc 3 [(3, .int (iN ((j : Int) + 1))), (0, .ref (a 0)), (1, .int (iN (sMost (rAct V np us) (rCt V np) f' kc : Int))), (2, .int (iN (sMost (rAct V np us) (rCt V np) f' kc : Int)))] dX7_findShares_117 rfl (by decide) rfl ?_
                            refine g_goto 97 dX7_findShares_120 (by decide) ?_
                            refine g_lv [1, 2, 3, 0] rfl ?_
                            exact ih_97 (j + 1) V_6 (by omega) (by rw [eV_6]; exact cpI_s hcp4) (by omega)
                      refine g_lv [3, 1, 2, 0] rfl ?_
                      exact lp_97 _ 0 U2 (by omega) (⟨fun _ _ => rfl, fun q h => absurd h (Nat.not_lt_zero _)⟩) (Nat.lt_succ_self _)
                    · refine g_goto 73 dX7_findShares_90 (by decide) ?_
                      refine g_lv [1, 2] rfl ?_
                      exact ih_73 f' best le U2 (enI_keep hen hs2 hok2 hlt2 hn2 hoth (by omega)) (by omega)
                  · subst hz9
                    refine g_if_eq 126 dX7_findShares_77 (by decide) (fun _ => ?_) (fun c_7 => absurd c_7 (by decide))
                    exact g_vret hq rfl dX7_findShares_126 (⟨best, sUpTo_all e4 hlast, by rw [hoth 17 (by omega)]; exact e3, fun c a b => by rw [hoth c a]; exact e1 c a b⟩)
              refine g_lv [0, 1] rfl ?_
              exact lp_73 _ (fun q => (U 16 q).toNat) (fun q => (U 16 q).toNat) (sMost (rAct V np us) (rCt V np) (fun q => (U 16 q).toNat) kc : Int) U3 (enI_first (by omega) (by rw [show k = kc by omega] at hfs; exact hfs) (by rw [show j = kc by omega] at hcp; exact hcp)) (Nat.lt_succ_self _)
            · refine g_aload_n 0 dX7_findShares_55 rfl rfl ?_
              refine g_getf 0 (.ref (a 17)) fX7_59 om_0 dX7_findShares_56 rfl ?_
              refine g_iload_n 2 dX7_findShares_59 rfl rfl ?_
              refine g_aload_n 0 dX7_findShares_60 rfl rfl ?_
              refine g_getf 0 (.ref (a 16)) fX7_56 om_0 dX7_findShares_61 rfl ?_
              refine g_iload_n 2 dX7_findShares_64 rfl rfl ?_
              refine g_iald 16 j am_16 dX7_findShares_65 rfl (by omega) ?_
              refine g_iast 17 j am_17 dX7_findShares_66 rfl (by omega) ?_
              obtain ⟨V_8, eV_8⟩ : ∃ V9 : Mem, V9 = up U3 17 j (U3 16 j) := ⟨_, rfl⟩
              refine g_mem eV_8.symm ?_
              refine g_iinc 2 [(2, .int (iN ((j : Int) + 1))), (0, .ref (a 0)), (1, .int (iN (sMost (rAct V np us) (rCt V np) (fun q => (U 16 q).toNat) kc : Int)))] dX7_findShares_67 rfl (by decide) rfl ?_
              refine g_goto 47 dX7_findShares_70 (by decide) ?_
              refine g_lv [1, 2, 0] rfl ?_
              exact ih_47 (j + 1) V_8 (by omega) (by rw [eV_8]; exact cpI_s hcp) (by omega)
        refine g_lv [2, 1, 0] rfl ?_
        exact lp_47 _ 0 U (by omega) (⟨fun _ _ => rfl, fun q h => absurd h (Nat.not_lt_zero _)⟩) (Nat.lt_succ_self _)
      · refine g_aload_n 0 dX7_findShares_10 rfl rfl ?_
        refine g_getf 0 (.ref (a 16)) fX7_56 om_0 dX7_findShares_11 rfl ?_
        refine g_iload_n 1 dX7_findShares_14 rfl rfl ?_
        refine g_aload_n 0 dX7_findShares_15 rfl rfl ?_
        refine g_iload_n 1 dX7_findShares_16 rfl rfl ?_
        have hcn := cnt_in (V 7) (k : Int) np
        refine g_callI (k := 0) [.int (iN (k : Int))] (met_X7_partsOf (V := U) ha (k : Int) np (by rw [hfs.1 0 (by omega)]; exact hnp) hokU (by omega)) vX7_116 om_0 rfl rfl ⟨rfl, rfl, Nat.le_of_ble_eq_true rfl, Nat.le_of_ble_eq_true rfl⟩ rfl (Nat.le_of_ble_eq_true rfl) dX7_findShares_17 rfl ?_
        rintro z9 V9 ⟨hz9, hV9⟩
        replace hV9 := hV9.symm
        subst hV9
        rw [hfs.1 7 (by omega)] at hz9
        replace hz9 := hz9.symm
        subst hz9
        refine g_if_ne 27 dX7_findShares_20 (by decide) (fun c_9 => ?_) (fun c_9 => ?_)
        · refine g_aload_n 0 dX7_findShares_27 rfl rfl ?_
          refine g_iload_n 1 dX7_findShares_28 rfl rfl ?_
          refine g_iconst dX7_findShares_29 ?_
          refine g_top (show 0 = ((0 : Nat) : Int) from rfl) ?_
          refine g_callI (k := 0) [.int (iN (k : Int)), .int (iN ((0 : Nat) : Int))] (met_X7_nextMachine (V := U) ha k 0 us (by rw [hfs.1 0 (by omega)]; exact hus) hokU (by omega) (by omega)) vX7_120 om_0 rfl rfl ⟨rfl, rfl, Nat.le_of_ble_eq_true rfl, Nat.le_of_ble_eq_true rfl⟩ rfl (Nat.le_of_ble_eq_true rfl) dX7_findShares_30 rfl ?_
          rintro z9 V9 ⟨hz9, hV9⟩
          replace hV9 := hV9.symm
          subst hV9
          rw [rHas_congr hfs.1] at hz9
          refine g_iast 16 k am_16 dX7_findShares_33 rfl (by omega) ?_
          obtain ⟨V_10, eV_10⟩ : ∃ V9 : Mem, V9 = up U 16 k z9 := ⟨_, rfl⟩
          refine g_mem eV_10.symm ?_
          refine g_iinc 1 [(1, .int (iN ((k : Int) + 1))), (0, .ref (a 0))] dX7_findShares_34 rfl (by decide) rfl ?_
          refine g_goto 2 dX7_findShares_37 (by decide) ?_
          refine g_lv [1, 0] rfl ?_
          exact ih_2 (k + 1) V_10 (by omega) (by rw [eV_10]; exact fsI_some hfs (by omega) hz9) (by omega)
        · refine g_iconst dX7_findShares_23 ?_
          refine g_goto 33 dX7_findShares_24 (by decide) ?_
          refine g_iast 16 k am_16 dX7_findShares_33 rfl (by omega) ?_
          obtain ⟨V_11, eV_11⟩ : ∃ V9 : Mem, V9 = up U 16 k (-1) := ⟨_, rfl⟩
          refine g_mem eV_11.symm ?_
          refine g_iinc 1 [(1, .int (iN ((k : Int) + 1))), (0, .ref (a 0))] dX7_findShares_34 rfl (by decide) rfl ?_
          refine g_goto 2 dX7_findShares_37 (by decide) ?_
          refine g_lv [1, 0] rfl ?_
          exact ih_2 (k + 1) V_11 (by omega) (by rw [eV_11]; exact fsI_none hfs (by omega)) (by omega)
  refine g_lv [1, 0] rfl ?_
  exact lp_2 _ 0 V (by omega) (⟨fun _ _ => rfl, fun q h => absurd h (Nat.not_lt_zero _)⟩) (Nat.lt_succ_self _)
