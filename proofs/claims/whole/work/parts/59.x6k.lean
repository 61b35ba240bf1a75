set_option maxHeartbeats 4000000 in
/-- improve(st) -/
theorem met_X6_improve {l : Launch} {D : va_G} {τ : Nat → ClassId} {a : Nat → Nat} (ha : Apart (LX τ) a) {V : Mem} (st us : Nat) (hok : okC V) (hus : V 0 9 = (us : Int)) (hst : st ≤ 200) : CI l D (tysL τ) (LX τ) a yX6_improve nX6_improve [.ref (a 0), .int (iN (st : Int))] V (fun z V' => exs V st z V' ∧ 0 ≤ z ∧ z ≤ 200) := by
  refine CI.of (by decide +kernel) rfl (Nat.le_of_ble_eq_true rfl) ha (fun x hq => ?_)
  show G l D (tysL τ) (LX τ) a nX6_improve x 0 [(0, .ref (a 0)), (1, .int (iN (st : Int)))] [] V
  obtain ⟨k00, k08, k09, k26, k94, k3, k3k, k4, k5, k6, k7, k8, k10, k10k, k11, k12, k13, kn, kc0, ks, kt, kr, kf, ka⟩ := id hok
  refine g_iload_n 1 dX6_improve_0 rfl rfl ?_
  refine g_if_lt 11 dX6_improve_1 (by decide) (fun c_1 => ?_) (fun c_1 => ?_)
  · omega
  · refine g_iload_n 1 dX6_improve_4 rfl rfl ?_
    refine g_sipush dX6_improve_5 rfl ?_
    refine g_icmp_le 21 dX6_improve_8 (by decide) (fun c_2 => ?_) (fun c_2 => ?_)
    · refine g_aload_n 0 dX6_improve_21 rfl rfl ?_
      refine g_iload_n 1 dX6_improve_22 rfl rfl ?_
      refine g_callI (k := 0) [.int (iN (st : Int))] (met_X6_exchangeParts (V := V) ha st us (by omega) (by omega) (by omega) (okC_okX hok)) vX6_140 ox_0 rfl rfl ⟨rfl, rfl, Nat.le_of_ble_eq_true rfl, Nat.le_of_ble_eq_true rfl⟩ rfl (Nat.le_of_ble_eq_true rfl) dX6_improve_23 rfl ?_
      rintro z9 V9 ⟨hx9, -, h09, hz9a, hz9b⟩
      have hex9 : exs V st z9 V9 := by
        rcases hx9 with ⟨e1, e2, e3⟩ | ⟨e1, e2⟩
        · exact Or.inl ⟨by omega, e2, e3⟩
        · exact Or.inr ⟨by omega, by rw [show (V 0 9).toNat = us by omega]; exact e2⟩
      exact g_iret hq rfl rfl dX6_improve_26 (⟨hex9, hz9a, hz9b⟩)
    · omega

set_option maxHeartbeats 4000000 in
/-- run(mm, st) -/
theorem met_X6_run {l : Launch} {D : va_G} {τ : Nat → ClassId} {a : Nat → Nat} (ha : Apart (LX τ) a) {V : Mem} (mm : Int) (st us : Nat) (hok : okC V) (hus : (us : Int) = min mm (V 0 8)) (hmm : 0 ≤ mm ∧ mm ≤ 3) (hst : st ≤ 200) : CI l D (tysL τ) (LX τ) a yX6_run nX6_run [.ref (a 0), .int (iN mm), .long (jN (st : Int))] V (fun z V' => ∃ V2 V3 y, shR (up V 0 9 (us : Int)) V2 ∧ suSeq V2 3 V3 ∧ exs V3 st y V' ∧ okC V' ∧ z = mxF (fun m => V' (15 + 4 * m) 6 + sup (V' (15 + 4 * m + 3)) (V' 8) (V' 7) (V' 6) (V' 2 6).toNat) us) := by
  refine CI.of (by decide +kernel) rfl (Nat.le_of_ble_eq_true rfl) ha (fun x hq => ?_)
  show G l D (tysL τ) (LX τ) a nX6_run x 0 [(0, .ref (a 0)), (1, .int (iN mm)), (2, .long (jN (st : Int)))] [] V
  obtain ⟨k00, k08, k09, k26, k94, k3, k3k, k4, k5, k6, k7, k8, k10, k10k, k11, k12, k13, kn, kc0, ks, kt, kr, kf, ka⟩ := id hok
  refine g_iload_n 1 dX6_run_0 rfl rfl ?_
  refine g_if_lt 9 dX6_run_1 (by decide) (fun c_1 => ?_) (fun c_1 => ?_)
  · omega
  · refine g_iload_n 1 dX6_run_4 rfl rfl ?_
    refine g_iconst dX6_run_5 ?_
    refine g_icmp_le 19 dX6_run_6 (by decide) (fun c_2 => ?_) (fun c_2 => ?_)
    · refine g_lload_n 2 dX6_run_19 rfl rfl ?_
      refine g_lconst 0 dX6_run_20 rfl ?_
      refine g_lcmp (cmpz (st : Int) 0) dX6_run_21 (cmpz_j (by omega) (by omega)) ?_
      have hcmp_3 := cmpz_c (st : Int) 0
      refine g_if_lt 33 dX6_run_22 (by decide) (fun c_4 => ?_) (fun c_4 => ?_)
      · omega
      · refine g_lload_n 2 dX6_run_25 rfl rfl ?_
        refine g_ldc2 200 kX6_130 rfl dX6_run_26 ?_
        refine g_lcmp (cmpz (st : Int) 200) dX6_run_29 (cmpz_j (by omega) (by omega)) ?_
        have hcmp_5 := cmpz_c (st : Int) 200
        refine g_if_le 43 dX6_run_30 (by decide) (fun c_6 => ?_) (fun c_6 => ?_)
        · refine g_aload_n 0 dX6_run_43 rfl rfl ?_
          refine g_iload_n 1 dX6_run_44 rfl rfl ?_
          refine g_aload_n 0 dX6_run_45 rfl rfl ?_
          refine g_getf 0 (.int (iN (V 0 8))) fX6_48 ox_0 dX6_run_46 rfl ?_
          refine g_mmin jX6_55 ⟨Nat.le_of_ble_eq_true rfl, Nat.le_of_ble_eq_true rfl⟩ (Nat.le_of_ble_eq_true rfl) dX6_run_49 (by omega) (by omega) ?_
          refine g_top (show min mm (V 0 8) = (us : Int) from hus.symm) ?_
          refine g_putf 0 (v := (us : Int)) (.int (iN (us : Int))) pX6_52 ox_0 dX6_run_52 rfl rfl (Nat.le_of_ble_eq_true rfl) rfl ?_
          obtain ⟨V_7, eV_7⟩ : ∃ V9 : Mem, V9 = up V 0 9 (us : Int) := ⟨_, rfl⟩
          refine g_mem eV_7.symm ?_
          refine g_aload_n 0 dX6_run_55 rfl rfl ?_
          obtain ⟨V_1, eV_1⟩ : ∃ V9 : Mem, V9 = up V 0 9 (us : Int) := ⟨_, rfl⟩
          refine g_mem (show V_7 = V_1 from by rw [eV_1, eV_7]) ?_
          have hok1 : okC V_1 := by
            rw [eV_1]
            obtain ⟨k00, k08, k09, k26, k94, k3, k3k, k4, k5, k6, k7, k8, k10, k10k, k11, k12, k13, kn, kc0, ks, kt, kr, kf, ka⟩ := id hok
            unfold okC
            rw [up_ne1 (c := 2) (by omega), up_ne1 (c := 3) (by omega), up_ne1 (c := 4) (by omega), up_ne1 (c := 5) (by omega), up_ne1 (c := 6) (by omega), up_ne1 (c := 7) (by omega), up_ne1 (c := 8) (by omega), up_ne1 (c := 9) (by omega), up_ne1 (c := 10) (by omega), up_ne1 (c := 11) (by omega), up_ne1 (c := 12) (by omega), up_ne1 (c := 13) (by omega), up_ne (by omega), up_ne (by omega), up_eq]
            refine ⟨k00, k08, by omega, k26, k94, k3, k3k, k4, k5, k6, k7, k8, k10, k10k, k11, k12, k13, ?_, ?_, ?_, ?_, ?_, ?_, ?_⟩
            · intro m hm; rw [up_ne1 (by omega)]; exact kn m hm
            · intro m hm; rw [up_ne1 (by omega)]; exact kc0 m hm
            · intro m hm; rw [up_ne1 (by omega)]; exact ks m hm
            · intro m hm; rw [up_ne1 (by omega)]; exact kt m hm
            · intro m hm; rw [up_ne1 (by omega), up_ne1 (by omega)]; exact kr m hm
            · intro m hm; rw [up_ne1 (by omega)]; exact kf m hm
            · intro m hm; rw [up_ne1 (by omega)]; exact ka m hm
          obtain ⟨j00, j08, j09, j26, j94, j3, j3k, j4, j5, j6, j7, j8, j10, j10k, j11, j12, j13, jn, jc0, js, jt, jr, jf, ja⟩ := id hok1
          have hus1 : V_1 0 9 = (us : Int) := by rw [eV_1, up_eq]
          refine g_callV (k := 0) [] (met_X6_shareKinds (V := V_1) ha (V_1 2 6).toNat (by omega) (by omega) (V_1 9 4).toNat (by omega) (by omega) us hus1 (by omega) j10 jn j4) vX6_134 ox_0 rfl rfl ⟨rfl, rfl, Nat.le_of_ble_eq_true rfl, Nat.le_of_ble_eq_true rfl⟩ rfl (Nat.le_of_ble_eq_true rfl) dX6_run_56 rfl ?_
          rintro V2 hs2
          have hsh : shR V_1 V2 := by
            unfold shR
            rw [hus1]
            exact hs2
          have hok2 : okC V2 := okC_congr hok1 (fun c hc => by obtain ⟨_, _, _, q⟩ := hsh; exact q c (by omega) (by omega))
          have h28 := shR_in hsh
          have hus2 : V2 0 9 = (us : Int) := by obtain ⟨_, _, _, q⟩ := hsh; rw [q 0 (by omega) (by omega)]; exact hus1
          refine g_iconst dX6_run_59 ?_
          refine g_istore [(4, .int (iN 0)), (0, .ref (a 0)), (1, .int (iN mm)), (2, .long (jN (st : Int)))] dX6_run_60 (by decide) rfl ?_
          have lp_62 : ∀ (fuel : Nat) (m : Nat) (U : Mem), (m ≤ 3) → (suSeq V2 m U) → (okC U) → (U 28 = V2 28) → (U 0 9 = V2 0 9) → (3 - m) < fuel → G l D (tysL τ) (LX τ) a nX6_run x 62 [(0, .ref (a 0)), (1, .int (iN mm)), (2, .long (jN (st : Int))), (4, .int (iN (m : Int)))] [] U := by
            intro fuel
            induction fuel with
            | zero => intro m U hm0 hseq hokU hU28 hU0 hfu; exact absurd hfu (Nat.not_lt_zero _)
            | succ fuel ih_62 =>
              intro m U hm0 hseq hokU hU28 hU0 hfu
              obtain ⟨j00, j08, j09, j26, j94, j3, j3k, j4, j5, j6, j7, j8, j10, j10k, j11, j12, j13, jn, jc0, js, jt, jr, jf, ja⟩ := id hokU
              have jcm := jc0 m
              refine g_iload 3 dX6_run_62 rfl ?_
              refine g_iconst dX6_run_64 ?_
              refine g_icmp_ge 80 dX6_run_65 (by decide) (fun c_8 => ?_) (fun c_8 => ?_)
              · refine g_aload_n 0 dX6_run_80 rfl rfl ?_
                refine g_lload_n 2 dX6_run_81 rfl rfl ?_
                refine g_l2i dX6_run_82 ?_
                have hus9 : U 0 9 = (us : Int) := hU0.trans hus2
                refine g_callI (k := 0) [.int (iN (st : Int))] (met_X6_exchangeParts (V := U) ha st us (by omega) (by omega) (by omega) (okC_okX hokU)) vX6_140 ox_0 rfl rfl ⟨rfl, rfl, Nat.le_of_ble_eq_true rfl, Nat.le_of_ble_eq_true rfl⟩ rfl (Nat.le_of_ble_eq_true rfl) dX6_run_83 rfl ?_
                rintro z9 V9 ⟨hx9, -, h09, hz9a, hz9b⟩
                have hex9 : exs U st z9 V9 := by
                  rcases hx9 with ⟨e1, e2, e3⟩ | ⟨e1, e2⟩
                  · exact Or.inl ⟨by omega, e2, e3⟩
                  · exact Or.inr ⟨by omega, by rw [show (U 0 9).toNat = us by omega]; exact e2⟩
                refine g_pop dX6_run_86 rfl ?_
                refine g_aload_n 0 dX6_run_87 rfl rfl ?_
                obtain ⟨hok9, hk9⟩ := exs_ok hokU hex9
                obtain ⟨i00, i08, i09, i26, i94, i3, i3k, i4, i5, i6, i7, i8, i10, i10k, i11, i12, i13, in0, ic0, is0, it0, ir0, if0, ia0⟩ := id hok9
                refine g_callI (k := 0) [] (met_X6_greatestTime (V := V9) ha (V9 2 6).toNat (by omega) (by omega) us (by rw [h09]; exact hus9) (by omega) it0 (fun m hm k hk => ia0 m hm k (by omega)) (fun k hk => i8 k (by omega)) (fun k hk => i7 k (by omega)) (fun k hk => i6 k (by omega))) vX6_144 ox_0 rfl rfl ⟨rfl, rfl, Nat.le_of_ble_eq_true rfl, Nat.le_of_ble_eq_true rfl⟩ rfl (Nat.le_of_ble_eq_true rfl) dX6_run_88 rfl ?_
                rintro z8 V8 ⟨hz8, hV8⟩
                replace hV8 := hV8.symm
                subst hV8
                exact g_iret hq rfl rfl dX6_run_91 (⟨V2, U, _, by rw [← eV_1]; exact hsh, by rw [← show m = 3 by omega]; exact hseq, hex9, hok9, hz8⟩)
              · refine g_aload_n 0 dX6_run_68 rfl rfl ?_
                refine g_iload 3 dX6_run_69 rfl ?_
                refine g_callV (k := 0) [.int (iN (m : Int))] (met_X6_setUp (V := U) ha m (by omega) (U 2 6).toNat (by omega) (by omega) (U 9 4).toNat (by omega) (by omega) (U 0 0).toNat (by omega) (by omega) (U (15 + 4 * m) 4).toNat (by omega) (by omega) j3 (fun k hk => j3k k (by omega)) (by rw [hU28]; exact h28) j5 j10 j4 j13 j94 j11 j12) vX6_137 ox_0 rfl rfl ⟨rfl, rfl, Nat.le_of_ble_eq_true rfl, Nat.le_of_ble_eq_true rfl⟩ rfl (Nat.le_of_ble_eq_true rfl) dX6_run_71 rfl ?_
                intro V9 hs9
                have hsu : suR U m V9 := hs9
                have hokV9 := suR_ok (by omega) hokU hsu
                refine g_iinc 3 [(4, .int (iN ((m : Int) + 1))), (0, .ref (a 0)), (1, .int (iN mm)), (2, .long (jN (st : Int)))] dX6_run_74 rfl (by decide) rfl ?_
                refine g_goto 62 dX6_run_77 (by decide) ?_
                refine g_lv [1, 2, 3, 0] rfl ?_
                exact ih_62 (m + 1) V9 (by omega) (⟨U, hseq, hsu⟩) hokV9 (by obtain ⟨_, _, _, _, _, _, _, _, q⟩ := hsu; rw [q 28 (by omega) (by omega) (by omega) (by omega) (by omega)]; exact hU28) (by obtain ⟨_, _, _, _, _, _, _, _, q⟩ := hsu; rw [q 0 (by omega) (by omega) (by omega) (by omega) (by omega)]; exact hU0) (by omega)
          refine g_lv [1, 2, 3, 0] rfl ?_
          exact lp_62 _ 0 V2 (by omega) rfl hok2 rfl rfl (Nat.lt_succ_self _)
        · omega
    · omega
