theorem okR_13 {V U : Mem} (hok : okR V) (e : ∀ c, c < 16 → c ≠ 13 → U c = V c) (hf : ∀ m, m < 3 → ∀ k, k < 10 → -1 ≤ U 13 (10 * m + k) ∧ U 13 (10 * m + k) ≤ 120) : okR U := by
  obtain ⟨r2, r3, r10, r15, r18, q1, q1k, q2, q3, q4, q5, q6, q7, q7k, q8, q9, q10, q11, q12, q14, qr, qf⟩ := hok
  unfold okR
  rw [e 0 (by omega) (by omega), e 1 (by omega) (by omega), e 2 (by omega) (by omega), e 3 (by omega) (by omega), e 4 (by omega) (by omega), e 5 (by omega) (by omega), e 6 (by omega) (by omega), e 7 (by omega) (by omega), e 8 (by omega) (by omega), e 9 (by omega) (by omega), e 10 (by omega) (by omega), e 11 (by omega) (by omega), e 12 (by omega) (by omega), e 14 (by omega) (by omega), e 15 (by omega) (by omega)]
  exact ⟨r2, r3, r10, r15, r18, q1, q1k, q2, q3, q4, q5, q6, q7, q7k, q8, q9, q10, q11, q12, q14, qr, hf⟩
theorem nAct_cg {a b : Nat → Bool} : ∀ {n : Nat}, (∀ p, p < n → a p = b p) → nAct a n = nAct b n
  | 0, _ => rfl
  | n + 1, h => by simp only [nAct]; rw [nAct_cg (fun p hp => h p (by omega)), h n (by omega)]
theorem lnF_cg {h x y : Nat → Int} {a b : Nat → Bool} : ∀ {n : Nat}, (∀ p, p < n → a p = b p) → lnF h x y a n = lnF h x y b n
  | 0, _ => rfl
  | n + 1, hh => by simp only [lnF]; rw [lnF_cg (fun p hp => hh p (by omega)), nAct_cg (fun p hp => hh p (by omega)), hh n (by omega)]
/-- the two fills ahead of a run -/
def fiI (V U : Mem) (us i j : Nat) : Prop := (∀ q, q < i → U 13 q = -1) ∧ (∀ q, q < j → U 14 q = 0) ∧ U 0 0 = 0 ∧ U 0 18 = (us : Int) ∧ (∀ q, q ≠ 0 → q ≠ 18 → U 0 q = V 0 q) ∧ ∀ c, c ≠ 0 → c ≠ 13 → c ≠ 14 → U c = V c
theorem fiI_0 {V : Mem} {us : Nat} : fiI V (up (up V 0 0 0) 0 18 (us : Int)) us 0 0 := ⟨fun q h => absurd h (Nat.not_lt_zero _), fun q h => absurd h (Nat.not_lt_zero _), by rw [up_ne (by omega), up_eq], by rw [up_eq], fun q a b => by rw [up_ne (by omega), up_ne (by omega)], fun c a _ _ => by rw [up_ne1 a, up_ne1 a]⟩
theorem fiI_13 {V U : Mem} {us i j : Nat} (h : fiI V U us i j) : fiI V (up U 13 i (-1)) us (i + 1) j := by
  obtain ⟨h1, h2, h3, h4, h5, h6⟩ := h
  refine ⟨fun q hq => ?_, fun q hq => by rw [up_ne (by omega)]; exact h2 q hq, by rw [up_ne (by omega)]; exact h3, by rw [up_ne (by omega)]; exact h4, fun q a b => by rw [up_ne (by omega)]; exact h5 q a b, fun c a b d => by rw [up_ne1 b]; exact h6 c a b d⟩
  by_cases e : q = i
  · subst e; rw [up_eq]
  · rw [up_ne (by omega)]; exact h1 q (by omega)
theorem fiI_14 {V U : Mem} {us i j : Nat} (h : fiI V U us i j) : fiI V (up U 14 j 0) us i (j + 1) := by
  obtain ⟨h1, h2, h3, h4, h5, h6⟩ := h
  refine ⟨fun q hq => by rw [up_ne (by omega)]; exact h1 q hq, fun q hq => ?_, by rw [up_ne (by omega)]; exact h3, by rw [up_ne (by omega)]; exact h4, fun q a b => by rw [up_ne (by omega)]; exact h5 q a b, fun c a b d => by rw [up_ne1 d]; exact h6 c a b d⟩
  by_cases e : q = j
  · subst e; rw [up_eq]
  · rw [up_ne (by omega)]; exact h2 q (by omega)
set_option maxHeartbeats 4000000 in
/-- run(mm, st) -/
theorem met_X7_run {l : Launch} {D : va_G} {τ : Nat → ClassId} {a : Nat → Nat} (ha : Apart (LM τ) a) {V : Mem} (mm : Int) (st us : Nat) (hok : okR V) (hus : (us : Int) = min mm (V 0 15)) (hmm : 0 ≤ mm ∧ mm ≤ 3) (hst : st ≤ 200) (hfw : ∀ k : Nat, (k : Int) < V 0 3 → V 3 k ≠ -1 → V 3 k + V 1 k ≤ V 0 2) : CI l D (tysL τ) (LM τ) a yX7_run mX7_run [.ref (a 0), .int (iN mm), .long (jN (st : Int))] V (fun z V' => ∃ V1 V2 V3 y, rIn V V1 us ∧ rSh V1 V2 ∧ rsSeq V2 us V3 ∧ rxs V3 (V 0 3).toNat st y V' ∧ okR V' ∧ V' 0 0 = 0 ∧ z = mxF (fun m => rTm V' m (V' 12 m).toNat (V' 14 m).toNat (V 0 3).toNat (fun i => V' 15 (40 * m + i))) us) := by
  refine CI.of (by decide +kernel) rfl (Nat.le_of_ble_eq_true rfl) ha (fun x hq => ?_)
  show G l D (tysL τ) (LM τ) a mX7_run x 0 [(0, .ref (a 0)), (1, .int (iN mm)), (2, .long (jN (st : Int)))] [] V
  obtain ⟨r2, r3, r10, r15, r18, q1, q1k, q2, q3, q4, q5, q6, q7, q7k, q8, q9, q10, q11, q12, q14, qr, qf⟩ := id hok
  refine g_aload_n 0 dX7_run_0 rfl rfl ?_
  refine g_iload_n 1 dX7_run_1 rfl rfl ?_
  refine g_if_lt 28 dX7_run_2 (by decide) (fun c_1 => ?_) (fun c_1 => ?_)
  · omega
  · refine g_iload_n 1 dX7_run_5 rfl rfl ?_
    refine g_iconst dX7_run_6 ?_
    refine g_icmp_gt 28 dX7_run_7 (by decide) (fun c_2 => ?_) (fun c_2 => ?_)
    · omega
    · refine g_lload_n 2 dX7_run_10 rfl rfl ?_
      refine g_lconst 0 dX7_run_11 rfl ?_
      refine g_lcmp (cmpz (st : Int) 0) dX7_run_12 (cmpz_j (by omega) (by omega)) ?_
      have hcmp_3 := cmpz_c (st : Int) 0
      refine g_if_lt 28 dX7_run_13 (by decide) (fun c_4 => ?_) (fun c_4 => ?_)
      · omega
      · refine g_lload_n 2 dX7_run_16 rfl rfl ?_
        refine g_ldc2 200 kX7_200 rfl dX7_run_17 ?_
        refine g_lcmp (cmpz (st : Int) 200) dX7_run_20 (cmpz_j (by omega) (by omega)) ?_
        have hcmp_5 := cmpz_c (st : Int) 200
        refine g_if_gt 28 dX7_run_21 (by decide) (fun c_6 => ?_) (fun c_6 => ?_)
        · omega
        · refine g_iconst dX7_run_24 ?_
          refine g_goto 29 dX7_run_25 (by decide) ?_
          refine g_putf 0 (v := 0) (.int (iN 0)) pX7_83 om_0 dX7_run_29 rfl rfl (Nat.le_of_ble_eq_true rfl) rfl ?_
          obtain ⟨V_7, eV_7⟩ : ∃ V9 : Mem, V9 = up V 0 0 0 := ⟨_, rfl⟩
          refine g_mem eV_7.symm ?_
          refine g_aload_n 0 dX7_run_32 rfl rfl ?_
          refine g_getf 0 (.int (iN (V_7 0 0))) fX7_83 om_0 dX7_run_33 rfl ?_
          refine g_top (show _ = 0 from by rw [eV_7, up_eq]) ?_
          refine g_if_eq 41 dX7_run_36 (by decide) (fun _ => ?_) (fun c_8 => absurd c_8 (by decide))
          have jn_58 : ∀ (u : Int), (u = (us : Int)) → G l D (tysL τ) (LM τ) a mX7_run x 58 [(0, .ref (a 0)), (1, .int (iN mm)), (2, .long (jN (st : Int)))] [.int (iN u), .ref (a 0)] V_7 := by
            intro u hu
            refine g_top (show u = (us : Int) from hu) ?_
            refine g_putf 0 (v := (us : Int)) (.int (iN (us : Int))) pX7_109 om_0 dX7_run_58 rfl rfl (Nat.le_of_ble_eq_true rfl) rfl ?_
            obtain ⟨V_9, eV_9⟩ : ∃ V9 : Mem, V9 = up V_7 0 18 (us : Int) := ⟨_, rfl⟩
            refine g_mem eV_9.symm ?_
            obtain ⟨V1, eV1⟩ : ∃ V9 : Mem, V9 = up (up V 0 0 0) 0 18 (us : Int) := ⟨_, rfl⟩
            refine g_mem (show V_9 = V1 from by rw [eV1, eV_9, eV_7]) ?_
            refine g_iconst dX7_run_61 ?_
            refine g_istore [(4, .int (iN 0)), (0, .ref (a 0)), (1, .int (iN mm)), (2, .long (jN (st : Int)))] dX7_run_62 (by decide) rfl ?_
            have lp_64 : ∀ (fuel : Nat) (i : Nat) (U : Mem), (i ≤ 30) → (fiI V U us i 0) → (30 - i) < fuel → G l D (tysL τ) (LM τ) a mX7_run x 64 [(0, .ref (a 0)), (1, .int (iN mm)), (2, .long (jN (st : Int))), (4, .int (iN (i : Int)))] [] U := by
              intro fuel
              induction fuel with
              | zero => intro i U hi hfi hfu; exact absurd hfu (Nat.not_lt_zero _)
              | succ fuel ih_64 =>
                intro i U hi hfi hfu
                refine g_iload 3 dX7_run_64 rfl ?_
                refine g_bipush dX7_run_66 rfl ?_
                refine g_icmp_ge 85 dX7_run_68 (by decide) (fun c_10 => ?_) (fun c_10 => ?_)
                · refine g_iconst dX7_run_85 ?_
                  refine g_istore [(4, .int (iN 0)), (0, .ref (a 0)), (1, .int (iN mm)), (2, .long (jN (st : Int)))] dX7_run_86 (by decide) rfl ?_
                  have lp_88 : ∀ (fuel : Nat) (j : Nat) (U : Mem), (j ≤ 3) → (0 = 0 ∧ fiI V U us 30 j) → (3 - j) < fuel → G l D (tysL τ) (LM τ) a mX7_run x 88 [(0, .ref (a 0)), (1, .int (iN mm)), (2, .long (jN (st : Int))), (4, .int (iN (j : Int)))] [] U := by
                    intro fuel
                    induction fuel with
                    | zero => intro j U hj hfi hfu; exact absurd hfu (Nat.not_lt_zero _)
                    | succ fuel ih_88 =>
                      intro j U hj hfi hfu
                      refine g_iload 3 dX7_run_88 rfl ?_
                      refine g_iconst dX7_run_90 ?_
                      refine g_icmp_ge 108 dX7_run_91 (by decide) (fun c_11 => ?_) (fun c_11 => ?_)
                      · refine g_aload_n 0 dX7_run_108 rfl rfl ?_
                        have hri : rIn V U us := by
                          rw [show j = 3 by omega] at hfi
                          exact hfi.2
                        have hok1 : okR U := okR_in hok hri (by omega)
                        have u03 : U 0 3 = V 0 3 := hri.2.2.2.2.1 3 (by omega) (by omega)
                        have u010 : U 0 10 = V 0 10 := hri.2.2.2.2.1 10 (by omega) (by omega)
                        refine g_callV (k := 0) [] (met_X7_findShares (V := U) ha (U 0 10).toNat us (U 0 3).toNat (by omega) hri.2.2.2.1 (by omega) hok1) vX7_202 om_0 rfl rfl ⟨rfl, rfl, Nat.le_of_ble_eq_true rfl, Nat.le_of_ble_eq_true rfl⟩ rfl (Nat.le_of_ble_eq_true rfl) dX7_run_109 rfl ?_
                        intro V2 hs2
                        have hsh : rSh U V2 := by
                          unfold rSh
                          rw [hri.2.2.2.1]
                          exact hs2
                        have hok2 : okR V2 := by obtain ⟨_, _, _, q⟩ := hsh; exact okR_off hok1 q
                        have ho2 : off2 U V2 := by obtain ⟨_, _, _, q⟩ := hsh; exact q
                        have h17 : ∀ k : Nat, (k : Int) < V 0 3 → -1 ≤ V2 17 k ∧ V2 17 k ≤ 2 := by
                          obtain ⟨h, hb, hs, _⟩ := hsh
                          intro k hk
                          exact shS_in hs hb.1 k (by omega)
                        refine g_iconst dX7_run_112 ?_
                        refine g_istore [(4, .int (iN 0)), (0, .ref (a 0)), (1, .int (iN mm)), (2, .long (jN (st : Int)))] dX7_run_113 (by decide) rfl ?_
                        have lp_115 : ∀ (fuel : Nat) (m : Nat) (U1 : Mem), (m ≤ us) → (rsSeq V2 m U1) → (okR U1) → (U1 17 = V2 17) → ((∀ j, j ≠ 25 → U1 0 j = V2 0 j) ∧ ∀ c, 1 ≤ c → c ≤ 12 → U1 c = V2 c) → (∀ m9 k, m ≤ m9 → m9 < 3 → k < 10 → U1 13 (10 * m9 + k) = -1) → (us - m) < fuel → G l D (tysL τ) (LM τ) a mX7_run x 115 [(0, .ref (a 0)), (1, .int (iN mm)), (2, .long (jN (st : Int))), (4, .int (iN (m : Int)))] [] U1 := by
                          intro fuel
                          induction fuel with
                          | zero => intro m U1 hm hseq hokU h17e hkp h13 hfu; exact absurd hfu (Nat.not_lt_zero _)
                          | succ fuel ih_115 =>
                            intro m U1 hm hseq hokU h17e hkp h13 hfu
                            obtain ⟨j2, j3, j10, j15, j18, p1, p1k, p2, p3, p4, p5, p6, p7, p7k, p8, p9, p10, p11, p12, p14, pr, pf⟩ := id hokU
                            have u0 : ∀ j, j ≠ 25 → U1 0 j = V2 0 j := hkp.1
                            have e0 : ∀ j, j ≠ 25 → j ≠ 0 → j ≠ 18 → U1 0 j = V 0 j := fun j a b c => by rw [u0 j a, ho2 0 (by omega) (by omega)]; exact hri.2.2.2.2.1 j b c
                            have e18 : U1 0 18 = (us : Int) := by rw [u0 18 (by omega), ho2 0 (by omega) (by omega)]; exact hri.2.2.2.1
                            have eU1 : U1 1 = V 1 := by rw [hkp.2 1 (by omega) (by omega), ho2 1 (by omega) (by omega)]; exact hri.2.2.2.2.2 1 (by omega) (by omega) (by omega)
                            have eU3 : U1 3 = V 3 := by rw [hkp.2 3 (by omega) (by omega), ho2 3 (by omega) (by omega)]; exact hri.2.2.2.2.2 3 (by omega) (by omega) (by omega)
                            have eU17 : U1 17 = V2 17 := h17e
                            have e03 := e0 3 (by omega) (by omega) (by omega)
                            have e02 := e0 2 (by omega) (by omega) (by omega)
                            have e010 := e0 10 (by omega) (by omega) (by omega)
                            have e015 := e0 15 (by omega) (by omega) (by omega)
                            refine g_iload 3 dX7_run_115 rfl ?_
                            refine g_aload_n 0 dX7_run_117 rfl rfl ?_
                            refine g_getf 0 (.int (iN (U1 0 18))) fX7_109 om_0 dX7_run_118 rfl ?_
                            refine g_top (show U1 0 18 = (us : Int) from e18) ?_
                            refine g_icmp_ge 180 dX7_run_121 (by decide) (fun c_12 => ?_) (fun c_12 => ?_)
                            · refine g_aload_n 0 dX7_run_180 rfl rfl ?_
                              refine g_lload_n 2 dX7_run_181 rfl rfl ?_
                              refine g_callI (k := 0) [.long (jN (st : Int))] (met_X7_exchanges (V := U1) ha (V 0 3).toNat (by omega) us e18 st hokU hst) vX7_212 om_0 rfl rfl ⟨rfl, rfl, Nat.le_of_ble_eq_true rfl, Nat.le_of_ble_eq_true rfl⟩ rfl (Nat.le_of_ble_eq_true rfl) dX7_run_182 rfl ?_
                              rintro z9 V5 ⟨hx5, hok5, hK5, -, -⟩
                              obtain ⟨t2, t3, t10, t15, t18, y1, y1k, y2, y3, y4, y5, y6, y7, y7k, y8, y9, y10, y11, y12, y14, yr, yf⟩ := id hok5
                              have f3 : V5 0 3 = V 0 3 := by rw [hK5.2 3 (by omega) (by omega)]; exact e03
                              have f15 : V5 0 15 = V 0 15 := by rw [hK5.2 15 (by omega) (by omega)]; exact e015
                              have f18 : V5 0 18 = (us : Int) := by rw [hK5.2 18 (by omega) (by omega)]; exact e18
                              refine g_pop dX7_run_185 rfl ?_
                              refine g_lconst 0 dX7_run_186 rfl ?_
                              refine g_lstore [(4, .long (jN 0)), (0, .ref (a 0)), (1, .int (iN mm)), (2, .long (jN (st : Int)))] dX7_run_187 (by decide) rfl ?_
                              refine g_iconst dX7_run_189 ?_
                              refine g_istore [(6, .int (iN 0)), (4, .long (jN 0)), (0, .ref (a 0)), (1, .int (iN mm)), (2, .long (jN (st : Int)))] dX7_run_190 (by decide) rfl ?_
                              have lp_192 : ∀ (fuel : Nat) (mt : Nat) (t0 : Int), (mt ≤ us) → (t0 = mxF (fun m => rTm V5 m (V5 12 m).toNat (V5 14 m).toNat (V 0 3).toNat (fun i => V5 15 (40 * m + i))) mt) → (0 ≤ t0 ∧ t0 ≤ 1000000000) → (us - mt) < fuel → G l D (tysL τ) (LM τ) a mX7_run x 192 [(0, .ref (a 0)), (1, .int (iN mm)), (2, .long (jN (st : Int))), (4, .long (jN t0)), (6, .int (iN (mt : Int)))] [] V5 := by
                                intro fuel
                                induction fuel with
                                | zero => intro mt t0 hmt ht0 htb hfu; exact absurd hfu (Nat.not_lt_zero _)
                                | succ fuel ih_192 =>
                                  intro mt t0 hmt ht0 htb hfu
                                  have y14m := y14 mt
                                  have y12m := y12 mt
                                  refine g_iload 4 dX7_run_192 rfl ?_
                                  refine g_aload_n 0 dX7_run_194 rfl rfl ?_
                                  refine g_getf 0 (.int (iN (V5 0 18))) fX7_109 om_0 dX7_run_195 rfl ?_
                                  refine g_top (show V5 0 18 = (us : Int) from f18) ?_
                                  refine g_icmp_ge 220 dX7_run_198 (by decide) (fun c_13 => ?_) (fun c_13 => ?_)
                                  · refine g_lload 3 dX7_run_220 rfl ?_
                                    refine g_l2i dX7_run_222 ?_
                                    exact g_iret hq rfl rfl dX7_run_223 (⟨U, V2, U1, _, hri, hsh, by rw [← show m = us by omega]; exact hseq, hx5, hok5, by rw [hK5.2 0 (by omega) (by omega), u0 0 (by omega), ho2 0 (by omega) (by omega)]; exact hri.2.2.1, by rw [ht0, show mt = us by omega]⟩)
                                  · refine g_lload 3 dX7_run_201 rfl ?_
                                    refine g_aload_n 0 dX7_run_203 rfl rfl ?_
                                    refine g_iload 4 dX7_run_204 rfl ?_
                                    refine g_callL (k := 0) [.int (iN (mt : Int))] (met_X7_timeOf (V := V5) ha mt (V5 14 mt).toNat (by omega) (V5 12 mt).toNat (by omega) (V 0 3).toNat (by omega) (by omega) (by omega) (fun i hi => yr mt (by omega) i (by omega)) (by omega) y7 (by omega) (fun k hk => y6 k (by omega)) (fun k hk => y5 k (by omega)) (fun k hk => y4 k (by omega)) (by omega) y2 y8 y9) vX7_190 om_0 rfl rfl ⟨rfl, rfl, Nat.le_of_ble_eq_true rfl, Nat.le_of_ble_eq_true rfl⟩ rfl (Nat.le_of_ble_eq_true rfl) dX7_run_206 rfl ?_
                                    rintro z8 V8 ⟨hz8, hV8⟩
                                    replace hV8 := hV8.symm
                                    subst hV8
                                    have hz7 : z8 = rTm V5 mt (V5 12 mt).toNat (V5 14 mt).toNat (V 0 3).toNat (fun i => V5 15 (40 * mt + i)) := hz8
                                    replace hz7 := hz7.symm
                                    subst hz7
                                    have htr := rTm_in (m := mt) (cr := (V5 12 mt).toNat) (n := (V5 14 mt).toNat) (kc := (V 0 3).toNat) (f := fun i => V5 15 (40 * mt + i)) y8 y9 (by omega) (by omega) (by omega) (fun k hk => y6 k (by omega)) (fun k hk => y5 k (by omega))
                                    refine g_callSL [.long (jN t0), .long (jN (rTm V5 mt (V5 12 mt).toNat (V5 14 mt).toNat (V 0 3).toNat (fun i => V5 15 (40 * mt + i))))] (met_X7_greater ha t0 (rTm V5 mt (V5 12 mt).toNat (V5 14 mt).toNat (V 0 3).toNat (fun i => V5 15 (40 * mt + i))) (by omega) (by omega)) vX7_142 ⟨rfl, rfl, Nat.le_of_ble_eq_true rfl, Nat.le_of_ble_eq_true rfl⟩ rfl (Nat.le_of_ble_eq_true rfl) dX7_run_209 rfl ?_
                                    rintro z9 V9 ⟨hz9, hV9⟩
                                    replace hz9 := hz9.symm
                                    replace hV9 := hV9.symm
                                    subst hz9
                                    subst hV9
                                    refine g_lstore [(4, .long (jN (max t0 (rTm V5 mt (V5 12 mt).toNat (V5 14 mt).toNat (V 0 3).toNat (fun i => V5 15 (40 * mt + i)))))), (0, .ref (a 0)), (1, .int (iN mm)), (2, .long (jN (st : Int))), (6, .int (iN (mt : Int)))] dX7_run_212 (by decide) rfl ?_
                                    refine g_iinc 4 [(6, .int (iN ((mt : Int) + 1))), (4, .long (jN (max t0 (rTm V5 mt (V5 12 mt).toNat (V5 14 mt).toNat (V 0 3).toNat (fun i => V5 15 (40 * mt + i)))))), (0, .ref (a 0)), (1, .int (iN mm)), (2, .long (jN (st : Int)))] dX7_run_214 rfl (by decide) rfl ?_
                                    refine g_goto 192 dX7_run_217 (by decide) ?_
                                    refine g_lv [2, 3, 4, 1, 0] rfl ?_
                                    exact ih_192 (mt + 1) (max t0 (rTm V5 mt (V5 12 mt).toNat (V5 14 mt).toNat (V 0 3).toNat (fun i => V5 15 (40 * mt + i)))) (by omega) (by rw [ht0]; rfl) (by omega) (by omega)
                              refine g_lv [2, 3, 4, 1, 0] rfl ?_
                              exact lp_192 _ 0 0 (by omega) rfl (by omega) (Nat.lt_succ_self _)
                            · refine g_aload_n 0 dX7_run_124 rfl rfl ?_
                              refine g_iload 3 dX7_run_125 rfl ?_
                              obtain ⟨cr, hcr⟩ : ∃ q : Nat, U1 12 m = (q : Int) := ⟨(U1 12 m).toNat, by have := p12 m (by omega); omega⟩
                              have qcr := p12 m (by omega)
                              refine g_callV (k := 0) [.int (iN (m : Int))] (met_X7_findFeeders (V := U1) ha m (U1 0 3).toNat (U1 0 2).toNat (by omega) (by omega) hokU (by omega) (fun k hk => by rw [eU17]; exact h17 k (by omega)) (fun k hk h9 => by rw [eU3, eU1, e02]; rw [eU3] at h9; exact hfw k (by omega) h9) (fun k hk => h13 m k (Nat.le_refl _) (by omega) hk)) vX7_205 om_0 rfl rfl ⟨rfl, rfl, Nat.le_of_ble_eq_true rfl, Nat.le_of_ble_eq_true rfl⟩ rfl (Nat.le_of_ble_eq_true rfl) dX7_run_127 rfl ?_
                              rintro W1 ⟨g, hg, hg1, hg2, hg3⟩
                              have hgin := othR_in (show (U1 0 2).toNat ≤ 120 by omega) (fun k hk => (p1 k hk).1) (fixF_in p3) (show (U1 0 3).toNat ≤ 10 by omega) hg
                              have hokW1 : okR W1 := okR_13 hokU (fun c a b => hg3 c b (by omega)) (fun m' hm' k hk => by
                                by_cases q : m' = m
                                · subst q; rw [hg1 k hk]; exact hgin k hk
                                · rw [hg2 _ (by omega)]; exact pf m' hm' k hk)
                              refine g_aload_n 0 dX7_run_130 rfl rfl ?_
                              refine g_iload 3 dX7_run_131 rfl ?_
                              refine g_callV (k := 0) [.int (iN (m : Int))] (met_X7_line (V := W1) ha m (U1 0 10).toNat (by rw [hg3 0 (by omega) (by omega)]; omega) hokW1 (by omega) (fun k hk => by rw [hg3 17 (by omega) (by omega), eU17]; rw [hg3 0 (by omega) (by omega)] at hk; exact h17 k (by omega)) (fun k hk => by rw [hg1 k hk]; exact hgin k hk)) vX7_209 om_0 rfl rfl ⟨rfl, rfl, Nat.le_of_ble_eq_true rfl, Nat.le_of_ble_eq_true rfl⟩ rfl (Nat.le_of_ble_eq_true rfl) dX7_run_133 rfl ?_
                              intro W2 hln
                              have hselE : (fun p => decide (W1 17 (W1 7 p).toNat = (m : Int) ∧ W1 13 (10 * m + (W1 7 p).toNat) ≠ -1)) = (fun p => decide (U1 17 (U1 7 p).toNat = (m : Int) ∧ W1 13 (10 * m + (U1 7 p).toNat) ≠ -1)) := by rw [hg3 17 (by omega) (by omega), hg3 7 (by omega) (by omega)]
                              have hnp : (U1 0 10).toNat ≤ 40 := by omega
                              have hselA : ∀ p, p < (U1 0 10).toNat → (fun p => decide (U1 17 (U1 7 p).toNat = (m : Int) ∧ W1 13 (10 * m + (U1 7 p).toNat) ≠ -1)) p = rSel U1 m g p := fun p hp => by
                                have := p7 p (by omega)
                                unfold rSel
                                dsimp only
                                rw [hg1 _ (by omega)]
                              rw [hselE] at hln
                              obtain ⟨l1, l2, l3, l4, l5⟩ := hln
                              rw [hg3 10 (by omega) (by omega), hg3 8 (by omega) (by omega), hg3 9 (by omega) (by omega)] at l2
                              rw [nAct_cg hselA] at l1 l2
                              rw [lnF_cg hselA] at l2
                              obtain ⟨cn, hcn0⟩ : ∃ q : Nat, q = nAct (rSel U1 m g) (U1 0 10).toNat := ⟨_, rfl⟩
                              rw [← hcn0] at l1 l2
                              have hcn40 : cn ≤ 40 := by have := nAct_le (act := rSel U1 m g) (k := (U1 0 10).toNat); omega
                              have w010 : W2 0 10 = U1 0 10 := by rw [l5 0 (by omega) (by omega), hg3 0 (by omega) (by omega)]
                              have harI : arK W2 W2 m cr cn (lnF (U1 10) (U1 8) (U1 9) (rSel U1 m g) (U1 0 10).toNat) 0 := ⟨fun t h => absurd h (Nat.not_lt_zero _), fun j _ hj => l2 j hj, fun i hi => by rw [l2 i hi, w010]; have := lnF_in (h := U1 10) (x := U1 8) (y := U1 9) (sel := rSel U1 m g) (p := (U1 0 10).toNat) (j := i) (by omega); omega, fun _ _ => rfl, fun _ _ => rfl, fun _ _ _ _ _ => rfl⟩
                              have x12 : W2 12 = U1 12 := by rw [l5 12 (by omega) (by omega), hg3 12 (by omega) (by omega)]
                              have x10 : W2 10 = U1 10 := by rw [l5 10 (by omega) (by omega), hg3 10 (by omega) (by omega)]
                              have x8 : W2 8 = U1 8 := by rw [l5 8 (by omega) (by omega), hg3 8 (by omega) (by omega)]
                              have x9 : W2 9 = U1 9 := by rw [l5 9 (by omega) (by omega), hg3 9 (by omega) (by omega)]
                              refine g_iconst dX7_run_136 ?_
                              refine g_istore [(5, .int (iN 0)), (0, .ref (a 0)), (1, .int (iN mm)), (2, .long (jN (st : Int))), (4, .int (iN (m : Int)))] dX7_run_137 (by decide) rfl ?_
                              refine g_lve (show ([(5, .int (iN 0)), (0, .ref (a 0)), (1, .int (iN mm)), (2, .long (jN (st : Int))), (4, .int (iN (m : Int)))] : List (Nat × Value)) = ([(5, .int (iN ((0 * cr : Nat) : Int))), (0, .ref (a 0)), (1, .int (iN mm)), (2, .long (jN (st : Int))), (4, .int (iN (m : Int)))] : List (Nat × Value)) from by rw [show 0 = ((0 * cr : Nat) : Int) from by rw [Nat.zero_mul]; rfl]) ?_
                              have lp_139 : ∀ (fuel : Nat) (tr : Nat) (W3 : Mem), (arK W2 W3 m cr cn (lnF (U1 10) (U1 8) (U1 9) (rSel U1 m g) (U1 0 10).toNat) tr) → (tr * cr < cn + 7) → (cn + 7 - tr * cr) < fuel → G l D (tysL τ) (LM τ) a mX7_run x 139 [(0, .ref (a 0)), (1, .int (iN mm)), (2, .long (jN (st : Int))), (4, .int (iN (m : Int))), (5, .int (iN ((tr * cr : Nat) : Int)))] [] W3 := by
                                intro fuel
                                induction fuel with
                                | zero => intro tr W3 har htc hfu; exact absurd hfu (Nat.not_lt_zero _)
                                | succ fuel ih_139 =>
                                  intro tr W3 har htc hfu
                                  have hmc : (tr + 1) * cr = tr * cr + cr := by rw [Nat.add_mul, Nat.one_mul]
                                  have hn14 : W3 14 m = (cn : Int) := by rw [har.2.2.2.2.2 14 (by omega) (by omega) (by omega) (by omega)]; exact l1
                                  have hn12 : W3 12 m = (cr : Int) := by rw [har.2.2.2.2.2 12 (by omega) (by omega) (by omega) (by omega), x12]; exact hcr
                                  refine g_iload 4 dX7_run_139 rfl ?_
                                  refine g_aload_n 0 dX7_run_141 rfl rfl ?_
                                  refine g_getf 0 (.ref (a 14)) fX7_50 om_0 dX7_run_142 rfl ?_
                                  refine g_iload 3 dX7_run_145 rfl ?_
                                  refine g_iald 14 m am_14 dX7_run_147 rfl (by omega) ?_
                                  refine g_top (show W3 14 m = (cn : Int) from hn14) ?_
                                  refine g_icmp_ge 174 dX7_run_148 (by decide) (fun c_14 => ?_) (fun c_14 => ?_)
                                  · refine g_iinc 3 [(4, .int (iN ((m : Int) + 1))), (0, .ref (a 0)), (1, .int (iN mm)), (2, .long (jN (st : Int))), (5, .int (iN ((tr * cr : Nat) : Int)))] dX7_run_174 rfl (by decide) rfl ?_
                                    refine g_goto 115 dX7_run_177 (by decide) ?_
                                    refine g_lv [1, 2, 3, 0] rfl ?_
                                    obtain ⟨k1, k2, k3, k4, k5, k6⟩ := id har
                                    have hrsG : rsG U1 m W3 g := ⟨hg, fun k hk => by rw [k6 13 (by omega) (by omega) (by omega) (by omega), l5 13 (by omega) (by omega)]; exact hg1 k hk, by rw [k6 14 (by omega) (by omega) (by omega) (by omega), ← hcn0]; exact l1, fun t ht => by
                                        rw [show (U1 12 m).toNat = cr by omega] at ht ⊢
                                        rw [← hcn0] at ht ⊢
                                        have := k1 t (Nat.lt_of_mul_lt_mul_right (a := cr) (by omega)) ht
                                        rw [x10, x8, x9, w010] at this
                                        exact this, ⟨fun j hj => by rw [k6 13 (by omega) (by omega) (by omega) (by omega), l5 13 (by omega) (by omega)]; exact hg2 j hj, fun j hj => by rw [k6 14 (by omega) (by omega) (by omega) (by omega), l4 j hj, hg3 14 (by omega) (by omega)], fun j hj => by rw [k4 j hj, l3 j hj, hg3 15 (by omega) (by omega)], fun j hj => by rw [k5 j hj, l5 0 (by omega) (by omega), hg3 0 (by omega) (by omega)], fun c c0 c13 c14 c15 c18 c19 c20 => by rw [k6 c c0 c15 c19 c20, l5 c c14 c15, hg3 c c13 c18]⟩⟩
                                    have hrs9 : rsR U1 m W3 := ⟨g, hrsG⟩
                                    have hok9 := rsR_ok (by omega) hokU hrs9
                                    obtain ⟨-, -, -, -, o13, o14, o15, o0, oc⟩ := id hrsG
                                    exact ih_115 (m + 1) W3 (by omega) (⟨U1, hseq, hrs9⟩) hok9 (by rw [oc 17 (by omega) (by omega) (by omega) (by omega) (by omega) (by omega) (by omega)]; exact h17e) (⟨fun j hj => by rw [o0 j hj]; exact hkp.1 j hj, fun c c1 c2 => by rw [oc c (by omega) (by omega) (by omega) (by omega) (by omega) (by omega) (by omega)]; exact hkp.2 c c1 c2⟩) (fun m9 k hm9 hm3 hk => by rw [o13 _ (by omega)]; exact h13 m9 k (by omega) hm3 hk) (by omega)
                                  · refine g_aload_n 0 dX7_run_151 rfl rfl ?_
                                    refine g_iload 3 dX7_run_152 rfl ?_
                                    refine g_iload 4 dX7_run_154 rfl ?_
                                    obtain ⟨k1, k2, k3, k4, k5, k6⟩ := id har
                                    refine g_callV (k := 0) [.int (iN (m : Int)), .int (iN ((tr * cr : Nat) : Int))] (met_X7_arrange (V := W3) ha m (tr * cr) cn cr (min cr (cn - tr * cr)) (by rw [k6 14 (by omega) (by omega) (by omega) (by omega)]; exact l1) (by rw [k6 12 (by omega) (by omega) (by omega) (by omega), x12]; exact hcr) rfl (by omega) (by omega) hcn40 (by omega) (by rw [k5 10 (by omega)]; exact k3) (by rw [k5 10 (by omega), w010]; omega) (by rw [k6 10 (by omega) (by omega) (by omega) (by omega), x10]; exact p10) (by rw [k6 8 (by omega) (by omega) (by omega) (by omega), x8]; exact p8) (by rw [k6 9 (by omega) (by omega) (by omega) (by omega), x9]; exact p9)) vX7_193 om_0 rfl rfl ⟨rfl, rfl, Nat.le_of_ble_eq_true rfl, Nat.le_of_ble_eq_true rfl⟩ rfl (Nat.le_of_ble_eq_true rfl) dX7_run_156 rfl ?_
                                    intro W4 h4
                                    have har4 := arK_s hcn40 har (by omega) h4
                                    refine g_iload 4 dX7_run_159 rfl ?_
                                    refine g_aload_n 0 dX7_run_161 rfl rfl ?_
                                    refine g_getf 0 (.ref (a 12)) fX7_44 om_0 dX7_run_162 rfl ?_
                                    refine g_iload 3 dX7_run_165 rfl ?_
                                    refine g_iald 12 m am_12 dX7_run_167 rfl (by omega) ?_
                                    refine g_top (show W4 12 m = (cr : Int) from by rw [har4.2.2.2.2.2 12 (by omega) (by omega) (by omega) (by omega), x12]; exact hcr) ?_
                                    refine g_iadd dX7_run_168 ?_
                                    refine g_istore [(5, .int (iN (((tr * cr : Nat) : Int) + (cr : Int)))), (0, .ref (a 0)), (1, .int (iN mm)), (2, .long (jN (st : Int))), (4, .int (iN (m : Int)))] dX7_run_169 (by decide) rfl ?_
                                    refine g_goto 139 dX7_run_171 (by decide) ?_
                                    refine g_lve (show ([(5, .int (iN (((tr * cr : Nat) : Int) + (cr : Int)))), (0, .ref (a 0)), (1, .int (iN mm)), (2, .long (jN (st : Int))), (4, .int (iN (m : Int)))] : List (Nat × Value)) = ([(5, .int (iN (((tr + 1) * cr : Nat) : Int))), (0, .ref (a 0)), (1, .int (iN mm)), (2, .long (jN (st : Int))), (4, .int (iN (m : Int)))] : List (Nat × Value)) from by rw [show ((tr * cr : Nat) : Int) + (cr : Int) = (((tr + 1) * cr : Nat) : Int) from by rw [Nat.add_mul, Nat.one_mul]; omega]) ?_
                                    refine g_lv [1, 2, 3, 4, 0] rfl ?_
                                    exact ih_139 (tr + 1) W4 har4 (by omega) (by omega)
                              refine g_lv [1, 2, 3, 4, 0] rfl ?_
                              exact lp_139 _ 0 W2 harI (by rw [Nat.zero_mul]; omega) (Nat.lt_succ_self _)
                        refine g_lv [1, 2, 3, 0] rfl ?_
                        exact lp_115 _ 0 V2 (by omega) rfl hok2 rfl (⟨fun _ _ => rfl, fun _ _ _ => rfl⟩) (fun m9 k _ h3 hk => by rw [ho2 13 (by omega) (by omega)]; exact hri.1 _ (by omega)) (Nat.lt_succ_self _)
                      · refine g_aload_n 0 dX7_run_94 rfl rfl ?_
                        refine g_getf 0 (.ref (a 14)) fX7_50 om_0 dX7_run_95 rfl ?_
                        refine g_iload 3 dX7_run_98 rfl ?_
                        refine g_iconst dX7_run_100 ?_
                        refine g_iast 14 j am_14 dX7_run_101 rfl (by omega) ?_
                        obtain ⟨V_15, eV_15⟩ : ∃ V9 : Mem, V9 = up U 14 j 0 := ⟨_, rfl⟩
                        refine g_mem eV_15.symm ?_
                        refine g_iinc 3 [(4, .int (iN ((j : Int) + 1))), (0, .ref (a 0)), (1, .int (iN mm)), (2, .long (jN (st : Int)))] dX7_run_102 rfl (by decide) rfl ?_
                        refine g_goto 88 dX7_run_105 (by decide) ?_
                        refine g_lv [1, 2, 3, 0] rfl ?_
                        exact ih_88 (j + 1) V_15 (by omega) (by rw [eV_15]; exact ⟨rfl, fiI_14 hfi.2⟩) (by omega)
                  refine g_lv [1, 2, 3, 0] rfl ?_
                  exact lp_88 _ 0 U (by omega) (by rw [show i = 30 by omega] at hfi; exact ⟨rfl, hfi⟩) (Nat.lt_succ_self _)
                · refine g_aload_n 0 dX7_run_71 rfl rfl ?_
                  refine g_getf 0 (.ref (a 13)) fX7_47 om_0 dX7_run_72 rfl ?_
                  refine g_iload 3 dX7_run_75 rfl ?_
                  refine g_iconst dX7_run_77 ?_
                  refine g_iast 13 i am_13 dX7_run_78 rfl (by omega) ?_
                  obtain ⟨V_16, eV_16⟩ : ∃ V9 : Mem, V9 = up U 13 i (-1) := ⟨_, rfl⟩
                  refine g_mem eV_16.symm ?_
                  refine g_iinc 3 [(4, .int (iN ((i : Int) + 1))), (0, .ref (a 0)), (1, .int (iN mm)), (2, .long (jN (st : Int)))] dX7_run_79 rfl (by decide) rfl ?_
                  refine g_goto 64 dX7_run_82 (by decide) ?_
                  refine g_lv [1, 2, 3, 0] rfl ?_
                  exact ih_64 (i + 1) V_16 (by omega) (by rw [eV_16]; exact fiI_13 hfi) (by omega)
            refine g_lv [1, 2, 3, 0] rfl ?_
            exact lp_64 _ 0 V1 (by omega) (by rw [eV1]; exact fiI_0) (Nat.lt_succ_self _)
          refine g_aload_n 0 dX7_run_41 rfl rfl ?_
          refine g_iload_n 1 dX7_run_42 rfl rfl ?_
          refine g_aload_n 0 dX7_run_43 rfl rfl ?_
          refine g_getf 0 (.int (iN (V_7 0 15))) fX7_92 om_0 dX7_run_44 rfl ?_
          refine g_top (show _ = V 0 15 from by rw [eV_7, up_ne (by omega)]) ?_
          refine g_icmp_ge 54 dX7_run_47 (by decide) (fun c_17 => ?_) (fun c_17 => ?_)
          · refine g_aload_n 0 dX7_run_54 rfl rfl ?_
            refine g_getf 0 (.int (iN (V_7 0 15))) fX7_92 om_0 dX7_run_55 rfl ?_
            refine g_top (show _ = V 0 15 from by rw [eV_7, up_ne (by omega)]) ?_
            exact jn_58 (V 0 15) (by omega)
          · refine g_iload_n 1 dX7_run_50 rfl rfl ?_
            refine g_goto 58 dX7_run_51 (by decide) ?_
            exact jn_58 (mm) (by omega)
