set_option maxHeartbeats 4000000 in
/-- isAhead(p, q) -/
theorem met_X7_isAhead {l : Launch} {D : va_G} {τ : Nat → ClassId} {a : Nat → Nat} (ha : Apart (LM τ) a) {V : Mem} (p q : Nat) (hp : p < 40) (hq0 : q < 40) (hh : ∀ p, p < 40 → 0 ≤ V 10 p ∧ V 10 p ≤ 10000) (hx : ∀ p, p < 40 → 0 ≤ V 8 p ∧ V 8 p ≤ 100000) (hy : ∀ p, p < 40 → 0 ≤ V 9 p ∧ V 9 p ≤ 100000) : CI l D (tysL τ) (LM τ) a yX7_isAhead mX7_isAhead [.ref (a 0), .int (iN (p : Int)), .int (iN (q : Int))] V (fun z V' => ((z = 1 ∧ ahead (V 10) (V 8) (V 9) p q) ∨ (z = 0 ∧ ¬ ahead (V 10) (V 8) (V 9) p q)) ∧ V' = V) := by
  refine CI.of (by decide +kernel) rfl (Nat.le_of_ble_eq_true rfl) ha (fun x hq => ?_)
  show G l D (tysL τ) (LM τ) a mX7_isAhead x 0 [(0, .ref (a 0)), (1, .int (iN (p : Int))), (2, .int (iN (q : Int)))] [] V
  have h1 := hh p
  have h2 := hh q
  have hx1 := hx p
  have hx2 := hx q
  have hy1 := hy p
  have hy2 := hy q
  unfold ahead at hq
  refine g_aload_n 0 dX7_isAhead_0 rfl rfl ?_
  refine g_getf 0 (.ref (a 10)) fX7_38 om_0 dX7_isAhead_1 rfl ?_
  refine g_iload_n 1 dX7_isAhead_4 rfl rfl ?_
  refine g_lald 10 p am_10 dX7_isAhead_5 rfl (by omega) ?_
  refine g_aload_n 0 dX7_isAhead_6 rfl rfl ?_
  refine g_getf 0 (.ref (a 10)) fX7_38 om_0 dX7_isAhead_7 rfl ?_
  refine g_iload_n 2 dX7_isAhead_10 rfl rfl ?_
  refine g_lald 10 q am_10 dX7_isAhead_11 rfl (by omega) ?_
  refine g_lcmp (cmpz (V 10 p) (V 10 q)) dX7_isAhead_12 (cmpz_j (by omega) (by omega)) ?_
  have hcmp_1 := cmpz_c (V 10 p) (V 10 q)
  refine g_if_eq 38 dX7_isAhead_13 (by decide) (fun c_2 => ?_) (fun c_2 => ?_)
  · refine g_aload_n 0 dX7_isAhead_38 rfl rfl ?_
    refine g_getf 0 (.ref (a 8)) fX7_32 om_0 dX7_isAhead_39 rfl ?_
    refine g_iload_n 1 dX7_isAhead_42 rfl rfl ?_
    refine g_lald 8 p am_8 dX7_isAhead_43 rfl (by omega) ?_
    refine g_aload_n 0 dX7_isAhead_44 rfl rfl ?_
    refine g_getf 0 (.ref (a 8)) fX7_32 om_0 dX7_isAhead_45 rfl ?_
    refine g_iload_n 2 dX7_isAhead_48 rfl rfl ?_
    refine g_lald 8 q am_8 dX7_isAhead_49 rfl (by omega) ?_
    refine g_lcmp (cmpz (V 8 p) (V 8 q)) dX7_isAhead_50 (cmpz_j (by omega) (by omega)) ?_
    have hcmp_3 := cmpz_c (V 8 p) (V 8 q)
    refine g_if_eq 76 dX7_isAhead_51 (by decide) (fun c_4 => ?_) (fun c_4 => ?_)
    · refine g_aload_n 0 dX7_isAhead_76 rfl rfl ?_
      refine g_getf 0 (.ref (a 9)) fX7_35 om_0 dX7_isAhead_77 rfl ?_
      refine g_iload_n 1 dX7_isAhead_80 rfl rfl ?_
      refine g_lald 9 p am_9 dX7_isAhead_81 rfl (by omega) ?_
      refine g_aload_n 0 dX7_isAhead_82 rfl rfl ?_
      refine g_getf 0 (.ref (a 9)) fX7_35 om_0 dX7_isAhead_83 rfl ?_
      refine g_iload_n 2 dX7_isAhead_86 rfl rfl ?_
      refine g_lald 9 q am_9 dX7_isAhead_87 rfl (by omega) ?_
      refine g_lcmp (cmpz (V 9 p) (V 9 q)) dX7_isAhead_88 (cmpz_j (by omega) (by omega)) ?_
      have hcmp_5 := cmpz_c (V 9 p) (V 9 q)
      refine g_if_eq 116 dX7_isAhead_89 (by decide) (fun c_6 => ?_) (fun c_6 => ?_)
      · refine g_iload_n 1 dX7_isAhead_116 rfl rfl ?_
        refine g_iload_n 2 dX7_isAhead_117 rfl rfl ?_
        refine g_icmp_ge 125 dX7_isAhead_118 (by decide) (fun c_7 => ?_) (fun c_7 => ?_)
        · refine g_iconst dX7_isAhead_125 ?_
          exact g_iret hq rfl rfl dX7_isAhead_126 (⟨Or.inr ⟨rfl, by omega⟩, rfl⟩)
        · refine g_iconst dX7_isAhead_121 ?_
          refine g_goto 126 dX7_isAhead_122 (by decide) ?_
          exact g_iret hq rfl rfl dX7_isAhead_126 (⟨Or.inl ⟨rfl, by omega⟩, rfl⟩)
      · refine g_aload_n 0 dX7_isAhead_92 rfl rfl ?_
        refine g_getf 0 (.ref (a 9)) fX7_35 om_0 dX7_isAhead_93 rfl ?_
        refine g_iload_n 1 dX7_isAhead_96 rfl rfl ?_
        refine g_lald 9 p am_9 dX7_isAhead_97 rfl (by omega) ?_
        refine g_aload_n 0 dX7_isAhead_98 rfl rfl ?_
        refine g_getf 0 (.ref (a 9)) fX7_35 om_0 dX7_isAhead_99 rfl ?_
        refine g_iload_n 2 dX7_isAhead_102 rfl rfl ?_
        refine g_lald 9 q am_9 dX7_isAhead_103 rfl (by omega) ?_
        refine g_lcmp (cmpz (V 9 p) (V 9 q)) dX7_isAhead_104 (cmpz_j (by omega) (by omega)) ?_
        have hcmp_8 := cmpz_c (V 9 p) (V 9 q)
        refine g_if_ge 112 dX7_isAhead_105 (by decide) (fun c_9 => ?_) (fun c_9 => ?_)
        · refine g_iconst dX7_isAhead_112 ?_
          refine g_goto 126 dX7_isAhead_113 (by decide) ?_
          exact g_iret hq rfl rfl dX7_isAhead_126 (⟨Or.inr ⟨rfl, by omega⟩, rfl⟩)
        · refine g_iconst dX7_isAhead_108 ?_
          refine g_goto 126 dX7_isAhead_109 (by decide) ?_
          exact g_iret hq rfl rfl dX7_isAhead_126 (⟨Or.inl ⟨rfl, by omega⟩, rfl⟩)
    · refine g_aload_n 0 dX7_isAhead_54 rfl rfl ?_
      refine g_getf 0 (.ref (a 8)) fX7_32 om_0 dX7_isAhead_55 rfl ?_
      refine g_iload_n 1 dX7_isAhead_58 rfl rfl ?_
      refine g_lald 8 p am_8 dX7_isAhead_59 rfl (by omega) ?_
      refine g_aload_n 0 dX7_isAhead_60 rfl rfl ?_
      refine g_getf 0 (.ref (a 8)) fX7_32 om_0 dX7_isAhead_61 rfl ?_
      refine g_iload_n 2 dX7_isAhead_64 rfl rfl ?_
      refine g_lald 8 q am_8 dX7_isAhead_65 rfl (by omega) ?_
      refine g_lcmp (cmpz (V 8 p) (V 8 q)) dX7_isAhead_66 (cmpz_j (by omega) (by omega)) ?_
      have hcmp_10 := cmpz_c (V 8 p) (V 8 q)
      refine g_if_ge 74 dX7_isAhead_67 (by decide) (fun c_11 => ?_) (fun c_11 => ?_)
      · refine g_iconst dX7_isAhead_74 ?_
        exact g_iret hq rfl rfl dX7_isAhead_75 (⟨Or.inr ⟨rfl, by omega⟩, rfl⟩)
      · refine g_iconst dX7_isAhead_70 ?_
        refine g_goto 75 dX7_isAhead_71 (by decide) ?_
        exact g_iret hq rfl rfl dX7_isAhead_75 (⟨Or.inl ⟨rfl, by omega⟩, rfl⟩)
  · refine g_aload_n 0 dX7_isAhead_16 rfl rfl ?_
    refine g_getf 0 (.ref (a 10)) fX7_38 om_0 dX7_isAhead_17 rfl ?_
    refine g_iload_n 1 dX7_isAhead_20 rfl rfl ?_
    refine g_lald 10 p am_10 dX7_isAhead_21 rfl (by omega) ?_
    refine g_aload_n 0 dX7_isAhead_22 rfl rfl ?_
    refine g_getf 0 (.ref (a 10)) fX7_38 om_0 dX7_isAhead_23 rfl ?_
    refine g_iload_n 2 dX7_isAhead_26 rfl rfl ?_
    refine g_lald 10 q am_10 dX7_isAhead_27 rfl (by omega) ?_
    refine g_lcmp (cmpz (V 10 p) (V 10 q)) dX7_isAhead_28 (cmpz_j (by omega) (by omega)) ?_
    have hcmp_12 := cmpz_c (V 10 p) (V 10 q)
    refine g_if_ge 36 dX7_isAhead_29 (by decide) (fun c_13 => ?_) (fun c_13 => ?_)
    · refine g_iconst dX7_isAhead_36 ?_
      exact g_iret hq rfl rfl dX7_isAhead_37 (⟨Or.inr ⟨rfl, by omega⟩, rfl⟩)
    · refine g_iconst dX7_isAhead_32 ?_
      refine g_goto 37 dX7_isAhead_33 (by decide) ?_
      exact g_iret hq rfl rfl dX7_isAhead_37 (⟨Or.inl ⟨rfl, by omega⟩, rfl⟩)

theorem shiftM_s15 {U : Mem} {b t n : Nat} (h : t + 1 ≤ n) : up (shiftM U 15 (b + (t + 1)) (b + n)) 15 (b + (t + 1)) (U 15 (b + (t + 1 - 1))) = shiftM U 15 (b + (t + 1 - 1)) (b + n) := by
  have := shiftM_s (V := U) (k := 15) (t := b + t) (n := b + n) (by omega)
  simpa [Nat.add_assoc] using this
set_option maxHeartbeats 4000000 in
/-- line(m) -/
theorem met_X7_line {l : Launch} {D : va_G} {τ : Nat → ClassId} {a : Nat → Nat} (ha : Apart (LM τ) a) {V : Mem} (m np : Nat) (hnp : V 0 10 = (np : Int)) (hok : okR V) (hm : m < 3) (hhm : ∀ k : Nat, (k : Int) < V 0 3 → -1 ≤ V 17 k ∧ V 17 k ≤ 2) (q13 : ∀ k, k < 10 → -1 ≤ V 13 (10 * m + k) ∧ V 13 (10 * m + k) ≤ 120) : CV l D (tysL τ) (LM τ) a yX7_line mX7_line [.ref (a 0), .int (iN (m : Int))] V (fun V' => lnJ V V' m (fun p => decide (V 17 (V 7 p).toNat = (m : Int) ∧ V 13 (10 * m + (V 7 p).toNat) ≠ -1)) np) := by
  refine CV.of (by decide +kernel) rfl (Nat.le_of_ble_eq_true rfl) ha (fun x hq => ?_)
  show G l D (tysL τ) (LM τ) a mX7_line x 0 [(0, .ref (a 0)), (1, .int (iN (m : Int)))] [] V
  obtain ⟨r2, r3, r10, r15, r18, q1, q1k, q2, q3, q4, q5, q6, q7, q7k, q8, q9, q10, q11, q12, q14, qr, qf⟩ := id hok
  refine g_aload_n 0 dX7_line_0 rfl rfl ?_
  refine g_getf 0 (.ref (a 14)) fX7_50 om_0 dX7_line_1 rfl ?_
  refine g_iload_n 1 dX7_line_4 rfl rfl ?_
  refine g_iconst dX7_line_5 ?_
  refine g_iast 14 m am_14 dX7_line_6 rfl (by omega) ?_
  obtain ⟨V_1, eV_1⟩ : ∃ V9 : Mem, V9 = up V 14 m 0 := ⟨_, rfl⟩
  refine g_mem eV_1.symm ?_
  refine g_iconst dX7_line_7 ?_
  refine g_istore_n [(2, .int (iN 0)), (0, .ref (a 0)), (1, .int (iN (m : Int)))] dX7_line_8 rfl (by decide) rfl ?_
  have lp_9 : ∀ (fuel : Nat) (p : Nat) (U : Mem), (p ≤ np) → (lnJ V U m (fun p => decide (V 17 (V 7 p).toNat = (m : Int) ∧ V 13 (10 * m + (V 7 p).toNat) ≠ -1)) p) → (np - p) < fuel → G l D (tysL τ) (LM τ) a mX7_line x 9 [(0, .ref (a 0)), (1, .int (iN (m : Int))), (2, .int (iN (p : Int)))] [] U := by
    intro fuel
    induction fuel with
    | zero => intro p U hp hln hfu; exact absurd hfu (Nat.not_lt_zero _)
    | succ fuel ih_9 =>
      intro p U hp hln hfu
      obtain ⟨j1, j2, j3, j4, j5⟩ := id hln
      have u7 : U 7 = V 7 := j5 7 (by omega) (by omega)
      have u17 : U 17 = V 17 := j5 17 (by omega) (by omega)
      have u13 : U 13 = V 13 := j5 13 (by omega) (by omega)
      have u0 : U 0 = V 0 := j5 0 (by omega) (by omega)
      have u10 : U 10 = V 10 := j5 10 (by omega) (by omega)
      have u8 : U 8 = V 8 := j5 8 (by omega) (by omega)
      have u9 : U 9 = V 9 := j5 9 (by omega) (by omega)
      have hkp := q7 p
      have hkk := q7k p
      have hhm9 := hhm (V 7 p).toNat
      have hnl := nAct_le (act := (fun p => decide (V 17 (V 7 p).toNat = (m : Int) ∧ V 13 (10 * m + (V 7 p).toNat) ≠ -1))) (k := p)
      have hf13 := q13 (V 7 p).toNat
      refine g_iload_n 2 dX7_line_9 rfl rfl ?_
      refine g_aload_n 0 dX7_line_10 rfl rfl ?_
      refine g_getf 0 (.int (iN (U 0 10))) fX7_89 om_0 dX7_line_11 rfl ?_
      refine g_top (show U 0 10 = (np : Int) from by rw [u0]; exact hnp) ?_
      refine g_icmp_ge 134 dX7_line_14 (by decide) (fun c_2 => ?_) (fun c_2 => ?_)
      · exact g_vret hq rfl dX7_line_134 (by rw [← show p = np by omega]; exact hln)
      · refine g_aload_n 0 dX7_line_17 rfl rfl ?_
        refine g_getf 0 (.ref (a 17)) fX7_59 om_0 dX7_line_18 rfl ?_
        refine g_aload_n 0 dX7_line_21 rfl rfl ?_
        refine g_getf 0 (.ref (a 7)) fX7_29 om_0 dX7_line_22 rfl ?_
        refine g_iload_n 2 dX7_line_25 rfl rfl ?_
        refine g_iald 7 p am_7 dX7_line_26 rfl (by omega) ?_
        refine g_top (show U 7 p = (((V 7 p).toNat : Nat) : Int) from by rw [u7]; omega) ?_
        refine g_iald 17 ((V 7 p).toNat) am_17 dX7_line_27 rfl (by omega) ?_
        refine g_top (show U 17 ((V 7 p).toNat) = V 17 (V 7 p).toNat from by rw [u17]) ?_
        refine g_iload_n 1 dX7_line_28 rfl rfl ?_
        refine g_icmp_ne 128 dX7_line_29 (by decide) (fun c_3 => ?_) (fun c_3 => ?_)
        · refine g_iinc 2 [(2, .int (iN ((p : Int) + 1))), (0, .ref (a 0)), (1, .int (iN (m : Int)))] dX7_line_128 rfl (by decide) rfl ?_
          refine g_goto 9 dX7_line_131 (by decide) ?_
          refine g_lv [1, 2, 0] rfl ?_
          exact ih_9 (p + 1) U (by omega) (lnJ_skip hln (by simp only [decide_eq_true_eq]; omega)) (by omega)
        · refine g_aload_n 0 dX7_line_32 rfl rfl ?_
          refine g_getf 0 (.ref (a 13)) fX7_47 om_0 dX7_line_33 rfl ?_
          refine g_bipush dX7_line_36 rfl ?_
          refine g_iload_n 1 dX7_line_38 rfl rfl ?_
          refine g_imul dX7_line_39 ?_
          refine g_aload_n 0 dX7_line_40 rfl rfl ?_
          refine g_getf 0 (.ref (a 7)) fX7_29 om_0 dX7_line_41 rfl ?_
          refine g_iload_n 2 dX7_line_44 rfl rfl ?_
          refine g_iald 7 p am_7 dX7_line_45 rfl (by omega) ?_
          refine g_top (show U 7 p = (((V 7 p).toNat : Nat) : Int) from by rw [u7]; omega) ?_
          refine g_iadd dX7_line_46 ?_
          refine g_iald 13 (10 * m + (V 7 p).toNat) am_13 dX7_line_47 (by omega) (by omega) ?_
          refine g_top (show U 13 (10 * m + (V 7 p).toNat) = V 13 (10 * m + (V 7 p).toNat) from by rw [u13]) ?_
          refine g_iconst dX7_line_48 ?_
          refine g_icmp_ne 55 dX7_line_49 (by decide) (fun c_4 => ?_) (fun c_4 => ?_)
          · have hsel : (fun p => decide (V 17 (V 7 p).toNat = (m : Int) ∧ V 13 (10 * m + (V 7 p).toNat) ≠ -1)) p = true := decide_eq_true ⟨by omega, by omega⟩
            refine g_bipush dX7_line_55 rfl ?_
            refine g_iload_n 1 dX7_line_57 rfl rfl ?_
            refine g_imul dX7_line_58 ?_
            refine g_aload_n 0 dX7_line_59 rfl rfl ?_
            refine g_getf 0 (.ref (a 14)) fX7_50 om_0 dX7_line_60 rfl ?_
            refine g_iload_n 1 dX7_line_63 rfl rfl ?_
            refine g_iald 14 m am_14 dX7_line_64 rfl (by omega) ?_
            refine g_iadd dX7_line_65 ?_
            have jn_111 : ∀ (t : Nat) (U2 : Mem), (t ≤ (nAct (fun p => decide (V 17 (V 7 p).toNat = (m : Int) ∧ V 13 (10 * m + (V 7 p).toNat) ≠ -1)) p)) → (U2 = shiftM U 15 (40 * m + t) (40 * m + (nAct (fun p => decide (V 17 (V 7 p).toNat = (m : Int) ∧ V 13 (10 * m + (V 7 p).toNat) ≠ -1)) p))) → (insP (V 10) (V 8) (V 9) (fun i => U 15 (40 * m + i)) p (nAct (fun p => decide (V 17 (V 7 p).toNat = (m : Int) ∧ V 13 (10 * m + (V 7 p).toNat) ≠ -1)) p) = t) → G l D (tysL τ) (LM τ) a mX7_line x 111 [(0, .ref (a 0)), (1, .int (iN (m : Int))), (2, .int (iN (p : Int))), (3, .int (iN ((40 * m + t : Nat) : Int)))] [] U2 := by
              intro t U2 ht hU2 hfin
              have hrt := lnF_in (h := V 10) (x := V 8) (y := V 9) (sel := (fun p => decide (V 17 (V 7 p).toNat = (m : Int) ∧ V 13 (10 * m + (V 7 p).toNat) ≠ -1))) (p := p) (j := t - 1)
              have hr1 := j2 (t - 1)
              have v10 : U2 10 = V 10 := by rw [hU2, shiftM_ne (by omega)]; exact u10
              have v8 : U2 8 = V 8 := by rw [hU2, shiftM_ne (by omega)]; exact u8
              have v9 : U2 9 = V 9 := by rw [hU2, shiftM_ne (by omega)]; exact u9
              have v14 : U2 14 = U 14 := by rw [hU2, shiftM_ne (by omega)]
              have v15 : U2 15 (40 * m + (t - 1)) = U 15 (40 * m + (t - 1)) := by rw [hU2, shiftM_lo (by omega)]
              refine g_aload_n 0 dX7_line_111 rfl rfl ?_
              refine g_getf 0 (.ref (a 15)) fX7_53 om_0 dX7_line_112 rfl ?_
              refine g_iload_n 3 dX7_line_115 rfl rfl ?_
              refine g_iload_n 2 dX7_line_116 rfl rfl ?_
              refine g_iast 15 (40 * m + t) am_15 dX7_line_117 rfl (by omega) ?_
              obtain ⟨V_5, eV_5⟩ : ∃ V9 : Mem, V9 = up U2 15 (40 * m + t) (p : Int) := ⟨_, rfl⟩
              refine g_mem eV_5.symm ?_
              refine g_aload_n 0 dX7_line_118 rfl rfl ?_
              refine g_getf 0 (.ref (a 14)) fX7_50 om_0 dX7_line_119 rfl ?_
              refine g_iload_n 1 dX7_line_122 rfl rfl ?_
              refine g_dup2 dX7_line_123 rfl rfl ?_
              refine g_iald 14 m am_14 dX7_line_124 rfl (by omega) ?_
              refine g_top (show _ = U2 14 m from by rw [eV_5, up_ne (by omega)]) ?_
              refine g_top (show U2 14 m = ((nAct (fun p => decide (V 17 (V 7 p).toNat = (m : Int) ∧ V 13 (10 * m + (V 7 p).toNat) ≠ -1)) p) : Int) from by rw [v14]; exact j1) ?_
              refine g_iconst dX7_line_125 ?_
              refine g_iadd dX7_line_126 ?_
              refine g_iast 14 m am_14 dX7_line_127 rfl (by omega) ?_
              obtain ⟨V_6, eV_6⟩ : ∃ V9 : Mem, V9 = up V_5 14 m (((nAct (fun p => decide (V 17 (V 7 p).toNat = (m : Int) ∧ V 13 (10 * m + (V 7 p).toNat) ≠ -1)) p) : Int) + 1) := ⟨_, rfl⟩
              refine g_mem eV_6.symm ?_
              refine g_iinc 2 [(2, .int (iN ((p : Int) + 1))), (0, .ref (a 0)), (1, .int (iN (m : Int))), (3, .int (iN ((40 * m + t : Nat) : Int)))] dX7_line_128 rfl (by decide) rfl ?_
              refine g_goto 9 dX7_line_131 (by decide) ?_
              refine g_lv [1, 2, 0] rfl ?_
              exact ih_9 (p + 1) V_6 (by omega) (by rw [eV_6, eV_5, hU2, ← hfin]; exact lnJ_add hln hsel rfl (by omega)) (by omega)
            refine g_istore_n [(3, .int (iN ((40 * (m : Int)) + (U 14 m)))), (0, .ref (a 0)), (1, .int (iN (m : Int))), (2, .int (iN (p : Int)))] dX7_line_66 rfl (by decide) rfl ?_
            refine g_lve (show ([(3, .int (iN ((40 * (m : Int)) + (U 14 m)))), (0, .ref (a 0)), (1, .int (iN (m : Int))), (2, .int (iN (p : Int)))] : List (Nat × Value)) = ([(3, .int (iN ((40 * m + (nAct (fun p => decide (V 17 (V 7 p).toNat = (m : Int) ∧ V 13 (10 * m + (V 7 p).toNat) ≠ -1)) p) : Nat) : Int))), (0, .ref (a 0)), (1, .int (iN (m : Int))), (2, .int (iN (p : Int)))] : List (Nat × Value)) from by rw [show (40 * (m : Int)) + (U 14 m) = ((40 * m + (nAct (fun p => decide (V 17 (V 7 p).toNat = (m : Int) ∧ V 13 (10 * m + (V 7 p).toNat) ≠ -1)) p) : Nat) : Int) from by rw [j1]; omega]) ?_
            have lp_67 : ∀ (fuel : Nat) (t : Nat) (U2 : Mem), (t ≤ (nAct (fun p => decide (V 17 (V 7 p).toNat = (m : Int) ∧ V 13 (10 * m + (V 7 p).toNat) ≠ -1)) p)) → (U2 = shiftM U 15 (40 * m + t) (40 * m + (nAct (fun p => decide (V 17 (V 7 p).toNat = (m : Int) ∧ V 13 (10 * m + (V 7 p).toNat) ≠ -1)) p))) → (insP (V 10) (V 8) (V 9) (fun i => U 15 (40 * m + i)) p (nAct (fun p => decide (V 17 (V 7 p).toNat = (m : Int) ∧ V 13 (10 * m + (V 7 p).toNat) ≠ -1)) p) = insP (V 10) (V 8) (V 9) (fun i => U 15 (40 * m + i)) p t) → (t) < fuel → G l D (tysL τ) (LM τ) a mX7_line x 67 [(0, .ref (a 0)), (1, .int (iN (m : Int))), (2, .int (iN (p : Int))), (3, .int (iN ((40 * m + t : Nat) : Int)))] [] U2 := by
              intro fuel
              induction fuel with
              | zero => intro t U2 ht hU2 hfi hfu; exact absurd hfu (Nat.not_lt_zero _)
              | succ fuel ih_67 =>
                intro t U2 ht hU2 hfi hfu
                have hrt := lnF_in (h := V 10) (x := V 8) (y := V 9) (sel := (fun p => decide (V 17 (V 7 p).toNat = (m : Int) ∧ V 13 (10 * m + (V 7 p).toNat) ≠ -1))) (p := p) (j := t - 1)
                have hr1 := j2 (t - 1)
                have v10 : U2 10 = V 10 := by rw [hU2, shiftM_ne (by omega)]; exact u10
                have v8 : U2 8 = V 8 := by rw [hU2, shiftM_ne (by omega)]; exact u8
                have v9 : U2 9 = V 9 := by rw [hU2, shiftM_ne (by omega)]; exact u9
                have v14 : U2 14 = U 14 := by rw [hU2, shiftM_ne (by omega)]
                have v15 : U2 15 (40 * m + (t - 1)) = U 15 (40 * m + (t - 1)) := by rw [hU2, shiftM_lo (by omega)]
                refine g_iload_n 3 dX7_line_67 rfl rfl ?_
                refine g_bipush dX7_line_68 rfl ?_
                refine g_iload_n 1 dX7_line_70 rfl rfl ?_
                refine g_imul dX7_line_71 ?_
                refine g_icmp_le 111 dX7_line_72 (by decide) (fun c_7 => ?_) (fun c_7 => ?_)
                · exact jn_111 t U2 ht hU2 (by
                      rcases Nat.eq_zero_or_pos t with e0 | e0
                      · rw [hfi, e0]; rfl
                      · first | omega | (obtain ⟨t, rfl⟩ : ∃ q, t = q + 1 := ⟨t - 1, by omega⟩; rw [hfi]; exact insP_f h))
                · refine g_aload_n 0 dX7_line_75 rfl rfl ?_
                  refine g_iload_n 2 dX7_line_76 rfl rfl ?_
                  refine g_aload_n 0 dX7_line_77 rfl rfl ?_
                  refine g_getf 0 (.ref (a 15)) fX7_53 om_0 dX7_line_78 rfl ?_
                  refine g_iload_n 3 dX7_line_81 rfl rfl ?_
                  refine g_iconst dX7_line_82 ?_
                  refine g_isub dX7_line_83 ?_
                  refine g_iald 15 (40 * m + (t - 1)) am_15 dX7_line_84 (by omega) (by omega) ?_
                  refine g_top (show U2 15 (40 * m + (t - 1)) = (((U 15 (40 * m + (t - 1))).toNat : Nat) : Int) from by rw [v15]; omega) ?_
                  refine g_callI (k := 0) [.int (iN (p : Int)), .int (iN (((U 15 (40 * m + (t - 1))).toNat : Nat) : Int))] (met_X7_isAhead (V := U2) ha p (U 15 (40 * m + (t - 1))).toNat (by omega) (by omega) (by rw [v10]; exact q10) (by rw [v8]; exact q8) (by rw [v9]; exact q9)) vX7_139 om_0 rfl rfl ⟨rfl, rfl, Nat.le_of_ble_eq_true rfl, Nat.le_of_ble_eq_true rfl⟩ rfl (Nat.le_of_ble_eq_true rfl) dX7_line_85 rfl ?_
                  rintro z9 V9 ⟨hp9, hV9⟩
                  replace hV9 := hV9.symm
                  subst hV9
                  rw [v10, v8, v9] at hp9
                  rcases hp9 with ⟨hz9, b_8⟩ | ⟨hz9, b_8⟩
                  · subst hz9
                    refine g_if_eq 111 dX7_line_88 (by decide) (fun c_9 => absurd c_9 (by decide)) (fun _ => ?_)
                    refine g_aload_n 0 dX7_line_91 rfl rfl ?_
                    refine g_getf 0 (.ref (a 15)) fX7_53 om_0 dX7_line_92 rfl ?_
                    refine g_iload_n 3 dX7_line_95 rfl rfl ?_
                    refine g_aload_n 0 dX7_line_96 rfl rfl ?_
                    refine g_getf 0 (.ref (a 15)) fX7_53 om_0 dX7_line_97 rfl ?_
                    refine g_iload_n 3 dX7_line_100 rfl rfl ?_
                    refine g_iconst dX7_line_101 ?_
                    refine g_isub dX7_line_102 ?_
                    refine g_iald 15 (40 * m + (t - 1)) am_15 dX7_line_103 (by omega) (by omega) ?_
                    refine g_top (show U2 15 (40 * m + (t - 1)) = U 15 (40 * m + (t - 1)) from v15) ?_
                    refine g_iast 15 (40 * m + t) am_15 dX7_line_104 rfl (by omega) ?_
                    obtain ⟨V_10, eV_10⟩ : ∃ V9 : Mem, V9 = up U2 15 (40 * m + t) (U 15 (40 * m + (t - 1))) := ⟨_, rfl⟩
                    refine g_mem eV_10.symm ?_
                    refine g_iinc 3 [(3, .int (iN (((40 * m + t : Nat) : Int) + (-1)))), (0, .ref (a 0)), (1, .int (iN (m : Int))), (2, .int (iN (p : Int)))] dX7_line_105 rfl (by decide) rfl ?_
                    refine g_goto 67 dX7_line_108 (by decide) ?_
                    refine g_lve (show ([(3, .int (iN (((40 * m + t : Nat) : Int) + (-1)))), (0, .ref (a 0)), (1, .int (iN (m : Int))), (2, .int (iN (p : Int)))] : List (Nat × Value)) = ([(3, .int (iN ((40 * m + (t - 1) : Nat) : Int))), (0, .ref (a 0)), (1, .int (iN (m : Int))), (2, .int (iN (p : Int)))] : List (Nat × Value)) from by rw [show ((40 * m + t : Nat) : Int) + (-1) = ((40 * m + (t - 1) : Nat) : Int) from by omega]) ?_
                    refine g_lv [1, 2, 3, 0] rfl ?_
                    exact ih_67 (t - 1) V_10 (by omega) (by rw [eV_10, hU2]; obtain ⟨t, rfl⟩ : ∃ q, t = q + 1 := ⟨t - 1, by omega⟩; exact shiftM_s15 (by omega)) (by rw [hfi]; obtain ⟨t, rfl⟩ : ∃ q, t = q + 1 := ⟨t - 1, by omega⟩; exact insP_t b_8) (by omega)
                  · subst hz9
                    refine g_if_eq 111 dX7_line_88 (by decide) (fun _ => ?_) (fun c_11 => absurd c_11 (by decide))
                    exact jn_111 t U2 ht hU2 (by
                        rcases Nat.eq_zero_or_pos t with e0 | e0
                        · rw [hfi, e0]; rfl
                        · first | omega | (obtain ⟨t, rfl⟩ : ∃ q, t = q + 1 := ⟨t - 1, by omega⟩; rw [hfi]; exact insP_f b_8))
            refine g_lv [1, 2, 3, 0] rfl ?_
            exact lp_67 _ (nAct (fun p => decide (V 17 (V 7 p).toNat = (m : Int) ∧ V 13 (10 * m + (V 7 p).toNat) ≠ -1)) p) U (Nat.le_refl _) shiftM_n.symm rfl (Nat.lt_succ_self _)
          · refine g_goto 128 dX7_line_52 (by decide) ?_
            refine g_iinc 2 [(2, .int (iN ((p : Int) + 1))), (0, .ref (a 0)), (1, .int (iN (m : Int)))] dX7_line_128 rfl (by decide) rfl ?_
            refine g_goto 9 dX7_line_131 (by decide) ?_
            refine g_lv [1, 2, 0] rfl ?_
            exact ih_9 (p + 1) U (by omega) (lnJ_skip hln (by simp only [decide_eq_true_eq]; omega)) (by omega)
  refine g_lv [1, 2, 0] rfl ?_
  exact lp_9 _ 0 V_1 (by omega) (by rw [eV_1]; exact lnJ_0) (Nat.lt_succ_self _)
