/-- what holds of the reference's memory between calls -/
def okR (W : Mem) : Prop :=
  (1 ≤ W 0 2 ∧ W 0 2 ≤ 120) ∧ (0 ≤ W 0 3 ∧ W 0 3 ≤ 10) ∧ (0 ≤ W 0 10 ∧ W 0 10 ≤ 40) ∧ (0 ≤ W 0 15 ∧ W 0 15 ≤ 3) ∧ (0 ≤ W 0 18 ∧ W 0 18 ≤ W 0 15) ∧
  (∀ k, k < 10 → 0 ≤ W 1 k ∧ W 1 k ≤ 4) ∧ (∀ k : Nat, (k : Int) < W 0 3 → 1 ≤ W 1 k) ∧ (∀ k, k < 10 → 0 ≤ W 2 k ∧ W 2 k ≤ 7) ∧ (∀ k, k < 10 → -1 ≤ W 3 k ∧ W 3 k ≤ 120) ∧ (∀ k, k < 10 → 0 ≤ W 4 k ∧ W 4 k ≤ 2147483647) ∧
  (∀ k : Nat, (k : Int) < W 0 3 → 0 ≤ W 5 k ∧ W 5 k < W 6 k) ∧ (∀ k : Nat, (k : Int) < W 0 3 → 1 ≤ W 6 k ∧ W 6 k ≤ 1000) ∧
  (∀ p, p < 40 → 0 ≤ W 7 p ∧ W 7 p < 10) ∧ (∀ p : Nat, (p : Int) < W 0 10 → W 7 p < W 0 3) ∧ (∀ p, p < 40 → 0 ≤ W 8 p ∧ W 8 p ≤ 100000) ∧ (∀ p, p < 40 → 0 ≤ W 9 p ∧ W 9 p ≤ 100000) ∧ (∀ p, p < 40 → 0 ≤ W 10 p ∧ W 10 p ≤ 10000) ∧
  (∀ m, m < 3 → 0 ≤ W 11 m ∧ W 11 m ≤ 255) ∧ (∀ m : Nat, (m : Int) < W 0 15 → 1 ≤ W 12 m ∧ W 12 m ≤ 6) ∧ (∀ m, m < 3 → 0 ≤ W 14 m ∧ W 14 m ≤ 40) ∧
  (∀ m, m < 3 → ∀ i : Nat, (i : Int) < W 14 m → 0 ≤ W 15 (40 * m + i) ∧ W 15 (40 * m + i) < W 0 10) ∧ (∀ m, m < 3 → ∀ k, k < 10 → -1 ≤ W 13 (10 * m + k) ∧ W 13 (10 * m + k) ≤ 120)
theorem okR_thr {W : Mem} (t : Int) (h : okR W) : okR (up W 0 0 t) := by
  unfold okR
  rw [up_ne (by omega), up_ne (by omega), up_ne (by omega), up_ne (by omega), up_ne (by omega), up_ne1 (c := 1) (by omega), up_ne1 (c := 2) (by omega), up_ne1 (c := 3) (by omega), up_ne1 (c := 4) (by omega), up_ne1 (c := 5) (by omega), up_ne1 (c := 6) (by omega), up_ne1 (c := 7) (by omega), up_ne1 (c := 8) (by omega), up_ne1 (c := 9) (by omega), up_ne1 (c := 10) (by omega), up_ne1 (c := 11) (by omega), up_ne1 (c := 12) (by omega), up_ne1 (c := 13) (by omega), up_ne1 (c := 14) (by omega), up_ne1 (c := 15) (by omega)]
  exact h
set_option maxHeartbeats 4000000 in
/-- thrown() -/
theorem met_X7_thrown {l : Launch} {D : va_G} {τ : Nat → ClassId} {a : Nat → Nat} (ha : Apart (LM τ) a) {V : Mem}   : CI l D (tysL τ) (LM τ) a yX7_thrown mX7_thrown [.ref (a 0)] V (fun z V' => z = V 0 0 ∧ V' = V) := by
  refine CI.of (by decide +kernel) rfl (Nat.le_of_ble_eq_true rfl) ha (fun x hq => ?_)
  show G l D (tysL τ) (LM τ) a mX7_thrown x 0 [(0, .ref (a 0))] [] V
  refine g_aload_n 0 dX7_thrown_0 rfl rfl ?_
  refine g_getf 0 (.int (iN (V 0 0))) fX7_83 om_0 dX7_thrown_1 rfl ?_
  exact g_iret hq rfl rfl dX7_thrown_4 (⟨rfl, rfl⟩)

set_option maxHeartbeats 4000000 in
/-- isKind(k) -/
theorem met_X7_isKind {l : Launch} {D : va_G} {τ : Nat → ClassId} {a : Nat → Nat} (ha : Apart (LM τ) a) {V : Mem} (k : Int) (hok : okR V) (hk : -2147483648 ≤ k ∧ k ≤ 2147483647) : CI l D (tysL τ) (LM τ) a yX7_isKind mX7_isKind [.ref (a 0), .int (iN k)] V (fun z V' => ((z = 1 ∧ (0 ≤ k ∧ k < V 0 3)) ∨ (z = 0 ∧ ¬ (0 ≤ k ∧ k < V 0 3))) ∧ V' = V) := by
  refine CI.of (by decide +kernel) rfl (Nat.le_of_ble_eq_true rfl) ha (fun x hq => ?_)
  show G l D (tysL τ) (LM τ) a mX7_isKind x 0 [(0, .ref (a 0)), (1, .int (iN k))] [] V
  obtain ⟨r2, r3, r10, r15, r18, q1, q1k, q2, q3, q4, q5, q6, q7, q7k, q8, q9, q10, q11, q12, q14, qr, qf⟩ := id hok
  refine g_iload_n 1 dX7_isKind_0 rfl rfl ?_
  refine g_if_lt 16 dX7_isKind_1 (by decide) (fun c_1 => ?_) (fun c_1 => ?_)
  · refine g_iconst dX7_isKind_16 ?_
    exact g_iret hq rfl rfl dX7_isKind_17 (⟨Or.inr ⟨rfl, by omega⟩, rfl⟩)
  · refine g_iload_n 1 dX7_isKind_4 rfl rfl ?_
    refine g_aload_n 0 dX7_isKind_5 rfl rfl ?_
    refine g_getf 0 (.int (iN (V 0 3))) fX7_86 om_0 dX7_isKind_6 rfl ?_
    refine g_icmp_ge 16 dX7_isKind_9 (by decide) (fun c_2 => ?_) (fun c_2 => ?_)
    · refine g_iconst dX7_isKind_16 ?_
      exact g_iret hq rfl rfl dX7_isKind_17 (⟨Or.inr ⟨rfl, by omega⟩, rfl⟩)
    · refine g_iconst dX7_isKind_12 ?_
      refine g_goto 17 dX7_isKind_13 (by decide) ?_
      exact g_iret hq rfl rfl dX7_isKind_17 (⟨Or.inl ⟨rfl, by omega⟩, rfl⟩)

set_option maxHeartbeats 4000000 in
/-- isPart(p) -/
theorem met_X7_isPart {l : Launch} {D : va_G} {τ : Nat → ClassId} {a : Nat → Nat} (ha : Apart (LM τ) a) {V : Mem} (p : Int) (hok : okR V) (hp : -2147483648 ≤ p ∧ p ≤ 2147483647) : CI l D (tysL τ) (LM τ) a yX7_isPart mX7_isPart [.ref (a 0), .int (iN p)] V (fun z V' => ((z = 1 ∧ (0 ≤ p ∧ p < V 0 10)) ∨ (z = 0 ∧ ¬ (0 ≤ p ∧ p < V 0 10))) ∧ V' = V) := by
  refine CI.of (by decide +kernel) rfl (Nat.le_of_ble_eq_true rfl) ha (fun x hq => ?_)
  show G l D (tysL τ) (LM τ) a mX7_isPart x 0 [(0, .ref (a 0)), (1, .int (iN p))] [] V
  obtain ⟨r2, r3, r10, r15, r18, q1, q1k, q2, q3, q4, q5, q6, q7, q7k, q8, q9, q10, q11, q12, q14, qr, qf⟩ := id hok
  refine g_iload_n 1 dX7_isPart_0 rfl rfl ?_
  refine g_if_lt 16 dX7_isPart_1 (by decide) (fun c_1 => ?_) (fun c_1 => ?_)
  · refine g_iconst dX7_isPart_16 ?_
    exact g_iret hq rfl rfl dX7_isPart_17 (⟨Or.inr ⟨rfl, by omega⟩, rfl⟩)
  · refine g_iload_n 1 dX7_isPart_4 rfl rfl ?_
    refine g_aload_n 0 dX7_isPart_5 rfl rfl ?_
    refine g_getf 0 (.int (iN (V 0 10))) fX7_89 om_0 dX7_isPart_6 rfl ?_
    refine g_icmp_ge 16 dX7_isPart_9 (by decide) (fun c_2 => ?_) (fun c_2 => ?_)
    · refine g_iconst dX7_isPart_16 ?_
      exact g_iret hq rfl rfl dX7_isPart_17 (⟨Or.inr ⟨rfl, by omega⟩, rfl⟩)
    · refine g_iconst dX7_isPart_12 ?_
      refine g_goto 17 dX7_isPart_13 (by decide) ?_
      exact g_iret hq rfl rfl dX7_isPart_17 (⟨Or.inl ⟨rfl, by omega⟩, rfl⟩)

set_option maxHeartbeats 4000000 in
/-- isMachine(m) -/
theorem met_X7_isMachine {l : Launch} {D : va_G} {τ : Nat → ClassId} {a : Nat → Nat} (ha : Apart (LM τ) a) {V : Mem} (m : Int) (hok : okR V) (hm : -2147483648 ≤ m ∧ m ≤ 2147483647) : CI l D (tysL τ) (LM τ) a yX7_isMachine mX7_isMachine [.ref (a 0), .int (iN m)] V (fun z V' => ((z = 1 ∧ (0 ≤ m ∧ m < V 0 15)) ∨ (z = 0 ∧ ¬ (0 ≤ m ∧ m < V 0 15))) ∧ V' = V) := by
  refine CI.of (by decide +kernel) rfl (Nat.le_of_ble_eq_true rfl) ha (fun x hq => ?_)
  show G l D (tysL τ) (LM τ) a mX7_isMachine x 0 [(0, .ref (a 0)), (1, .int (iN m))] [] V
  obtain ⟨r2, r3, r10, r15, r18, q1, q1k, q2, q3, q4, q5, q6, q7, q7k, q8, q9, q10, q11, q12, q14, qr, qf⟩ := id hok
  refine g_iload_n 1 dX7_isMachine_0 rfl rfl ?_
  refine g_if_lt 16 dX7_isMachine_1 (by decide) (fun c_1 => ?_) (fun c_1 => ?_)
  · refine g_iconst dX7_isMachine_16 ?_
    exact g_iret hq rfl rfl dX7_isMachine_17 (⟨Or.inr ⟨rfl, by omega⟩, rfl⟩)
  · refine g_iload_n 1 dX7_isMachine_4 rfl rfl ?_
    refine g_aload_n 0 dX7_isMachine_5 rfl rfl ?_
    refine g_getf 0 (.int (iN (V 0 15))) fX7_92 om_0 dX7_isMachine_6 rfl ?_
    refine g_icmp_ge 16 dX7_isMachine_9 (by decide) (fun c_2 => ?_) (fun c_2 => ?_)
    · refine g_iconst dX7_isMachine_16 ?_
      exact g_iret hq rfl rfl dX7_isMachine_17 (⟨Or.inr ⟨rfl, by omega⟩, rfl⟩)
    · refine g_iconst dX7_isMachine_12 ?_
      refine g_goto 17 dX7_isMachine_13 (by decide) ?_
      exact g_iret hq rfl rfl dX7_isMachine_17 (⟨Or.inl ⟨rfl, by omega⟩, rfl⟩)

set_option maxHeartbeats 4000000 in
/-- isSpot(v) -/
theorem met_X7_isSpot {l : Launch} {D : va_G} {τ : Nat → ClassId} {a : Nat → Nat} (ha : Apart (LM τ) a) {V : Mem} (v : Int) (hv : -9223372036854775808 ≤ v ∧ v ≤ 9223372036854775807) : CI l D (tysL τ) (LM τ) a yX7_isSpot mX7_isSpot [.long (jN v)] V (fun z V' => ((z = 1 ∧ (0 ≤ v ∧ v ≤ 100000)) ∨ (z = 0 ∧ ¬ (0 ≤ v ∧ v ≤ 100000))) ∧ V' = V) := by
  refine CI.of (by decide +kernel) rfl (Nat.le_of_ble_eq_true rfl) ha (fun x hq => ?_)
  show G l D (tysL τ) (LM τ) a mX7_isSpot x 0 [(0, .long (jN v))] [] V
  refine g_lload_n 0 dX7_isSpot_0 rfl rfl ?_
  refine g_lconst 0 dX7_isSpot_1 rfl ?_
  refine g_lcmp (cmpz v 0) dX7_isSpot_2 (cmpz_j (by omega) (by omega)) ?_
  have hcmp_1 := cmpz_c v 0
  refine g_if_lt 18 dX7_isSpot_3 (by decide) (fun c_2 => ?_) (fun c_2 => ?_)
  · refine g_iconst dX7_isSpot_18 ?_
    exact g_iret hq rfl rfl dX7_isSpot_19 (⟨Or.inr ⟨rfl, by omega⟩, rfl⟩)
  · refine g_lload_n 0 dX7_isSpot_6 rfl rfl ?_
    refine g_ldc2 100000 kX7_95 rfl dX7_isSpot_7 ?_
    refine g_lcmp (cmpz v 100000) dX7_isSpot_10 (cmpz_j (by omega) (by omega)) ?_
    have hcmp_3 := cmpz_c v 100000
    refine g_if_gt 18 dX7_isSpot_11 (by decide) (fun c_4 => ?_) (fun c_4 => ?_)
    · refine g_iconst dX7_isSpot_18 ?_
      exact g_iret hq rfl rfl dX7_isSpot_19 (⟨Or.inr ⟨rfl, by omega⟩, rfl⟩)
    · refine g_iconst dX7_isSpot_14 ?_
      refine g_goto 19 dX7_isSpot_15 (by decide) ?_
      exact g_iret hq rfl rfl dX7_isSpot_19 (⟨Or.inl ⟨rfl, by omega⟩, rfl⟩)

set_option maxHeartbeats 4000000 in
/-- kind(w, z) -/
theorem met_X7_kind {l : Launch} {D : va_G} {τ : Nat → ClassId} {a : Nat → Nat} (ha : Apart (LM τ) a) {V : Mem} (w0 z0 : Int) (hok : okR V) (hw : 1 ≤ w0 ∧ w0 ≤ 4) (hz : 0 ≤ z0 ∧ z0 ≤ 7) : CI l D (tysL τ) (LM τ) a yX7_kind mX7_kind [.ref (a 0), .int (iN w0), .int (iN z0)] V (fun z V' => (V 0 3 = 10 ∧ z = -1 ∧ V' = up V 0 0 0) ∨ (V 0 3 < 10 ∧ z = V 0 3 ∧ V' = up (up (up (up (up (up V 0 0 0) 1 (V 0 3).toNat w0) 2 (V 0 3).toNat z0) 3 (V 0 3).toNat (-1)) 6 (V 0 3).toNat 1) 0 3 (V 0 3 + 1))) := by
  refine CI.of (by decide +kernel) rfl (Nat.le_of_ble_eq_true rfl) ha (fun x hq => ?_)
  show G l D (tysL τ) (LM τ) a mX7_kind x 0 [(0, .ref (a 0)), (1, .int (iN w0)), (2, .int (iN z0))] [] V
  obtain ⟨r2, r3, r10, r15, r18, q1, q1k, q2, q3, q4, q5, q6, q7, q7k, q8, q9, q10, q11, q12, q14, qr, qf⟩ := id hok
  refine g_aload_n 0 dX7_kind_0 rfl rfl ?_
  refine g_iload_n 1 dX7_kind_1 rfl rfl ?_
  refine g_iconst dX7_kind_2 ?_
  refine g_icmp_lt 25 dX7_kind_3 (by decide) (fun c_1 => ?_) (fun c_1 => ?_)
  · omega
  · refine g_iload_n 1 dX7_kind_6 rfl rfl ?_
    refine g_iconst dX7_kind_7 ?_
    refine g_icmp_gt 25 dX7_kind_8 (by decide) (fun c_2 => ?_) (fun c_2 => ?_)
    · omega
    · refine g_iload_n 2 dX7_kind_11 rfl rfl ?_
      refine g_if_lt 25 dX7_kind_12 (by decide) (fun c_3 => ?_) (fun c_3 => ?_)
      · omega
      · refine g_iload_n 2 dX7_kind_15 rfl rfl ?_
        refine g_bipush dX7_kind_16 rfl ?_
        refine g_icmp_ge 25 dX7_kind_18 (by decide) (fun c_4 => ?_) (fun c_4 => ?_)
        · omega
        · refine g_iconst dX7_kind_21 ?_
          refine g_goto 26 dX7_kind_22 (by decide) ?_
          refine g_putf 0 (v := 0) (.int (iN 0)) pX7_83 om_0 dX7_kind_26 rfl rfl (Nat.le_of_ble_eq_true rfl) rfl ?_
          obtain ⟨V_5, eV_5⟩ : ∃ V9 : Mem, V9 = up V 0 0 0 := ⟨_, rfl⟩
          refine g_mem eV_5.symm ?_
          refine g_aload_n 0 dX7_kind_29 rfl rfl ?_
          refine g_getf 0 (.int (iN (V_5 0 0))) fX7_83 om_0 dX7_kind_30 rfl ?_
          refine g_top (show _ = 0 from by rw [eV_5, up_eq]) ?_
          refine g_if_eq 38 dX7_kind_33 (by decide) (fun _ => ?_) (fun c_6 => absurd c_6 (by decide))
          refine g_aload_n 0 dX7_kind_38 rfl rfl ?_
          refine g_getf 0 (.int (iN (V_5 0 3))) fX7_86 om_0 dX7_kind_39 rfl ?_
          refine g_top (show _ = V 0 3 from by rw [eV_5, up_ne (by omega)]) ?_
          refine g_bipush dX7_kind_42 rfl ?_
          refine g_icmp_ne 49 dX7_kind_44 (by decide) (fun c_7 => ?_) (fun c_7 => ?_)
          · refine g_aload_n 0 dX7_kind_49 rfl rfl ?_
            refine g_getf 0 (.ref (a 1)) fX7_7 om_0 dX7_kind_50 rfl ?_
            refine g_aload_n 0 dX7_kind_53 rfl rfl ?_
            refine g_getf 0 (.int (iN (V_5 0 3))) fX7_86 om_0 dX7_kind_54 rfl ?_
            refine g_top (show _ = V 0 3 from by rw [eV_5, up_ne (by omega)]) ?_
            refine g_iload_n 1 dX7_kind_57 rfl rfl ?_
            refine g_iast 1 ((V 0 3).toNat) am_1 dX7_kind_58 (by omega) (by omega) ?_
            obtain ⟨V_8, eV_8⟩ : ∃ V9 : Mem, V9 = up V_5 1 ((V 0 3).toNat) w0 := ⟨_, rfl⟩
            refine g_mem eV_8.symm ?_
            refine g_aload_n 0 dX7_kind_59 rfl rfl ?_
            refine g_getf 0 (.ref (a 2)) fX7_13 om_0 dX7_kind_60 rfl ?_
            refine g_aload_n 0 dX7_kind_63 rfl rfl ?_
            refine g_getf 0 (.int (iN (V_8 0 3))) fX7_86 om_0 dX7_kind_64 rfl ?_
            refine g_top (show _ = V 0 3 from by rw [eV_8, up_ne (by omega), eV_5, up_ne (by omega)]) ?_
            refine g_iload_n 2 dX7_kind_67 rfl rfl ?_
            refine g_iast 2 ((V 0 3).toNat) am_2 dX7_kind_68 (by omega) (by omega) ?_
            obtain ⟨V_9, eV_9⟩ : ∃ V9 : Mem, V9 = up V_8 2 ((V 0 3).toNat) z0 := ⟨_, rfl⟩
            refine g_mem eV_9.symm ?_
            refine g_aload_n 0 dX7_kind_69 rfl rfl ?_
            refine g_getf 0 (.ref (a 3)) fX7_16 om_0 dX7_kind_70 rfl ?_
            refine g_aload_n 0 dX7_kind_73 rfl rfl ?_
            refine g_getf 0 (.int (iN (V_9 0 3))) fX7_86 om_0 dX7_kind_74 rfl ?_
            refine g_top (show _ = V 0 3 from by rw [eV_9, up_ne (by omega), eV_8, up_ne (by omega), eV_5, up_ne (by omega)]) ?_
            refine g_iconst dX7_kind_77 ?_
            refine g_iast 3 ((V 0 3).toNat) am_3 dX7_kind_78 (by omega) (by omega) ?_
            obtain ⟨V_10, eV_10⟩ : ∃ V9 : Mem, V9 = up V_9 3 ((V 0 3).toNat) (-1) := ⟨_, rfl⟩
            refine g_mem eV_10.symm ?_
            refine g_aload_n 0 dX7_kind_79 rfl rfl ?_
            refine g_getf 0 (.ref (a 6)) fX7_26 om_0 dX7_kind_80 rfl ?_
            refine g_aload_n 0 dX7_kind_83 rfl rfl ?_
            refine g_getf 0 (.int (iN (V_10 0 3))) fX7_86 om_0 dX7_kind_84 rfl ?_
            refine g_top (show _ = V 0 3 from by rw [eV_10, up_ne (by omega), eV_9, up_ne (by omega), eV_8, up_ne (by omega), eV_5, up_ne (by omega)]) ?_
            refine g_lconst 1 dX7_kind_87 rfl ?_
            refine g_last 6 ((V 0 3).toNat) am_6 dX7_kind_88 (by omega) (by omega) ?_
            obtain ⟨V_11, eV_11⟩ : ∃ V9 : Mem, V9 = up V_10 6 ((V 0 3).toNat) 1 := ⟨_, rfl⟩
            refine g_mem eV_11.symm ?_
            refine g_aload_n 0 dX7_kind_89 rfl rfl ?_
            refine g_dup dX7_kind_90 rfl ?_
            refine g_getf 0 (.int (iN (V_11 0 3))) fX7_86 om_0 dX7_kind_91 rfl ?_
            refine g_top (show _ = V 0 3 from by rw [eV_11, up_ne (by omega), eV_10, up_ne (by omega), eV_9, up_ne (by omega), eV_8, up_ne (by omega), eV_5, up_ne (by omega)]) ?_
            refine g_iconst dX7_kind_94 ?_
            refine g_iadd dX7_kind_95 ?_
            refine g_putf 0 (v := (V 0 3) + 1) (.int (iN ((V 0 3) + 1))) pX7_86 om_0 dX7_kind_96 rfl rfl (Nat.le_of_ble_eq_true rfl) rfl ?_
            obtain ⟨V_12, eV_12⟩ : ∃ V9 : Mem, V9 = up V_11 0 3 ((V 0 3) + 1) := ⟨_, rfl⟩
            refine g_mem eV_12.symm ?_
            refine g_aload_n 0 dX7_kind_99 rfl rfl ?_
            refine g_getf 0 (.int (iN (V_12 0 3))) fX7_86 om_0 dX7_kind_100 rfl ?_
            refine g_top (show _ = (V 0 3) + 1 from by rw [eV_12, up_eq]) ?_
            refine g_iconst dX7_kind_103 ?_
            refine g_isub dX7_kind_104 ?_
            exact g_iret hq rfl rfl dX7_kind_105 (Or.inr ⟨by omega, by omega, by rw [eV_12, eV_11, eV_10, eV_9, eV_8, eV_5]⟩)
          · refine g_iconst dX7_kind_47 ?_
            exact g_iret hq rfl rfl dX7_kind_48 (Or.inl ⟨by omega, rfl, by rw [eV_5]⟩)

set_option maxHeartbeats 4000000 in
theorem met_X7_kind_b1 {l : Launch} {D : va_G} {τ : Nat → ClassId} {a : Nat → Nat} (ha : Apart (LM τ) a) {V : Mem} (w0 z0 : Int) (hok : okR V) (hw0 : -2147483648 ≤ w0 ∧ w0 ≤ 2147483647) (hz0 : -2147483648 ≤ z0 ∧ z0 ≤ 2147483647) (hb : ¬ (1 ≤ w0 ∧ w0 ≤ 4 ∧ 0 ≤ z0 ∧ z0 ≤ 7)) : CI l D (tysL τ) (LM τ) a yX7_kind mX7_kind [.ref (a 0), .int (iN w0), .int (iN z0)] V (fun z V' => V' = up V 0 0 1) := by
  refine CI.of (by decide +kernel) rfl (Nat.le_of_ble_eq_true rfl) ha (fun x hq => ?_)
  show G l D (tysL τ) (LM τ) a mX7_kind x 0 [(0, .ref (a 0)), (1, .int (iN w0)), (2, .int (iN z0))] [] V
  obtain ⟨r2, r3, r10, r15, r18, q1, q1k, q2, q3, q4, q5, q6, q7, q7k, q8, q9, q10, q11, q12, q14, qr, qf⟩ := id hok
  refine g_aload_n 0 dX7_kind_0 rfl rfl ?_
  refine g_iload_n 1 dX7_kind_1 rfl rfl ?_
  refine g_iconst dX7_kind_2 ?_
  refine g_icmp_lt 25 dX7_kind_3 (by decide) (fun c_1 => ?_) (fun c_1 => ?_)
  · refine g_iconst dX7_kind_25 ?_
    refine g_putf 0 (v := 1) (.int (iN 1)) pX7_83 om_0 dX7_kind_26 rfl rfl (Nat.le_of_ble_eq_true rfl) rfl ?_
    obtain ⟨V_2, eV_2⟩ : ∃ V9 : Mem, V9 = up V 0 0 1 := ⟨_, rfl⟩
    refine g_mem eV_2.symm ?_
    refine g_aload_n 0 dX7_kind_29 rfl rfl ?_
    refine g_getf 0 (.int (iN (V_2 0 0))) fX7_83 om_0 dX7_kind_30 rfl ?_
    refine g_top (show _ = 1 from by rw [eV_2, up_eq]) ?_
    refine g_if_eq 38 dX7_kind_33 (by decide) (fun c_3 => absurd c_3 (by decide)) (fun _ => ?_)
    refine g_iconst dX7_kind_36 ?_
    exact g_iret hq rfl rfl dX7_kind_37 (by rw [eV_2])
  · refine g_iload_n 1 dX7_kind_6 rfl rfl ?_
    refine g_iconst dX7_kind_7 ?_
    refine g_icmp_gt 25 dX7_kind_8 (by decide) (fun c_4 => ?_) (fun c_4 => ?_)
    · refine g_iconst dX7_kind_25 ?_
      refine g_putf 0 (v := 1) (.int (iN 1)) pX7_83 om_0 dX7_kind_26 rfl rfl (Nat.le_of_ble_eq_true rfl) rfl ?_
      obtain ⟨V_5, eV_5⟩ : ∃ V9 : Mem, V9 = up V 0 0 1 := ⟨_, rfl⟩
      refine g_mem eV_5.symm ?_
      refine g_aload_n 0 dX7_kind_29 rfl rfl ?_
      refine g_getf 0 (.int (iN (V_5 0 0))) fX7_83 om_0 dX7_kind_30 rfl ?_
      refine g_top (show _ = 1 from by rw [eV_5, up_eq]) ?_
      refine g_if_eq 38 dX7_kind_33 (by decide) (fun c_6 => absurd c_6 (by decide)) (fun _ => ?_)
      refine g_iconst dX7_kind_36 ?_
      exact g_iret hq rfl rfl dX7_kind_37 (by rw [eV_5])
    · refine g_iload_n 2 dX7_kind_11 rfl rfl ?_
      refine g_if_lt 25 dX7_kind_12 (by decide) (fun c_7 => ?_) (fun c_7 => ?_)
      · refine g_iconst dX7_kind_25 ?_
        refine g_putf 0 (v := 1) (.int (iN 1)) pX7_83 om_0 dX7_kind_26 rfl rfl (Nat.le_of_ble_eq_true rfl) rfl ?_
        obtain ⟨V_8, eV_8⟩ : ∃ V9 : Mem, V9 = up V 0 0 1 := ⟨_, rfl⟩
        refine g_mem eV_8.symm ?_
        refine g_aload_n 0 dX7_kind_29 rfl rfl ?_
        refine g_getf 0 (.int (iN (V_8 0 0))) fX7_83 om_0 dX7_kind_30 rfl ?_
        refine g_top (show _ = 1 from by rw [eV_8, up_eq]) ?_
        refine g_if_eq 38 dX7_kind_33 (by decide) (fun c_9 => absurd c_9 (by decide)) (fun _ => ?_)
        refine g_iconst dX7_kind_36 ?_
        exact g_iret hq rfl rfl dX7_kind_37 (by rw [eV_8])
      · refine g_iload_n 2 dX7_kind_15 rfl rfl ?_
        refine g_bipush dX7_kind_16 rfl ?_
        refine g_icmp_ge 25 dX7_kind_18 (by decide) (fun c_10 => ?_) (fun c_10 => ?_)
        · refine g_iconst dX7_kind_25 ?_
          refine g_putf 0 (v := 1) (.int (iN 1)) pX7_83 om_0 dX7_kind_26 rfl rfl (Nat.le_of_ble_eq_true rfl) rfl ?_
          obtain ⟨V_11, eV_11⟩ : ∃ V9 : Mem, V9 = up V 0 0 1 := ⟨_, rfl⟩
          refine g_mem eV_11.symm ?_
          refine g_aload_n 0 dX7_kind_29 rfl rfl ?_
          refine g_getf 0 (.int (iN (V_11 0 0))) fX7_83 om_0 dX7_kind_30 rfl ?_
          refine g_top (show _ = 1 from by rw [eV_11, up_eq]) ?_
          refine g_if_eq 38 dX7_kind_33 (by decide) (fun c_12 => absurd c_12 (by decide)) (fun _ => ?_)
          refine g_iconst dX7_kind_36 ?_
          exact g_iret hq rfl rfl dX7_kind_37 (by rw [eV_11])
        · omega

set_option maxHeartbeats 4000000 in
/-- part(k, x, y, h) -/
theorem met_X7_part {l : Launch} {D : va_G} {τ : Nat → ClassId} {a : Nat → Nat} (ha : Apart (LM τ) a) {V : Mem} (k x0 y0 h0 : Int) (hok : okR V) (hk : 0 ≤ k ∧ k < V 0 3) (hx : 0 ≤ x0 ∧ x0 ≤ 100000) (hy : 0 ≤ y0 ∧ y0 ≤ 100000) (hh : 0 ≤ h0 ∧ h0 ≤ 10000) : CI l D (tysL τ) (LM τ) a yX7_part mX7_part [.ref (a 0), .int (iN k), .long (jN x0), .long (jN y0), .long (jN h0)] V (fun z V' => (V 0 10 = 40 ∧ z = -1 ∧ V' = up V 0 0 0) ∨ (V 0 10 < 40 ∧ z = V 0 10 ∧ V' = up (up (up (up (up (up V 0 0 0) 7 (V 0 10).toNat k) 8 (V 0 10).toNat x0) 9 (V 0 10).toNat y0) 10 (V 0 10).toNat h0) 0 10 (V 0 10 + 1))) := by
  refine CI.of (by decide +kernel) rfl (Nat.le_of_ble_eq_true rfl) ha (fun x hq => ?_)
  show G l D (tysL τ) (LM τ) a mX7_part x 0 [(0, .ref (a 0)), (1, .int (iN k)), (2, .long (jN x0)), (4, .long (jN y0)), (6, .long (jN h0))] [] V
  obtain ⟨r2, r3, r10, r15, r18, q1, q1k, q2, q3, q4, q5, q6, q7, q7k, q8, q9, q10, q11, q12, q14, qr, qf⟩ := id hok
  refine g_aload_n 0 dX7_part_0 rfl rfl ?_
  refine g_aload_n 0 dX7_part_1 rfl rfl ?_
  refine g_iload_n 1 dX7_part_2 rfl rfl ?_
  refine g_callI (k := 0) [.int (iN k)] (met_X7_isKind ha k hok (by omega)) vX7_97 om_0 rfl rfl ⟨rfl, rfl, Nat.le_of_ble_eq_true rfl, Nat.le_of_ble_eq_true rfl⟩ rfl (Nat.le_of_ble_eq_true rfl) dX7_part_3 rfl ?_
  rintro z9 V9 ⟨hp9, hV9⟩
  replace hV9 := hV9.symm
  subst hV9
  have hz9 : 1 = z9 := by omega
  subst hz9
  refine g_if_ne 13 dX7_part_6 (by decide) (fun _ => ?_) (fun c_1 => absurd c_1 (by decide))
  refine g_lload_n 2 dX7_part_13 rfl rfl ?_
  refine g_callSI [.long (jN x0)] (met_X7_isSpot ha x0 (by omega)) vX7_101 ⟨rfl, rfl, Nat.le_of_ble_eq_true rfl, Nat.le_of_ble_eq_true rfl⟩ rfl (Nat.le_of_ble_eq_true rfl) dX7_part_14 rfl ?_
  rintro z9 V9 ⟨hp9, hV9⟩
  replace hV9 := hV9.symm
  subst hV9
  have hz9 : 1 = z9 := by omega
  subst hz9
  refine g_if_eq 48 dX7_part_17 (by decide) (fun c_2 => absurd c_2 (by decide)) (fun _ => ?_)
  refine g_lload 3 dX7_part_20 rfl ?_
  refine g_callSI [.long (jN y0)] (met_X7_isSpot ha y0 (by omega)) vX7_101 ⟨rfl, rfl, Nat.le_of_ble_eq_true rfl, Nat.le_of_ble_eq_true rfl⟩ rfl (Nat.le_of_ble_eq_true rfl) dX7_part_22 rfl ?_
  rintro z9 V9 ⟨hp9, hV9⟩
  replace hV9 := hV9.symm
  subst hV9
  have hz9 : 1 = z9 := by omega
  subst hz9
  refine g_if_eq 48 dX7_part_25 (by decide) (fun c_3 => absurd c_3 (by decide)) (fun _ => ?_)
  refine g_lload 4 dX7_part_28 rfl ?_
  refine g_lconst 0 dX7_part_30 rfl ?_
  refine g_lcmp (cmpz h0 0) dX7_part_31 (cmpz_j (by omega) (by omega)) ?_
  have hcmp_4 := cmpz_c h0 0
  refine g_if_lt 48 dX7_part_32 (by decide) (fun c_5 => ?_) (fun c_5 => ?_)
  · omega
  · refine g_lload 4 dX7_part_35 rfl ?_
    refine g_ldc2 10000 kX7_105 rfl dX7_part_37 ?_
    refine g_lcmp (cmpz h0 10000) dX7_part_40 (cmpz_j (by omega) (by omega)) ?_
    have hcmp_6 := cmpz_c h0 10000
    refine g_if_gt 48 dX7_part_41 (by decide) (fun c_7 => ?_) (fun c_7 => ?_)
    · omega
    · refine g_iconst dX7_part_44 ?_
      refine g_goto 49 dX7_part_45 (by decide) ?_
      refine g_putf 0 (v := 0) (.int (iN 0)) pX7_83 om_0 dX7_part_49 rfl rfl (Nat.le_of_ble_eq_true rfl) rfl ?_
      obtain ⟨V_8, eV_8⟩ : ∃ V9 : Mem, V9 = up V 0 0 0 := ⟨_, rfl⟩
      refine g_mem eV_8.symm ?_
      refine g_aload_n 0 dX7_part_52 rfl rfl ?_
      refine g_getf 0 (.int (iN (V_8 0 0))) fX7_83 om_0 dX7_part_53 rfl ?_
      refine g_top (show _ = 0 from by rw [eV_8, up_eq]) ?_
      refine g_if_eq 61 dX7_part_56 (by decide) (fun _ => ?_) (fun c_9 => absurd c_9 (by decide))
      refine g_aload_n 0 dX7_part_61 rfl rfl ?_
      refine g_getf 0 (.int (iN (V_8 0 10))) fX7_89 om_0 dX7_part_62 rfl ?_
      refine g_top (show _ = V 0 10 from by rw [eV_8, up_ne (by omega)]) ?_
      refine g_bipush dX7_part_65 rfl ?_
      refine g_icmp_ne 72 dX7_part_67 (by decide) (fun c_10 => ?_) (fun c_10 => ?_)
      · refine g_aload_n 0 dX7_part_72 rfl rfl ?_
        refine g_getf 0 (.ref (a 7)) fX7_29 om_0 dX7_part_73 rfl ?_
        refine g_aload_n 0 dX7_part_76 rfl rfl ?_
        refine g_getf 0 (.int (iN (V_8 0 10))) fX7_89 om_0 dX7_part_77 rfl ?_
        refine g_top (show _ = V 0 10 from by rw [eV_8, up_ne (by omega)]) ?_
        refine g_iload_n 1 dX7_part_80 rfl rfl ?_
        refine g_iast 7 ((V 0 10).toNat) am_7 dX7_part_81 (by omega) (by omega) ?_
        obtain ⟨V_11, eV_11⟩ : ∃ V9 : Mem, V9 = up V_8 7 ((V 0 10).toNat) k := ⟨_, rfl⟩
        refine g_mem eV_11.symm ?_
        refine g_aload_n 0 dX7_part_82 rfl rfl ?_
        refine g_getf 0 (.ref (a 8)) fX7_32 om_0 dX7_part_83 rfl ?_
        refine g_aload_n 0 dX7_part_86 rfl rfl ?_
        refine g_getf 0 (.int (iN (V_11 0 10))) fX7_89 om_0 dX7_part_87 rfl ?_
        refine g_top (show _ = V 0 10 from by rw [eV_11, up_ne (by omega), eV_8, up_ne (by omega)]) ?_
        refine g_lload_n 2 dX7_part_90 rfl rfl ?_
        refine g_last 8 ((V 0 10).toNat) am_8 dX7_part_91 (by omega) (by omega) ?_
        obtain ⟨V_12, eV_12⟩ : ∃ V9 : Mem, V9 = up V_11 8 ((V 0 10).toNat) x0 := ⟨_, rfl⟩
        refine g_mem eV_12.symm ?_
        refine g_aload_n 0 dX7_part_92 rfl rfl ?_
        refine g_getf 0 (.ref (a 9)) fX7_35 om_0 dX7_part_93 rfl ?_
        refine g_aload_n 0 dX7_part_96 rfl rfl ?_
        refine g_getf 0 (.int (iN (V_12 0 10))) fX7_89 om_0 dX7_part_97 rfl ?_
        refine g_top (show _ = V 0 10 from by rw [eV_12, up_ne (by omega), eV_11, up_ne (by omega), eV_8, up_ne (by omega)]) ?_
        refine g_lload 3 dX7_part_100 rfl ?_
        refine g_last 9 ((V 0 10).toNat) am_9 dX7_part_102 (by omega) (by omega) ?_
        obtain ⟨V_13, eV_13⟩ : ∃ V9 : Mem, V9 = up V_12 9 ((V 0 10).toNat) y0 := ⟨_, rfl⟩
        refine g_mem eV_13.symm ?_
        refine g_aload_n 0 dX7_part_103 rfl rfl ?_
        refine g_getf 0 (.ref (a 10)) fX7_38 om_0 dX7_part_104 rfl ?_
        refine g_aload_n 0 dX7_part_107 rfl rfl ?_
        refine g_getf 0 (.int (iN (V_13 0 10))) fX7_89 om_0 dX7_part_108 rfl ?_
        refine g_top (show _ = V 0 10 from by rw [eV_13, up_ne (by omega), eV_12, up_ne (by omega), eV_11, up_ne (by omega), eV_8, up_ne (by omega)]) ?_
        refine g_lload 4 dX7_part_111 rfl ?_
        refine g_last 10 ((V 0 10).toNat) am_10 dX7_part_113 (by omega) (by omega) ?_
        obtain ⟨V_14, eV_14⟩ : ∃ V9 : Mem, V9 = up V_13 10 ((V 0 10).toNat) h0 := ⟨_, rfl⟩
        refine g_mem eV_14.symm ?_
        refine g_aload_n 0 dX7_part_114 rfl rfl ?_
        refine g_dup dX7_part_115 rfl ?_
        refine g_getf 0 (.int (iN (V_14 0 10))) fX7_89 om_0 dX7_part_116 rfl ?_
        refine g_top (show _ = V 0 10 from by rw [eV_14, up_ne (by omega), eV_13, up_ne (by omega), eV_12, up_ne (by omega), eV_11, up_ne (by omega), eV_8, up_ne (by omega)]) ?_
        refine g_iconst dX7_part_119 ?_
        refine g_iadd dX7_part_120 ?_
        refine g_putf 0 (v := (V 0 10) + 1) (.int (iN ((V 0 10) + 1))) pX7_89 om_0 dX7_part_121 rfl rfl (Nat.le_of_ble_eq_true rfl) rfl ?_
        obtain ⟨V_15, eV_15⟩ : ∃ V9 : Mem, V9 = up V_14 0 10 ((V 0 10) + 1) := ⟨_, rfl⟩
        refine g_mem eV_15.symm ?_
        refine g_aload_n 0 dX7_part_124 rfl rfl ?_
        refine g_getf 0 (.int (iN (V_15 0 10))) fX7_89 om_0 dX7_part_125 rfl ?_
        refine g_top (show _ = (V 0 10) + 1 from by rw [eV_15, up_eq]) ?_
        refine g_iconst dX7_part_128 ?_
        refine g_isub dX7_part_129 ?_
        exact g_iret hq rfl rfl dX7_part_130 (Or.inr ⟨by omega, by omega, by rw [eV_15, eV_14, eV_13, eV_12, eV_11, eV_8]⟩)
      · refine g_iconst dX7_part_70 ?_
        exact g_iret hq rfl rfl dX7_part_71 (Or.inl ⟨by omega, rfl, by rw [eV_8]⟩)

set_option maxHeartbeats 4000000 in
theorem met_X7_part_b1 {l : Launch} {D : va_G} {τ : Nat → ClassId} {a : Nat → Nat} (ha : Apart (LM τ) a) {V : Mem} (k x0 y0 h0 : Int) (hok : okR V) (hk0 : -2147483648 ≤ k ∧ k ≤ 2147483647) (hx0 : -9223372036854775808 ≤ x0 ∧ x0 ≤ 9223372036854775807) (hy0 : -9223372036854775808 ≤ y0 ∧ y0 ≤ 9223372036854775807) (hh0 : -9223372036854775808 ≤ h0 ∧ h0 ≤ 9223372036854775807) (hb : ¬ (0 ≤ k ∧ k < V 0 3)) : CI l D (tysL τ) (LM τ) a yX7_part mX7_part [.ref (a 0), .int (iN k), .long (jN x0), .long (jN y0), .long (jN h0)] V (fun z V' => V' = up V 0 0 1) := by
  refine CI.of (by decide +kernel) rfl (Nat.le_of_ble_eq_true rfl) ha (fun x hq => ?_)
  show G l D (tysL τ) (LM τ) a mX7_part x 0 [(0, .ref (a 0)), (1, .int (iN k)), (2, .long (jN x0)), (4, .long (jN y0)), (6, .long (jN h0))] [] V
  obtain ⟨r2, r3, r10, r15, r18, q1, q1k, q2, q3, q4, q5, q6, q7, q7k, q8, q9, q10, q11, q12, q14, qr, qf⟩ := id hok
  refine g_aload_n 0 dX7_part_0 rfl rfl ?_
  refine g_aload_n 0 dX7_part_1 rfl rfl ?_
  refine g_iload_n 1 dX7_part_2 rfl rfl ?_
  refine g_callI (k := 0) [.int (iN k)] (met_X7_isKind ha k hok (by omega)) vX7_97 om_0 rfl rfl ⟨rfl, rfl, Nat.le_of_ble_eq_true rfl, Nat.le_of_ble_eq_true rfl⟩ rfl (Nat.le_of_ble_eq_true rfl) dX7_part_3 rfl ?_
  rintro z9 V9 ⟨hp9, hV9⟩
  replace hV9 := hV9.symm
  subst hV9
  rcases hp9 with ⟨hz9, b_1⟩ | ⟨hz9, b_1⟩
  · subst hz9
    refine g_if_ne 13 dX7_part_6 (by decide) (fun _ => ?_) (fun c_2 => absurd c_2 (by decide))
    omega
  · subst hz9
    refine g_if_ne 13 dX7_part_6 (by decide) (fun c_3 => absurd c_3 (by decide)) (fun _ => ?_)
    refine g_iconst dX7_part_9 ?_
    refine g_goto 49 dX7_part_10 (by decide) ?_
    refine g_putf 0 (v := 1) (.int (iN 1)) pX7_83 om_0 dX7_part_49 rfl rfl (Nat.le_of_ble_eq_true rfl) rfl ?_
    obtain ⟨V_4, eV_4⟩ : ∃ V9 : Mem, V9 = up V 0 0 1 := ⟨_, rfl⟩
    refine g_mem eV_4.symm ?_
    refine g_aload_n 0 dX7_part_52 rfl rfl ?_
    refine g_getf 0 (.int (iN (V_4 0 0))) fX7_83 om_0 dX7_part_53 rfl ?_
    refine g_top (show _ = 1 from by rw [eV_4, up_eq]) ?_
    refine g_if_eq 61 dX7_part_56 (by decide) (fun c_5 => absurd c_5 (by decide)) (fun _ => ?_)
    refine g_iconst dX7_part_59 ?_
    exact g_iret hq rfl rfl dX7_part_60 (by rw [eV_4])

set_option maxHeartbeats 4000000 in
theorem met_X7_part_b2 {l : Launch} {D : va_G} {τ : Nat → ClassId} {a : Nat → Nat} (ha : Apart (LM τ) a) {V : Mem} (k x0 y0 h0 : Int) (hok : okR V) (hk0 : -2147483648 ≤ k ∧ k ≤ 2147483647) (hx0 : -9223372036854775808 ≤ x0 ∧ x0 ≤ 9223372036854775807) (hy0 : -9223372036854775808 ≤ y0 ∧ y0 ≤ 9223372036854775807) (hh0 : -9223372036854775808 ≤ h0 ∧ h0 ≤ 9223372036854775807) (hk : 0 ≤ k ∧ k < V 0 3) (hb : ¬ (0 ≤ x0 ∧ x0 ≤ 100000 ∧ 0 ≤ y0 ∧ y0 ≤ 100000 ∧ 0 ≤ h0 ∧ h0 ≤ 10000)) : CI l D (tysL τ) (LM τ) a yX7_part mX7_part [.ref (a 0), .int (iN k), .long (jN x0), .long (jN y0), .long (jN h0)] V (fun z V' => V' = up V 0 0 2) := by
  refine CI.of (by decide +kernel) rfl (Nat.le_of_ble_eq_true rfl) ha (fun x hq => ?_)
  show G l D (tysL τ) (LM τ) a mX7_part x 0 [(0, .ref (a 0)), (1, .int (iN k)), (2, .long (jN x0)), (4, .long (jN y0)), (6, .long (jN h0))] [] V
  obtain ⟨r2, r3, r10, r15, r18, q1, q1k, q2, q3, q4, q5, q6, q7, q7k, q8, q9, q10, q11, q12, q14, qr, qf⟩ := id hok
  refine g_aload_n 0 dX7_part_0 rfl rfl ?_
  refine g_aload_n 0 dX7_part_1 rfl rfl ?_
  refine g_iload_n 1 dX7_part_2 rfl rfl ?_
  refine g_callI (k := 0) [.int (iN k)] (met_X7_isKind ha k hok (by omega)) vX7_97 om_0 rfl rfl ⟨rfl, rfl, Nat.le_of_ble_eq_true rfl, Nat.le_of_ble_eq_true rfl⟩ rfl (Nat.le_of_ble_eq_true rfl) dX7_part_3 rfl ?_
  rintro z9 V9 ⟨hp9, hV9⟩
  replace hV9 := hV9.symm
  subst hV9
  have hz9 : 1 = z9 := by omega
  subst hz9
  refine g_if_ne 13 dX7_part_6 (by decide) (fun _ => ?_) (fun c_1 => absurd c_1 (by decide))
  refine g_lload_n 2 dX7_part_13 rfl rfl ?_
  refine g_callSI [.long (jN x0)] (met_X7_isSpot ha x0 (by omega)) vX7_101 ⟨rfl, rfl, Nat.le_of_ble_eq_true rfl, Nat.le_of_ble_eq_true rfl⟩ rfl (Nat.le_of_ble_eq_true rfl) dX7_part_14 rfl ?_
  rintro z9 V9 ⟨hp9, hV9⟩
  replace hV9 := hV9.symm
  subst hV9
  rcases hp9 with ⟨hz9, b_2⟩ | ⟨hz9, b_2⟩
  · subst hz9
    refine g_if_eq 48 dX7_part_17 (by decide) (fun c_3 => absurd c_3 (by decide)) (fun _ => ?_)
    refine g_lload 3 dX7_part_20 rfl ?_
    refine g_callSI [.long (jN y0)] (met_X7_isSpot ha y0 (by omega)) vX7_101 ⟨rfl, rfl, Nat.le_of_ble_eq_true rfl, Nat.le_of_ble_eq_true rfl⟩ rfl (Nat.le_of_ble_eq_true rfl) dX7_part_22 rfl ?_
    rintro z9 V9 ⟨hp9, hV9⟩
    replace hV9 := hV9.symm
    subst hV9
    rcases hp9 with ⟨hz9, b_4⟩ | ⟨hz9, b_4⟩
    · subst hz9
      refine g_if_eq 48 dX7_part_25 (by decide) (fun c_5 => absurd c_5 (by decide)) (fun _ => ?_)
      refine g_lload 4 dX7_part_28 rfl ?_
      refine g_lconst 0 dX7_part_30 rfl ?_
      refine g_lcmp (cmpz h0 0) dX7_part_31 (cmpz_j (by omega) (by omega)) ?_
      have hcmp_6 := cmpz_c h0 0
      refine g_if_lt 48 dX7_part_32 (by decide) (fun c_7 => ?_) (fun c_7 => ?_)
      · refine g_iconst dX7_part_48 ?_
        refine g_putf 0 (v := 2) (.int (iN 2)) pX7_83 om_0 dX7_part_49 rfl rfl (Nat.le_of_ble_eq_true rfl) rfl ?_
        obtain ⟨V_8, eV_8⟩ : ∃ V9 : Mem, V9 = up V 0 0 2 := ⟨_, rfl⟩
        refine g_mem eV_8.symm ?_
        refine g_aload_n 0 dX7_part_52 rfl rfl ?_
        refine g_getf 0 (.int (iN (V_8 0 0))) fX7_83 om_0 dX7_part_53 rfl ?_
        refine g_top (show _ = 2 from by rw [eV_8, up_eq]) ?_
        refine g_if_eq 61 dX7_part_56 (by decide) (fun c_9 => absurd c_9 (by decide)) (fun _ => ?_)
        refine g_iconst dX7_part_59 ?_
        exact g_iret hq rfl rfl dX7_part_60 (by rw [eV_8])
      · refine g_lload 4 dX7_part_35 rfl ?_
        refine g_ldc2 10000 kX7_105 rfl dX7_part_37 ?_
        refine g_lcmp (cmpz h0 10000) dX7_part_40 (cmpz_j (by omega) (by omega)) ?_
        have hcmp_10 := cmpz_c h0 10000
        refine g_if_gt 48 dX7_part_41 (by decide) (fun c_11 => ?_) (fun c_11 => ?_)
        · refine g_iconst dX7_part_48 ?_
          refine g_putf 0 (v := 2) (.int (iN 2)) pX7_83 om_0 dX7_part_49 rfl rfl (Nat.le_of_ble_eq_true rfl) rfl ?_
          obtain ⟨V_12, eV_12⟩ : ∃ V9 : Mem, V9 = up V 0 0 2 := ⟨_, rfl⟩
          refine g_mem eV_12.symm ?_
          refine g_aload_n 0 dX7_part_52 rfl rfl ?_
          refine g_getf 0 (.int (iN (V_12 0 0))) fX7_83 om_0 dX7_part_53 rfl ?_
          refine g_top (show _ = 2 from by rw [eV_12, up_eq]) ?_
          refine g_if_eq 61 dX7_part_56 (by decide) (fun c_13 => absurd c_13 (by decide)) (fun _ => ?_)
          refine g_iconst dX7_part_59 ?_
          exact g_iret hq rfl rfl dX7_part_60 (by rw [eV_12])
        · omega
    · subst hz9
      refine g_if_eq 48 dX7_part_25 (by decide) (fun _ => ?_) (fun c_14 => absurd c_14 (by decide))
      refine g_iconst dX7_part_48 ?_
      refine g_putf 0 (v := 2) (.int (iN 2)) pX7_83 om_0 dX7_part_49 rfl rfl (Nat.le_of_ble_eq_true rfl) rfl ?_
      obtain ⟨V_15, eV_15⟩ : ∃ V9 : Mem, V9 = up V 0 0 2 := ⟨_, rfl⟩
      refine g_mem eV_15.symm ?_
      refine g_aload_n 0 dX7_part_52 rfl rfl ?_
      refine g_getf 0 (.int (iN (V_15 0 0))) fX7_83 om_0 dX7_part_53 rfl ?_
      refine g_top (show _ = 2 from by rw [eV_15, up_eq]) ?_
      refine g_if_eq 61 dX7_part_56 (by decide) (fun c_16 => absurd c_16 (by decide)) (fun _ => ?_)
      refine g_iconst dX7_part_59 ?_
      exact g_iret hq rfl rfl dX7_part_60 (by rw [eV_15])
  · subst hz9
    refine g_if_eq 48 dX7_part_17 (by decide) (fun _ => ?_) (fun c_17 => absurd c_17 (by decide))
    refine g_iconst dX7_part_48 ?_
    refine g_putf 0 (v := 2) (.int (iN 2)) pX7_83 om_0 dX7_part_49 rfl rfl (Nat.le_of_ble_eq_true rfl) rfl ?_
    obtain ⟨V_18, eV_18⟩ : ∃ V9 : Mem, V9 = up V 0 0 2 := ⟨_, rfl⟩
    refine g_mem eV_18.symm ?_
    refine g_aload_n 0 dX7_part_52 rfl rfl ?_
    refine g_getf 0 (.int (iN (V_18 0 0))) fX7_83 om_0 dX7_part_53 rfl ?_
    refine g_top (show _ = 2 from by rw [eV_18, up_eq]) ?_
    refine g_if_eq 61 dX7_part_56 (by decide) (fun c_19 => absurd c_19 (by decide)) (fun _ => ?_)
    refine g_iconst dX7_part_59 ?_
    exact g_iret hq rfl rfl dX7_part_60 (by rw [eV_18])

set_option maxHeartbeats 4000000 in
/-- machine(b, t) -/
theorem met_X7_machine {l : Launch} {D : va_G} {τ : Nat → ClassId} {a : Nat → Nat} (ha : Apart (LM τ) a) {V : Mem} (b t : Int) (hok : okR V) (hb : 0 ≤ b ∧ b ≤ 255) (ht : 1 ≤ t ∧ t ≤ 6) : CI l D (tysL τ) (LM τ) a yX7_machine mX7_machine [.ref (a 0), .int (iN b), .int (iN t)] V (fun z V' => (V 0 15 = 3 ∧ z = -1 ∧ V' = up V 0 0 0) ∨ (V 0 15 < 3 ∧ z = V 0 15 ∧ V' = up (up (up (up V 0 0 0) 11 (V 0 15).toNat b) 12 (V 0 15).toNat t) 0 15 (V 0 15 + 1))) := by
  refine CI.of (by decide +kernel) rfl (Nat.le_of_ble_eq_true rfl) ha (fun x hq => ?_)
  show G l D (tysL τ) (LM τ) a mX7_machine x 0 [(0, .ref (a 0)), (1, .int (iN b)), (2, .int (iN t))] [] V
  obtain ⟨r2, r3, r10, r15, r18, q1, q1k, q2, q3, q4, q5, q6, q7, q7k, q8, q9, q10, q11, q12, q14, qr, qf⟩ := id hok
  refine g_aload_n 0 dX7_machine_0 rfl rfl ?_
  refine g_iload_n 1 dX7_machine_1 rfl rfl ?_
  refine g_if_lt 27 dX7_machine_2 (by decide) (fun c_1 => ?_) (fun c_1 => ?_)
  · omega
  · refine g_iload_n 1 dX7_machine_5 rfl rfl ?_
    refine g_sipush dX7_machine_6 rfl ?_
    refine g_icmp_ge 27 dX7_machine_9 (by decide) (fun c_2 => ?_) (fun c_2 => ?_)
    · omega
    · refine g_iload_n 2 dX7_machine_12 rfl rfl ?_
      refine g_iconst dX7_machine_13 ?_
      refine g_icmp_lt 27 dX7_machine_14 (by decide) (fun c_3 => ?_) (fun c_3 => ?_)
      · omega
      · refine g_iload_n 2 dX7_machine_17 rfl rfl ?_
        refine g_bipush dX7_machine_18 rfl ?_
        refine g_icmp_gt 27 dX7_machine_20 (by decide) (fun c_4 => ?_) (fun c_4 => ?_)
        · omega
        · refine g_iconst dX7_machine_23 ?_
          refine g_goto 28 dX7_machine_24 (by decide) ?_
          refine g_putf 0 (v := 0) (.int (iN 0)) pX7_83 om_0 dX7_machine_28 rfl rfl (Nat.le_of_ble_eq_true rfl) rfl ?_
          obtain ⟨V_5, eV_5⟩ : ∃ V9 : Mem, V9 = up V 0 0 0 := ⟨_, rfl⟩
          refine g_mem eV_5.symm ?_
          refine g_aload_n 0 dX7_machine_31 rfl rfl ?_
          refine g_getf 0 (.int (iN (V_5 0 0))) fX7_83 om_0 dX7_machine_32 rfl ?_
          refine g_top (show _ = 0 from by rw [eV_5, up_eq]) ?_
          refine g_if_eq 40 dX7_machine_35 (by decide) (fun _ => ?_) (fun c_6 => absurd c_6 (by decide))
          refine g_aload_n 0 dX7_machine_40 rfl rfl ?_
          refine g_getf 0 (.int (iN (V_5 0 15))) fX7_92 om_0 dX7_machine_41 rfl ?_
          refine g_top (show _ = V 0 15 from by rw [eV_5, up_ne (by omega)]) ?_
          refine g_iconst dX7_machine_44 ?_
          refine g_icmp_ne 50 dX7_machine_45 (by decide) (fun c_7 => ?_) (fun c_7 => ?_)
          · refine g_aload_n 0 dX7_machine_50 rfl rfl ?_
            refine g_getf 0 (.ref (a 11)) fX7_41 om_0 dX7_machine_51 rfl ?_
            refine g_aload_n 0 dX7_machine_54 rfl rfl ?_
            refine g_getf 0 (.int (iN (V_5 0 15))) fX7_92 om_0 dX7_machine_55 rfl ?_
            refine g_top (show _ = V 0 15 from by rw [eV_5, up_ne (by omega)]) ?_
            refine g_iload_n 1 dX7_machine_58 rfl rfl ?_
            refine g_iast 11 ((V 0 15).toNat) am_11 dX7_machine_59 (by omega) (by omega) ?_
            obtain ⟨V_8, eV_8⟩ : ∃ V9 : Mem, V9 = up V_5 11 ((V 0 15).toNat) b := ⟨_, rfl⟩
            refine g_mem eV_8.symm ?_
            refine g_aload_n 0 dX7_machine_60 rfl rfl ?_
            refine g_getf 0 (.ref (a 12)) fX7_44 om_0 dX7_machine_61 rfl ?_
            refine g_aload_n 0 dX7_machine_64 rfl rfl ?_
            refine g_getf 0 (.int (iN (V_8 0 15))) fX7_92 om_0 dX7_machine_65 rfl ?_
            refine g_top (show _ = V 0 15 from by rw [eV_8, up_ne (by omega), eV_5, up_ne (by omega)]) ?_
            refine g_iload_n 2 dX7_machine_68 rfl rfl ?_
            refine g_iast 12 ((V 0 15).toNat) am_12 dX7_machine_69 (by omega) (by omega) ?_
            obtain ⟨V_9, eV_9⟩ : ∃ V9 : Mem, V9 = up V_8 12 ((V 0 15).toNat) t := ⟨_, rfl⟩
            refine g_mem eV_9.symm ?_
            refine g_aload_n 0 dX7_machine_70 rfl rfl ?_
            refine g_dup dX7_machine_71 rfl ?_
            refine g_getf 0 (.int (iN (V_9 0 15))) fX7_92 om_0 dX7_machine_72 rfl ?_
            refine g_top (show _ = V 0 15 from by rw [eV_9, up_ne (by omega), eV_8, up_ne (by omega), eV_5, up_ne (by omega)]) ?_
            refine g_iconst dX7_machine_75 ?_
            refine g_iadd dX7_machine_76 ?_
            refine g_putf 0 (v := (V 0 15) + 1) (.int (iN ((V 0 15) + 1))) pX7_92 om_0 dX7_machine_77 rfl rfl (Nat.le_of_ble_eq_true rfl) rfl ?_
            obtain ⟨V_10, eV_10⟩ : ∃ V9 : Mem, V9 = up V_9 0 15 ((V 0 15) + 1) := ⟨_, rfl⟩
            refine g_mem eV_10.symm ?_
            refine g_aload_n 0 dX7_machine_80 rfl rfl ?_
            refine g_getf 0 (.int (iN (V_10 0 15))) fX7_92 om_0 dX7_machine_81 rfl ?_
            refine g_top (show _ = (V 0 15) + 1 from by rw [eV_10, up_eq]) ?_
            refine g_iconst dX7_machine_84 ?_
            refine g_isub dX7_machine_85 ?_
            exact g_iret hq rfl rfl dX7_machine_86 (Or.inr ⟨by omega, by omega, by rw [eV_10, eV_9, eV_8, eV_5]⟩)
          · refine g_iconst dX7_machine_48 ?_
            exact g_iret hq rfl rfl dX7_machine_49 (Or.inl ⟨by omega, rfl, by rw [eV_5]⟩)

set_option maxHeartbeats 4000000 in
theorem met_X7_machine_b1 {l : Launch} {D : va_G} {τ : Nat → ClassId} {a : Nat → Nat} (ha : Apart (LM τ) a) {V : Mem} (b t : Int) (hok : okR V) (hb0 : -2147483648 ≤ b ∧ b ≤ 2147483647) (ht0 : -2147483648 ≤ t ∧ t ≤ 2147483647) (hb : ¬ (0 ≤ b ∧ b ≤ 255 ∧ 1 ≤ t ∧ t ≤ 6)) : CI l D (tysL τ) (LM τ) a yX7_machine mX7_machine [.ref (a 0), .int (iN b), .int (iN t)] V (fun z V' => V' = up V 0 0 1) := by
  refine CI.of (by decide +kernel) rfl (Nat.le_of_ble_eq_true rfl) ha (fun x hq => ?_)
  show G l D (tysL τ) (LM τ) a mX7_machine x 0 [(0, .ref (a 0)), (1, .int (iN b)), (2, .int (iN t))] [] V
  obtain ⟨r2, r3, r10, r15, r18, q1, q1k, q2, q3, q4, q5, q6, q7, q7k, q8, q9, q10, q11, q12, q14, qr, qf⟩ := id hok
  refine g_aload_n 0 dX7_machine_0 rfl rfl ?_
  refine g_iload_n 1 dX7_machine_1 rfl rfl ?_
  refine g_if_lt 27 dX7_machine_2 (by decide) (fun c_1 => ?_) (fun c_1 => ?_)
  · refine g_iconst dX7_machine_27 ?_
    refine g_putf 0 (v := 1) (.int (iN 1)) pX7_83 om_0 dX7_machine_28 rfl rfl (Nat.le_of_ble_eq_true rfl) rfl ?_
    obtain ⟨V_2, eV_2⟩ : ∃ V9 : Mem, V9 = up V 0 0 1 := ⟨_, rfl⟩
    refine g_mem eV_2.symm ?_
    refine g_aload_n 0 dX7_machine_31 rfl rfl ?_
    refine g_getf 0 (.int (iN (V_2 0 0))) fX7_83 om_0 dX7_machine_32 rfl ?_
    refine g_top (show _ = 1 from by rw [eV_2, up_eq]) ?_
    refine g_if_eq 40 dX7_machine_35 (by decide) (fun c_3 => absurd c_3 (by decide)) (fun _ => ?_)
    refine g_iconst dX7_machine_38 ?_
    exact g_iret hq rfl rfl dX7_machine_39 (by rw [eV_2])
  · refine g_iload_n 1 dX7_machine_5 rfl rfl ?_
    refine g_sipush dX7_machine_6 rfl ?_
    refine g_icmp_ge 27 dX7_machine_9 (by decide) (fun c_4 => ?_) (fun c_4 => ?_)
    · refine g_iconst dX7_machine_27 ?_
      refine g_putf 0 (v := 1) (.int (iN 1)) pX7_83 om_0 dX7_machine_28 rfl rfl (Nat.le_of_ble_eq_true rfl) rfl ?_
      obtain ⟨V_5, eV_5⟩ : ∃ V9 : Mem, V9 = up V 0 0 1 := ⟨_, rfl⟩
      refine g_mem eV_5.symm ?_
      refine g_aload_n 0 dX7_machine_31 rfl rfl ?_
      refine g_getf 0 (.int (iN (V_5 0 0))) fX7_83 om_0 dX7_machine_32 rfl ?_
      refine g_top (show _ = 1 from by rw [eV_5, up_eq]) ?_
      refine g_if_eq 40 dX7_machine_35 (by decide) (fun c_6 => absurd c_6 (by decide)) (fun _ => ?_)
      refine g_iconst dX7_machine_38 ?_
      exact g_iret hq rfl rfl dX7_machine_39 (by rw [eV_5])
    · refine g_iload_n 2 dX7_machine_12 rfl rfl ?_
      refine g_iconst dX7_machine_13 ?_
      refine g_icmp_lt 27 dX7_machine_14 (by decide) (fun c_7 => ?_) (fun c_7 => ?_)
      · refine g_iconst dX7_machine_27 ?_
        refine g_putf 0 (v := 1) (.int (iN 1)) pX7_83 om_0 dX7_machine_28 rfl rfl (Nat.le_of_ble_eq_true rfl) rfl ?_
        obtain ⟨V_8, eV_8⟩ : ∃ V9 : Mem, V9 = up V 0 0 1 := ⟨_, rfl⟩
        refine g_mem eV_8.symm ?_
        refine g_aload_n 0 dX7_machine_31 rfl rfl ?_
        refine g_getf 0 (.int (iN (V_8 0 0))) fX7_83 om_0 dX7_machine_32 rfl ?_
        refine g_top (show _ = 1 from by rw [eV_8, up_eq]) ?_
        refine g_if_eq 40 dX7_machine_35 (by decide) (fun c_9 => absurd c_9 (by decide)) (fun _ => ?_)
        refine g_iconst dX7_machine_38 ?_
        exact g_iret hq rfl rfl dX7_machine_39 (by rw [eV_8])
      · refine g_iload_n 2 dX7_machine_17 rfl rfl ?_
        refine g_bipush dX7_machine_18 rfl ?_
        refine g_icmp_gt 27 dX7_machine_20 (by decide) (fun c_10 => ?_) (fun c_10 => ?_)
        · refine g_iconst dX7_machine_27 ?_
          refine g_putf 0 (v := 1) (.int (iN 1)) pX7_83 om_0 dX7_machine_28 rfl rfl (Nat.le_of_ble_eq_true rfl) rfl ?_
          obtain ⟨V_11, eV_11⟩ : ∃ V9 : Mem, V9 = up V 0 0 1 := ⟨_, rfl⟩
          refine g_mem eV_11.symm ?_
          refine g_aload_n 0 dX7_machine_31 rfl rfl ?_
          refine g_getf 0 (.int (iN (V_11 0 0))) fX7_83 om_0 dX7_machine_32 rfl ?_
          refine g_top (show _ = 1 from by rw [eV_11, up_eq]) ?_
          refine g_if_eq 40 dX7_machine_35 (by decide) (fun c_12 => absurd c_12 (by decide)) (fun _ => ?_)
          refine g_iconst dX7_machine_38 ?_
          exact g_iret hq rfl rfl dX7_machine_39 (by rw [eV_11])
        · omega

set_option maxHeartbeats 4000000 in
/-- refill(k, n) -/
theorem met_X7_refill {l : Launch} {D : va_G} {τ : Nat → ClassId} {a : Nat → Nat} (ha : Apart (LM τ) a) {V : Mem} (k : Nat) (n : Int) (hok : okR V) (hk : (k : Int) < V 0 3) (hn : 0 ≤ n ∧ n ≤ 2147483647) : CI l D (tysL τ) (LM τ) a yX7_refill mX7_refill [.ref (a 0), .int (iN (k : Int)), .int (iN n)] V (fun z V' => (z = 1 ∧ V 4 k ≠ n ∧ V' = up (up V 0 0 0) 4 k n) ∨ (z = 0 ∧ V 4 k = n ∧ V' = up V 0 0 0)) := by
  refine CI.of (by decide +kernel) rfl (Nat.le_of_ble_eq_true rfl) ha (fun x hq => ?_)
  show G l D (tysL τ) (LM τ) a mX7_refill x 0 [(0, .ref (a 0)), (1, .int (iN (k : Int))), (2, .int (iN n))] [] V
  obtain ⟨r2, r3, r10, r15, r18, q1, q1k, q2, q3, q4, q5, q6, q7, q7k, q8, q9, q10, q11, q12, q14, qr, qf⟩ := id hok
  have q4k := q4 k (by omega)
  refine g_aload_n 0 dX7_refill_0 rfl rfl ?_
  refine g_aload_n 0 dX7_refill_1 rfl rfl ?_
  refine g_iload_n 1 dX7_refill_2 rfl rfl ?_
  refine g_callI (k := 0) [.int (iN (k : Int))] (met_X7_isKind ha (k : Int) hok (by omega)) vX7_97 om_0 rfl rfl ⟨rfl, rfl, Nat.le_of_ble_eq_true rfl, Nat.le_of_ble_eq_true rfl⟩ rfl (Nat.le_of_ble_eq_true rfl) dX7_refill_3 rfl ?_
  rintro z9 V9 ⟨hp9, hV9⟩
  replace hV9 := hV9.symm
  subst hV9
  have hz9 : 1 = z9 := by omega
  subst hz9
  refine g_if_ne 13 dX7_refill_6 (by decide) (fun _ => ?_) (fun c_1 => absurd c_1 (by decide))
  refine g_iload_n 2 dX7_refill_13 rfl rfl ?_
  refine g_if_ge 21 dX7_refill_14 (by decide) (fun c_2 => ?_) (fun c_2 => ?_)
  · refine g_iconst dX7_refill_21 ?_
    refine g_putf 0 (v := 0) (.int (iN 0)) pX7_83 om_0 dX7_refill_22 rfl rfl (Nat.le_of_ble_eq_true rfl) rfl ?_
    obtain ⟨V_3, eV_3⟩ : ∃ V9 : Mem, V9 = up V 0 0 0 := ⟨_, rfl⟩
    refine g_mem eV_3.symm ?_
    refine g_aload_n 0 dX7_refill_25 rfl rfl ?_
    refine g_getf 0 (.int (iN (V_3 0 0))) fX7_83 om_0 dX7_refill_26 rfl ?_
    refine g_top (show _ = 0 from by rw [eV_3, up_eq]) ?_
    refine g_if_ne 42 dX7_refill_29 (by decide) (fun c_4 => absurd c_4 (by decide)) (fun _ => ?_)
    refine g_aload_n 0 dX7_refill_32 rfl rfl ?_
    refine g_getf 0 (.ref (a 4)) fX7_19 om_0 dX7_refill_33 rfl ?_
    refine g_iload_n 1 dX7_refill_36 rfl rfl ?_
    refine g_iald 4 k am_4 dX7_refill_37 rfl (by omega) ?_
    refine g_top (show _ = V 4 k from by rw [eV_3, up_ne (by omega)]) ?_
    refine g_iload_n 2 dX7_refill_38 rfl rfl ?_
    refine g_icmp_ne 44 dX7_refill_39 (by decide) (fun c_5 => ?_) (fun c_5 => ?_)
    · refine g_aload_n 0 dX7_refill_44 rfl rfl ?_
      refine g_getf 0 (.ref (a 4)) fX7_19 om_0 dX7_refill_45 rfl ?_
      refine g_iload_n 1 dX7_refill_48 rfl rfl ?_
      refine g_iload_n 2 dX7_refill_49 rfl rfl ?_
      refine g_iast 4 k am_4 dX7_refill_50 rfl (by omega) ?_
      obtain ⟨V_6, eV_6⟩ : ∃ V9 : Mem, V9 = up V_3 4 k n := ⟨_, rfl⟩
      refine g_mem eV_6.symm ?_
      refine g_iconst dX7_refill_51 ?_
      exact g_iret hq rfl rfl dX7_refill_52 (Or.inl ⟨rfl, by omega, by rw [eV_6, eV_3]⟩)
    · refine g_iconst dX7_refill_42 ?_
      exact g_iret hq rfl rfl dX7_refill_43 (Or.inr ⟨rfl, by omega, by rw [eV_3]⟩)
  · omega

set_option maxHeartbeats 4000000 in
theorem met_X7_refill_b1 {l : Launch} {D : va_G} {τ : Nat → ClassId} {a : Nat → Nat} (ha : Apart (LM τ) a) {V : Mem} (k n : Int) (hok : okR V) (hk0 : -2147483648 ≤ k ∧ k ≤ 2147483647) (hn0 : -2147483648 ≤ n ∧ n ≤ 2147483647) (hb : ¬ (0 ≤ k ∧ k < V 0 3)) : CI l D (tysL τ) (LM τ) a yX7_refill mX7_refill [.ref (a 0), .int (iN k), .int (iN n)] V (fun z V' => V' = up V 0 0 1) := by
  refine CI.of (by decide +kernel) rfl (Nat.le_of_ble_eq_true rfl) ha (fun x hq => ?_)
  show G l D (tysL τ) (LM τ) a mX7_refill x 0 [(0, .ref (a 0)), (1, .int (iN k)), (2, .int (iN n))] [] V
  obtain ⟨r2, r3, r10, r15, r18, q1, q1k, q2, q3, q4, q5, q6, q7, q7k, q8, q9, q10, q11, q12, q14, qr, qf⟩ := id hok
  refine g_aload_n 0 dX7_refill_0 rfl rfl ?_
  refine g_aload_n 0 dX7_refill_1 rfl rfl ?_
  refine g_iload_n 1 dX7_refill_2 rfl rfl ?_
  refine g_callI (k := 0) [.int (iN k)] (met_X7_isKind ha k hok (by omega)) vX7_97 om_0 rfl rfl ⟨rfl, rfl, Nat.le_of_ble_eq_true rfl, Nat.le_of_ble_eq_true rfl⟩ rfl (Nat.le_of_ble_eq_true rfl) dX7_refill_3 rfl ?_
  rintro z9 V9 ⟨hp9, hV9⟩
  replace hV9 := hV9.symm
  subst hV9
  rcases hp9 with ⟨hz9, b_1⟩ | ⟨hz9, b_1⟩
  · subst hz9
    refine g_if_ne 13 dX7_refill_6 (by decide) (fun _ => ?_) (fun c_2 => absurd c_2 (by decide))
    omega
  · subst hz9
    refine g_if_ne 13 dX7_refill_6 (by decide) (fun c_3 => absurd c_3 (by decide)) (fun _ => ?_)
    refine g_iconst dX7_refill_9 ?_
    refine g_goto 22 dX7_refill_10 (by decide) ?_
    refine g_putf 0 (v := 1) (.int (iN 1)) pX7_83 om_0 dX7_refill_22 rfl rfl (Nat.le_of_ble_eq_true rfl) rfl ?_
    obtain ⟨V_4, eV_4⟩ : ∃ V9 : Mem, V9 = up V 0 0 1 := ⟨_, rfl⟩
    refine g_mem eV_4.symm ?_
    refine g_aload_n 0 dX7_refill_25 rfl rfl ?_
    refine g_getf 0 (.int (iN (V_4 0 0))) fX7_83 om_0 dX7_refill_26 rfl ?_
    refine g_top (show _ = 1 from by rw [eV_4, up_eq]) ?_
    refine g_if_ne 42 dX7_refill_29 (by decide) (fun _ => ?_) (fun c_5 => absurd c_5 (by decide))
    refine g_iconst dX7_refill_42 ?_
    exact g_iret hq rfl rfl dX7_refill_43 (by rw [eV_4])

set_option maxHeartbeats 4000000 in
theorem met_X7_refill_b2 {l : Launch} {D : va_G} {τ : Nat → ClassId} {a : Nat → Nat} (ha : Apart (LM τ) a) {V : Mem} (k n : Int) (hok : okR V) (hk0 : -2147483648 ≤ k ∧ k ≤ 2147483647) (hn0 : -2147483648 ≤ n ∧ n ≤ 2147483647) (hk : 0 ≤ k ∧ k < V 0 3) (hb : n < 0) : CI l D (tysL τ) (LM τ) a yX7_refill mX7_refill [.ref (a 0), .int (iN k), .int (iN n)] V (fun z V' => V' = up V 0 0 2) := by
  refine CI.of (by decide +kernel) rfl (Nat.le_of_ble_eq_true rfl) ha (fun x hq => ?_)
  show G l D (tysL τ) (LM τ) a mX7_refill x 0 [(0, .ref (a 0)), (1, .int (iN k)), (2, .int (iN n))] [] V
  obtain ⟨r2, r3, r10, r15, r18, q1, q1k, q2, q3, q4, q5, q6, q7, q7k, q8, q9, q10, q11, q12, q14, qr, qf⟩ := id hok
  refine g_aload_n 0 dX7_refill_0 rfl rfl ?_
  refine g_aload_n 0 dX7_refill_1 rfl rfl ?_
  refine g_iload_n 1 dX7_refill_2 rfl rfl ?_
  refine g_callI (k := 0) [.int (iN k)] (met_X7_isKind ha k hok (by omega)) vX7_97 om_0 rfl rfl ⟨rfl, rfl, Nat.le_of_ble_eq_true rfl, Nat.le_of_ble_eq_true rfl⟩ rfl (Nat.le_of_ble_eq_true rfl) dX7_refill_3 rfl ?_
  rintro z9 V9 ⟨hp9, hV9⟩
  replace hV9 := hV9.symm
  subst hV9
  have hz9 : 1 = z9 := by omega
  subst hz9
  refine g_if_ne 13 dX7_refill_6 (by decide) (fun _ => ?_) (fun c_1 => absurd c_1 (by decide))
  refine g_iload_n 2 dX7_refill_13 rfl rfl ?_
  refine g_if_ge 21 dX7_refill_14 (by decide) (fun c_2 => ?_) (fun c_2 => ?_)
  · omega
  · refine g_iconst dX7_refill_17 ?_
    refine g_goto 22 dX7_refill_18 (by decide) ?_
    refine g_putf 0 (v := 2) (.int (iN 2)) pX7_83 om_0 dX7_refill_22 rfl rfl (Nat.le_of_ble_eq_true rfl) rfl ?_
    obtain ⟨V_3, eV_3⟩ : ∃ V9 : Mem, V9 = up V 0 0 2 := ⟨_, rfl⟩
    refine g_mem eV_3.symm ?_
    refine g_aload_n 0 dX7_refill_25 rfl rfl ?_
    refine g_getf 0 (.int (iN (V_3 0 0))) fX7_83 om_0 dX7_refill_26 rfl ?_
    refine g_top (show _ = 2 from by rw [eV_3, up_eq]) ?_
    refine g_if_ne 42 dX7_refill_29 (by decide) (fun _ => ?_) (fun c_4 => absurd c_4 (by decide))
    refine g_iconst dX7_refill_42 ?_
    exact g_iret hq rfl rfl dX7_refill_43 (by rw [eV_3])

set_option maxHeartbeats 4000000 in
/-- reject(k, n, d) -/
theorem met_X7_reject {l : Launch} {D : va_G} {τ : Nat → ClassId} {a : Nat → Nat} (ha : Apart (LM τ) a) {V : Mem} (k : Nat) (n d : Int) (hok : okR V) (hk : (k : Int) < V 0 3) (hd : 1 ≤ d ∧ d ≤ 1000) (hn : 0 ≤ n ∧ n < d) : CI l D (tysL τ) (LM τ) a yX7_reject mX7_reject [.ref (a 0), .int (iN (k : Int)), .long (jN n), .long (jN d)] V (fun z V' => (z = 1 ∧ ¬ (V 5 k = n ∧ V 6 k = d) ∧ V' = up (up (up V 0 0 0) 5 k n) 6 k d) ∨ (z = 0 ∧ V 5 k = n ∧ V 6 k = d ∧ V' = up V 0 0 0)) := by
  refine CI.of (by decide +kernel) rfl (Nat.le_of_ble_eq_true rfl) ha (fun x hq => ?_)
  show G l D (tysL τ) (LM τ) a mX7_reject x 0 [(0, .ref (a 0)), (1, .int (iN (k : Int))), (2, .long (jN n)), (4, .long (jN d))] [] V
  obtain ⟨r2, r3, r10, r15, r18, q1, q1k, q2, q3, q4, q5, q6, q7, q7k, q8, q9, q10, q11, q12, q14, qr, qf⟩ := id hok
  have q5k := q5 k (by omega)
  have q6k := q6 k (by omega)
  refine g_lload 3 dX7_reject_0 rfl ?_
  refine g_lconst 1 dX7_reject_2 rfl ?_
  refine g_lcmp (cmpz d 1) dX7_reject_3 (cmpz_j (by omega) (by omega)) ?_
  have hcmp_1 := cmpz_c d 1
  refine g_if_lt 33 dX7_reject_4 (by decide) (fun c_2 => ?_) (fun c_2 => ?_)
  · omega
  · refine g_lload 3 dX7_reject_7 rfl ?_
    refine g_ldc2 1000 kX7_107 rfl dX7_reject_9 ?_
    refine g_lcmp (cmpz d 1000) dX7_reject_12 (cmpz_j (by omega) (by omega)) ?_
    have hcmp_3 := cmpz_c d 1000
    refine g_if_gt 33 dX7_reject_13 (by decide) (fun c_4 => ?_) (fun c_4 => ?_)
    · omega
    · refine g_lload_n 2 dX7_reject_16 rfl rfl ?_
      refine g_lconst 0 dX7_reject_17 rfl ?_
      refine g_lcmp (cmpz n 0) dX7_reject_18 (cmpz_j (by omega) (by omega)) ?_
      have hcmp_5 := cmpz_c n 0
      refine g_if_lt 33 dX7_reject_19 (by decide) (fun c_6 => ?_) (fun c_6 => ?_)
      · omega
      · refine g_lload_n 2 dX7_reject_22 rfl rfl ?_
        refine g_lload 3 dX7_reject_23 rfl ?_
        refine g_lcmp (cmpz n d) dX7_reject_25 (cmpz_j (by omega) (by omega)) ?_
        have hcmp_7 := cmpz_c n d
        refine g_if_ge 33 dX7_reject_26 (by decide) (fun c_8 => ?_) (fun c_8 => ?_)
        · omega
        · refine g_iconst dX7_reject_29 ?_
          refine g_goto 34 dX7_reject_30 (by decide) ?_
          refine g_istore [(6, .int (iN 1)), (0, .ref (a 0)), (1, .int (iN (k : Int))), (2, .long (jN n)), (4, .long (jN d))] dX7_reject_34 (by decide) rfl ?_
          refine g_aload_n 1 dX7_reject_36 rfl rfl ?_
          refine g_aload_n 1 dX7_reject_37 rfl rfl ?_
          refine g_iload_n 2 dX7_reject_38 rfl rfl ?_
          refine g_callI (k := 0) [.int (iN (k : Int))] (met_X7_isKind ha (k : Int) hok (by omega)) vX7_97 om_0 rfl rfl ⟨rfl, rfl, Nat.le_of_ble_eq_true rfl, Nat.le_of_ble_eq_true rfl⟩ rfl (Nat.le_of_ble_eq_true rfl) dX7_reject_39 rfl ?_
          rintro z9 V9 ⟨hp9, hV9⟩
          replace hV9 := hV9.symm
          subst hV9
          have hz9 : 1 = z9 := by omega
          subst hz9
          refine g_if_ne 49 dX7_reject_42 (by decide) (fun _ => ?_) (fun c_9 => absurd c_9 (by decide))
          refine g_iload 0 dX7_reject_49 rfl ?_
          refine g_if_eq 58 dX7_reject_51 (by decide) (fun c_10 => absurd c_10 (by decide)) (fun _ => ?_)
          refine g_iconst dX7_reject_54 ?_
          refine g_goto 59 dX7_reject_55 (by decide) ?_
          refine g_putf 0 (v := 0) (.int (iN 0)) pX7_83 om_0 dX7_reject_59 rfl rfl (Nat.le_of_ble_eq_true rfl) rfl ?_
          obtain ⟨V_11, eV_11⟩ : ∃ V9 : Mem, V9 = up V 0 0 0 := ⟨_, rfl⟩
          refine g_mem eV_11.symm ?_
          refine g_aload_n 1 dX7_reject_62 rfl rfl ?_
          refine g_getf 0 (.int (iN (V_11 0 0))) fX7_83 om_0 dX7_reject_63 rfl ?_
          refine g_top (show _ = 0 from by rw [eV_11, up_eq]) ?_
          refine g_if_ne 92 dX7_reject_66 (by decide) (fun c_12 => absurd c_12 (by decide)) (fun _ => ?_)
          refine g_aload_n 1 dX7_reject_69 rfl rfl ?_
          refine g_getf 0 (.ref (a 5)) fX7_22 om_0 dX7_reject_70 rfl ?_
          refine g_iload_n 2 dX7_reject_73 rfl rfl ?_
          refine g_lald 5 k am_5 dX7_reject_74 rfl (by omega) ?_
          refine g_topl (show _ = V 5 k from by rw [eV_11, up_ne (by omega)]) ?_
          refine g_lload_n 3 dX7_reject_75 rfl rfl ?_
          refine g_lcmp (cmpz (V 5 k) n) dX7_reject_76 (cmpz_j (by omega) (by omega)) ?_
          have hcmp_13 := cmpz_c (V 5 k) n
          refine g_if_ne 94 dX7_reject_77 (by decide) (fun c_14 => ?_) (fun c_14 => ?_)
          · refine g_aload_n 1 dX7_reject_94 rfl rfl ?_
            refine g_getf 0 (.ref (a 5)) fX7_22 om_0 dX7_reject_95 rfl ?_
            refine g_iload_n 2 dX7_reject_98 rfl rfl ?_
            refine g_lload_n 3 dX7_reject_99 rfl rfl ?_
            refine g_last 5 k am_5 dX7_reject_100 rfl (by omega) ?_
            obtain ⟨V_15, eV_15⟩ : ∃ V9 : Mem, V9 = up V_11 5 k n := ⟨_, rfl⟩
            refine g_mem eV_15.symm ?_
            refine g_aload_n 1 dX7_reject_101 rfl rfl ?_
            refine g_getf 0 (.ref (a 6)) fX7_26 om_0 dX7_reject_102 rfl ?_
            refine g_iload_n 2 dX7_reject_105 rfl rfl ?_
            refine g_lload 4 dX7_reject_106 rfl ?_
            refine g_last 6 k am_6 dX7_reject_108 rfl (by omega) ?_
            obtain ⟨V_16, eV_16⟩ : ∃ V9 : Mem, V9 = up V_15 6 k d := ⟨_, rfl⟩
            refine g_mem eV_16.symm ?_
            refine g_iconst dX7_reject_109 ?_
            exact g_iret hq rfl rfl dX7_reject_110 (Or.inl ⟨rfl, by omega, by rw [eV_16, eV_15, eV_11]⟩)
          · refine g_aload_n 1 dX7_reject_80 rfl rfl ?_
            refine g_getf 0 (.ref (a 6)) fX7_26 om_0 dX7_reject_81 rfl ?_
            refine g_iload_n 2 dX7_reject_84 rfl rfl ?_
            refine g_lald 6 k am_6 dX7_reject_85 rfl (by omega) ?_
            refine g_topl (show _ = V 6 k from by rw [eV_11, up_ne (by omega)]) ?_
            refine g_lload 4 dX7_reject_86 rfl ?_
            refine g_lcmp (cmpz (V 6 k) d) dX7_reject_88 (cmpz_j (by omega) (by omega)) ?_
            have hcmp_17 := cmpz_c (V 6 k) d
            refine g_if_ne 94 dX7_reject_89 (by decide) (fun c_18 => ?_) (fun c_18 => ?_)
            · refine g_aload_n 1 dX7_reject_94 rfl rfl ?_
              refine g_getf 0 (.ref (a 5)) fX7_22 om_0 dX7_reject_95 rfl ?_
              refine g_iload_n 2 dX7_reject_98 rfl rfl ?_
              refine g_lload_n 3 dX7_reject_99 rfl rfl ?_
              refine g_last 5 k am_5 dX7_reject_100 rfl (by omega) ?_
              obtain ⟨V_19, eV_19⟩ : ∃ V9 : Mem, V9 = up V_11 5 k n := ⟨_, rfl⟩
              refine g_mem eV_19.symm ?_
              refine g_aload_n 1 dX7_reject_101 rfl rfl ?_
              refine g_getf 0 (.ref (a 6)) fX7_26 om_0 dX7_reject_102 rfl ?_
              refine g_iload_n 2 dX7_reject_105 rfl rfl ?_
              refine g_lload 4 dX7_reject_106 rfl ?_
              refine g_last 6 k am_6 dX7_reject_108 rfl (by omega) ?_
              obtain ⟨V_20, eV_20⟩ : ∃ V9 : Mem, V9 = up V_19 6 k d := ⟨_, rfl⟩
              refine g_mem eV_20.symm ?_
              refine g_iconst dX7_reject_109 ?_
              exact g_iret hq rfl rfl dX7_reject_110 (Or.inl ⟨rfl, by omega, by rw [eV_20, eV_19, eV_11]⟩)
            · refine g_iconst dX7_reject_92 ?_
              exact g_iret hq rfl rfl dX7_reject_93 (Or.inr ⟨rfl, by omega, by omega, by rw [eV_11]⟩)

set_option maxHeartbeats 4000000 in
theorem met_X7_reject_b1 {l : Launch} {D : va_G} {τ : Nat → ClassId} {a : Nat → Nat} (ha : Apart (LM τ) a) {V : Mem} (k n d : Int) (hok : okR V) (hk0 : -2147483648 ≤ k ∧ k ≤ 2147483647) (hn0 : -9223372036854775808 ≤ n ∧ n ≤ 9223372036854775807) (hd0 : -9223372036854775808 ≤ d ∧ d ≤ 9223372036854775807) (hb : ¬ (0 ≤ k ∧ k < V 0 3)) : CI l D (tysL τ) (LM τ) a yX7_reject mX7_reject [.ref (a 0), .int (iN k), .long (jN n), .long (jN d)] V (fun z V' => V' = up V 0 0 1) := by
  refine CI.of (by decide +kernel) rfl (Nat.le_of_ble_eq_true rfl) ha (fun x hq => ?_)
  show G l D (tysL τ) (LM τ) a mX7_reject x 0 [(0, .ref (a 0)), (1, .int (iN k)), (2, .long (jN n)), (4, .long (jN d))] [] V
  obtain ⟨r2, r3, r10, r15, r18, q1, q1k, q2, q3, q4, q5, q6, q7, q7k, q8, q9, q10, q11, q12, q14, qr, qf⟩ := id hok
  refine g_lload 3 dX7_reject_0 rfl ?_
  refine g_lconst 1 dX7_reject_2 rfl ?_
  refine g_lcmp (cmpz d 1) dX7_reject_3 (cmpz_j (by omega) (by omega)) ?_
  have hcmp_1 := cmpz_c d 1
  refine g_if_lt 33 dX7_reject_4 (by decide) (fun c_2 => ?_) (fun c_2 => ?_)
  · refine g_iconst dX7_reject_33 ?_
    refine g_istore [(6, .int (iN 0)), (0, .ref (a 0)), (1, .int (iN k)), (2, .long (jN n)), (4, .long (jN d))] dX7_reject_34 (by decide) rfl ?_
    refine g_aload_n 1 dX7_reject_36 rfl rfl ?_
    refine g_aload_n 1 dX7_reject_37 rfl rfl ?_
    refine g_iload_n 2 dX7_reject_38 rfl rfl ?_
    refine g_callI (k := 0) [.int (iN k)] (met_X7_isKind ha k hok (by omega)) vX7_97 om_0 rfl rfl ⟨rfl, rfl, Nat.le_of_ble_eq_true rfl, Nat.le_of_ble_eq_true rfl⟩ rfl (Nat.le_of_ble_eq_true rfl) dX7_reject_39 rfl ?_
    rintro z9 V9 ⟨hp9, hV9⟩
    replace hV9 := hV9.symm
    subst hV9
    rcases hp9 with ⟨hz9, b_3⟩ | ⟨hz9, b_3⟩
    · subst hz9
      refine g_if_ne 49 dX7_reject_42 (by decide) (fun _ => ?_) (fun c_4 => absurd c_4 (by decide))
      omega
    · subst hz9
      refine g_if_ne 49 dX7_reject_42 (by decide) (fun c_5 => absurd c_5 (by decide)) (fun _ => ?_)
      refine g_iconst dX7_reject_45 ?_
      refine g_goto 59 dX7_reject_46 (by decide) ?_
      refine g_putf 0 (v := 1) (.int (iN 1)) pX7_83 om_0 dX7_reject_59 rfl rfl (Nat.le_of_ble_eq_true rfl) rfl ?_
      obtain ⟨V_6, eV_6⟩ : ∃ V9 : Mem, V9 = up V 0 0 1 := ⟨_, rfl⟩
      refine g_mem eV_6.symm ?_
      refine g_aload_n 1 dX7_reject_62 rfl rfl ?_
      refine g_getf 0 (.int (iN (V_6 0 0))) fX7_83 om_0 dX7_reject_63 rfl ?_
      refine g_top (show _ = 1 from by rw [eV_6, up_eq]) ?_
      refine g_if_ne 92 dX7_reject_66 (by decide) (fun _ => ?_) (fun c_7 => absurd c_7 (by decide))
      refine g_iconst dX7_reject_92 ?_
      exact g_iret hq rfl rfl dX7_reject_93 (by rw [eV_6])
  · refine g_lload 3 dX7_reject_7 rfl ?_
    refine g_ldc2 1000 kX7_107 rfl dX7_reject_9 ?_
    refine g_lcmp (cmpz d 1000) dX7_reject_12 (cmpz_j (by omega) (by omega)) ?_
    have hcmp_8 := cmpz_c d 1000
    refine g_if_gt 33 dX7_reject_13 (by decide) (fun c_9 => ?_) (fun c_9 => ?_)
    · refine g_iconst dX7_reject_33 ?_
      refine g_istore [(6, .int (iN 0)), (0, .ref (a 0)), (1, .int (iN k)), (2, .long (jN n)), (4, .long (jN d))] dX7_reject_34 (by decide) rfl ?_
      refine g_aload_n 1 dX7_reject_36 rfl rfl ?_
      refine g_aload_n 1 dX7_reject_37 rfl rfl ?_
      refine g_iload_n 2 dX7_reject_38 rfl rfl ?_
      refine g_callI (k := 0) [.int (iN k)] (met_X7_isKind ha k hok (by omega)) vX7_97 om_0 rfl rfl ⟨rfl, rfl, Nat.le_of_ble_eq_true rfl, Nat.le_of_ble_eq_true rfl⟩ rfl (Nat.le_of_ble_eq_true rfl) dX7_reject_39 rfl ?_
      rintro z9 V9 ⟨hp9, hV9⟩
      replace hV9 := hV9.symm
      subst hV9
      rcases hp9 with ⟨hz9, b_10⟩ | ⟨hz9, b_10⟩
      · subst hz9
        refine g_if_ne 49 dX7_reject_42 (by decide) (fun _ => ?_) (fun c_11 => absurd c_11 (by decide))
        omega
      · subst hz9
        refine g_if_ne 49 dX7_reject_42 (by decide) (fun c_12 => absurd c_12 (by decide)) (fun _ => ?_)
        refine g_iconst dX7_reject_45 ?_
        refine g_goto 59 dX7_reject_46 (by decide) ?_
        refine g_putf 0 (v := 1) (.int (iN 1)) pX7_83 om_0 dX7_reject_59 rfl rfl (Nat.le_of_ble_eq_true rfl) rfl ?_
        obtain ⟨V_13, eV_13⟩ : ∃ V9 : Mem, V9 = up V 0 0 1 := ⟨_, rfl⟩
        refine g_mem eV_13.symm ?_
        refine g_aload_n 1 dX7_reject_62 rfl rfl ?_
        refine g_getf 0 (.int (iN (V_13 0 0))) fX7_83 om_0 dX7_reject_63 rfl ?_
        refine g_top (show _ = 1 from by rw [eV_13, up_eq]) ?_
        refine g_if_ne 92 dX7_reject_66 (by decide) (fun _ => ?_) (fun c_14 => absurd c_14 (by decide))
        refine g_iconst dX7_reject_92 ?_
        exact g_iret hq rfl rfl dX7_reject_93 (by rw [eV_13])
    · refine g_lload_n 2 dX7_reject_16 rfl rfl ?_
      refine g_lconst 0 dX7_reject_17 rfl ?_
      refine g_lcmp (cmpz n 0) dX7_reject_18 (cmpz_j (by omega) (by omega)) ?_
      have hcmp_15 := cmpz_c n 0
      refine g_if_lt 33 dX7_reject_19 (by decide) (fun c_16 => ?_) (fun c_16 => ?_)
      · refine g_iconst dX7_reject_33 ?_
        refine g_istore [(6, .int (iN 0)), (0, .ref (a 0)), (1, .int (iN k)), (2, .long (jN n)), (4, .long (jN d))] dX7_reject_34 (by decide) rfl ?_
        refine g_aload_n 1 dX7_reject_36 rfl rfl ?_
        refine g_aload_n 1 dX7_reject_37 rfl rfl ?_
        refine g_iload_n 2 dX7_reject_38 rfl rfl ?_
        refine g_callI (k := 0) [.int (iN k)] (met_X7_isKind ha k hok (by omega)) vX7_97 om_0 rfl rfl ⟨rfl, rfl, Nat.le_of_ble_eq_true rfl, Nat.le_of_ble_eq_true rfl⟩ rfl (Nat.le_of_ble_eq_true rfl) dX7_reject_39 rfl ?_
        rintro z9 V9 ⟨hp9, hV9⟩
        replace hV9 := hV9.symm
        subst hV9
        rcases hp9 with ⟨hz9, b_17⟩ | ⟨hz9, b_17⟩
        · subst hz9
          refine g_if_ne 49 dX7_reject_42 (by decide) (fun _ => ?_) (fun c_18 => absurd c_18 (by decide))
          omega
        · subst hz9
          refine g_if_ne 49 dX7_reject_42 (by decide) (fun c_19 => absurd c_19 (by decide)) (fun _ => ?_)
          refine g_iconst dX7_reject_45 ?_
          refine g_goto 59 dX7_reject_46 (by decide) ?_
          refine g_putf 0 (v := 1) (.int (iN 1)) pX7_83 om_0 dX7_reject_59 rfl rfl (Nat.le_of_ble_eq_true rfl) rfl ?_
          obtain ⟨V_20, eV_20⟩ : ∃ V9 : Mem, V9 = up V 0 0 1 := ⟨_, rfl⟩
          refine g_mem eV_20.symm ?_
          refine g_aload_n 1 dX7_reject_62 rfl rfl ?_
          refine g_getf 0 (.int (iN (V_20 0 0))) fX7_83 om_0 dX7_reject_63 rfl ?_
          refine g_top (show _ = 1 from by rw [eV_20, up_eq]) ?_
          refine g_if_ne 92 dX7_reject_66 (by decide) (fun _ => ?_) (fun c_21 => absurd c_21 (by decide))
          refine g_iconst dX7_reject_92 ?_
          exact g_iret hq rfl rfl dX7_reject_93 (by rw [eV_20])
      · refine g_lload_n 2 dX7_reject_22 rfl rfl ?_
        refine g_lload 3 dX7_reject_23 rfl ?_
        refine g_lcmp (cmpz n d) dX7_reject_25 (cmpz_j (by omega) (by omega)) ?_
        have hcmp_22 := cmpz_c n d
        refine g_if_ge 33 dX7_reject_26 (by decide) (fun c_23 => ?_) (fun c_23 => ?_)
        · refine g_iconst dX7_reject_33 ?_
          refine g_istore [(6, .int (iN 0)), (0, .ref (a 0)), (1, .int (iN k)), (2, .long (jN n)), (4, .long (jN d))] dX7_reject_34 (by decide) rfl ?_
          refine g_aload_n 1 dX7_reject_36 rfl rfl ?_
          refine g_aload_n 1 dX7_reject_37 rfl rfl ?_
          refine g_iload_n 2 dX7_reject_38 rfl rfl ?_
          refine g_callI (k := 0) [.int (iN k)] (met_X7_isKind ha k hok (by omega)) vX7_97 om_0 rfl rfl ⟨rfl, rfl, Nat.le_of_ble_eq_true rfl, Nat.le_of_ble_eq_true rfl⟩ rfl (Nat.le_of_ble_eq_true rfl) dX7_reject_39 rfl ?_
          rintro z9 V9 ⟨hp9, hV9⟩
          replace hV9 := hV9.symm
          subst hV9
          rcases hp9 with ⟨hz9, b_24⟩ | ⟨hz9, b_24⟩
          · subst hz9
            refine g_if_ne 49 dX7_reject_42 (by decide) (fun _ => ?_) (fun c_25 => absurd c_25 (by decide))
            omega
          · subst hz9
            refine g_if_ne 49 dX7_reject_42 (by decide) (fun c_26 => absurd c_26 (by decide)) (fun _ => ?_)
            refine g_iconst dX7_reject_45 ?_
            refine g_goto 59 dX7_reject_46 (by decide) ?_
            refine g_putf 0 (v := 1) (.int (iN 1)) pX7_83 om_0 dX7_reject_59 rfl rfl (Nat.le_of_ble_eq_true rfl) rfl ?_
            obtain ⟨V_27, eV_27⟩ : ∃ V9 : Mem, V9 = up V 0 0 1 := ⟨_, rfl⟩
            refine g_mem eV_27.symm ?_
            refine g_aload_n 1 dX7_reject_62 rfl rfl ?_
            refine g_getf 0 (.int (iN (V_27 0 0))) fX7_83 om_0 dX7_reject_63 rfl ?_
            refine g_top (show _ = 1 from by rw [eV_27, up_eq]) ?_
            refine g_if_ne 92 dX7_reject_66 (by decide) (fun _ => ?_) (fun c_28 => absurd c_28 (by decide))
            refine g_iconst dX7_reject_92 ?_
            exact g_iret hq rfl rfl dX7_reject_93 (by rw [eV_27])
        · refine g_iconst dX7_reject_29 ?_
          refine g_goto 34 dX7_reject_30 (by decide) ?_
          refine g_istore [(6, .int (iN 1)), (0, .ref (a 0)), (1, .int (iN k)), (2, .long (jN n)), (4, .long (jN d))] dX7_reject_34 (by decide) rfl ?_
          refine g_aload_n 1 dX7_reject_36 rfl rfl ?_
          refine g_aload_n 1 dX7_reject_37 rfl rfl ?_
          refine g_iload_n 2 dX7_reject_38 rfl rfl ?_
          refine g_callI (k := 0) [.int (iN k)] (met_X7_isKind ha k hok (by omega)) vX7_97 om_0 rfl rfl ⟨rfl, rfl, Nat.le_of_ble_eq_true rfl, Nat.le_of_ble_eq_true rfl⟩ rfl (Nat.le_of_ble_eq_true rfl) dX7_reject_39 rfl ?_
          rintro z9 V9 ⟨hp9, hV9⟩
          replace hV9 := hV9.symm
          subst hV9
          rcases hp9 with ⟨hz9, b_29⟩ | ⟨hz9, b_29⟩
          · subst hz9
            refine g_if_ne 49 dX7_reject_42 (by decide) (fun _ => ?_) (fun c_30 => absurd c_30 (by decide))
            omega
          · subst hz9
            refine g_if_ne 49 dX7_reject_42 (by decide) (fun c_31 => absurd c_31 (by decide)) (fun _ => ?_)
            refine g_iconst dX7_reject_45 ?_
            refine g_goto 59 dX7_reject_46 (by decide) ?_
            refine g_putf 0 (v := 1) (.int (iN 1)) pX7_83 om_0 dX7_reject_59 rfl rfl (Nat.le_of_ble_eq_true rfl) rfl ?_
            obtain ⟨V_32, eV_32⟩ : ∃ V9 : Mem, V9 = up V 0 0 1 := ⟨_, rfl⟩
            refine g_mem eV_32.symm ?_
            refine g_aload_n 1 dX7_reject_62 rfl rfl ?_
            refine g_getf 0 (.int (iN (V_32 0 0))) fX7_83 om_0 dX7_reject_63 rfl ?_
            refine g_top (show _ = 1 from by rw [eV_32, up_eq]) ?_
            refine g_if_ne 92 dX7_reject_66 (by decide) (fun _ => ?_) (fun c_33 => absurd c_33 (by decide))
            refine g_iconst dX7_reject_92 ?_
            exact g_iret hq rfl rfl dX7_reject_93 (by rw [eV_32])

set_option maxHeartbeats 4000000 in
theorem met_X7_reject_b2 {l : Launch} {D : va_G} {τ : Nat → ClassId} {a : Nat → Nat} (ha : Apart (LM τ) a) {V : Mem} (k n d : Int) (hok : okR V) (hk0 : -2147483648 ≤ k ∧ k ≤ 2147483647) (hn0 : -9223372036854775808 ≤ n ∧ n ≤ 9223372036854775807) (hd0 : -9223372036854775808 ≤ d ∧ d ≤ 9223372036854775807) (hk : 0 ≤ k ∧ k < V 0 3) (hb : ¬ (1 ≤ d ∧ d ≤ 1000 ∧ 0 ≤ n ∧ n < d)) : CI l D (tysL τ) (LM τ) a yX7_reject mX7_reject [.ref (a 0), .int (iN k), .long (jN n), .long (jN d)] V (fun z V' => V' = up V 0 0 2) := by
  refine CI.of (by decide +kernel) rfl (Nat.le_of_ble_eq_true rfl) ha (fun x hq => ?_)
  show G l D (tysL τ) (LM τ) a mX7_reject x 0 [(0, .ref (a 0)), (1, .int (iN k)), (2, .long (jN n)), (4, .long (jN d))] [] V
  obtain ⟨r2, r3, r10, r15, r18, q1, q1k, q2, q3, q4, q5, q6, q7, q7k, q8, q9, q10, q11, q12, q14, qr, qf⟩ := id hok
  refine g_lload 3 dX7_reject_0 rfl ?_
  refine g_lconst 1 dX7_reject_2 rfl ?_
  refine g_lcmp (cmpz d 1) dX7_reject_3 (cmpz_j (by omega) (by omega)) ?_
  have hcmp_1 := cmpz_c d 1
  refine g_if_lt 33 dX7_reject_4 (by decide) (fun c_2 => ?_) (fun c_2 => ?_)
  · refine g_iconst dX7_reject_33 ?_
    refine g_istore [(6, .int (iN 0)), (0, .ref (a 0)), (1, .int (iN k)), (2, .long (jN n)), (4, .long (jN d))] dX7_reject_34 (by decide) rfl ?_
    refine g_aload_n 1 dX7_reject_36 rfl rfl ?_
    refine g_aload_n 1 dX7_reject_37 rfl rfl ?_
    refine g_iload_n 2 dX7_reject_38 rfl rfl ?_
    refine g_callI (k := 0) [.int (iN k)] (met_X7_isKind ha k hok (by omega)) vX7_97 om_0 rfl rfl ⟨rfl, rfl, Nat.le_of_ble_eq_true rfl, Nat.le_of_ble_eq_true rfl⟩ rfl (Nat.le_of_ble_eq_true rfl) dX7_reject_39 rfl ?_
    rintro z9 V9 ⟨hp9, hV9⟩
    replace hV9 := hV9.symm
    subst hV9
    have hz9 : 1 = z9 := by omega
    subst hz9
    refine g_if_ne 49 dX7_reject_42 (by decide) (fun _ => ?_) (fun c_3 => absurd c_3 (by decide))
    refine g_iload 0 dX7_reject_49 rfl ?_
    refine g_if_eq 58 dX7_reject_51 (by decide) (fun _ => ?_) (fun c_4 => absurd c_4 (by decide))
    refine g_iconst dX7_reject_58 ?_
    refine g_putf 0 (v := 2) (.int (iN 2)) pX7_83 om_0 dX7_reject_59 rfl rfl (Nat.le_of_ble_eq_true rfl) rfl ?_
    obtain ⟨V_5, eV_5⟩ : ∃ V9 : Mem, V9 = up V 0 0 2 := ⟨_, rfl⟩
    refine g_mem eV_5.symm ?_
    refine g_aload_n 1 dX7_reject_62 rfl rfl ?_
    refine g_getf 0 (.int (iN (V_5 0 0))) fX7_83 om_0 dX7_reject_63 rfl ?_
    refine g_top (show _ = 2 from by rw [eV_5, up_eq]) ?_
    refine g_if_ne 92 dX7_reject_66 (by decide) (fun _ => ?_) (fun c_6 => absurd c_6 (by decide))
    refine g_iconst dX7_reject_92 ?_
    exact g_iret hq rfl rfl dX7_reject_93 (by rw [eV_5])
  · refine g_lload 3 dX7_reject_7 rfl ?_
    refine g_ldc2 1000 kX7_107 rfl dX7_reject_9 ?_
    refine g_lcmp (cmpz d 1000) dX7_reject_12 (cmpz_j (by omega) (by omega)) ?_
    have hcmp_7 := cmpz_c d 1000
    refine g_if_gt 33 dX7_reject_13 (by decide) (fun c_8 => ?_) (fun c_8 => ?_)
    · refine g_iconst dX7_reject_33 ?_
      refine g_istore [(6, .int (iN 0)), (0, .ref (a 0)), (1, .int (iN k)), (2, .long (jN n)), (4, .long (jN d))] dX7_reject_34 (by decide) rfl ?_
      refine g_aload_n 1 dX7_reject_36 rfl rfl ?_
      refine g_aload_n 1 dX7_reject_37 rfl rfl ?_
      refine g_iload_n 2 dX7_reject_38 rfl rfl ?_
      refine g_callI (k := 0) [.int (iN k)] (met_X7_isKind ha k hok (by omega)) vX7_97 om_0 rfl rfl ⟨rfl, rfl, Nat.le_of_ble_eq_true rfl, Nat.le_of_ble_eq_true rfl⟩ rfl (Nat.le_of_ble_eq_true rfl) dX7_reject_39 rfl ?_
      rintro z9 V9 ⟨hp9, hV9⟩
      replace hV9 := hV9.symm
      subst hV9
      have hz9 : 1 = z9 := by omega
      subst hz9
      refine g_if_ne 49 dX7_reject_42 (by decide) (fun _ => ?_) (fun c_9 => absurd c_9 (by decide))
      refine g_iload 0 dX7_reject_49 rfl ?_
      refine g_if_eq 58 dX7_reject_51 (by decide) (fun _ => ?_) (fun c_10 => absurd c_10 (by decide))
      refine g_iconst dX7_reject_58 ?_
      refine g_putf 0 (v := 2) (.int (iN 2)) pX7_83 om_0 dX7_reject_59 rfl rfl (Nat.le_of_ble_eq_true rfl) rfl ?_
      obtain ⟨V_11, eV_11⟩ : ∃ V9 : Mem, V9 = up V 0 0 2 := ⟨_, rfl⟩
      refine g_mem eV_11.symm ?_
      refine g_aload_n 1 dX7_reject_62 rfl rfl ?_
      refine g_getf 0 (.int (iN (V_11 0 0))) fX7_83 om_0 dX7_reject_63 rfl ?_
      refine g_top (show _ = 2 from by rw [eV_11, up_eq]) ?_
      refine g_if_ne 92 dX7_reject_66 (by decide) (fun _ => ?_) (fun c_12 => absurd c_12 (by decide))
      refine g_iconst dX7_reject_92 ?_
      exact g_iret hq rfl rfl dX7_reject_93 (by rw [eV_11])
    · refine g_lload_n 2 dX7_reject_16 rfl rfl ?_
      refine g_lconst 0 dX7_reject_17 rfl ?_
      refine g_lcmp (cmpz n 0) dX7_reject_18 (cmpz_j (by omega) (by omega)) ?_
      have hcmp_13 := cmpz_c n 0
      refine g_if_lt 33 dX7_reject_19 (by decide) (fun c_14 => ?_) (fun c_14 => ?_)
      · refine g_iconst dX7_reject_33 ?_
        refine g_istore [(6, .int (iN 0)), (0, .ref (a 0)), (1, .int (iN k)), (2, .long (jN n)), (4, .long (jN d))] dX7_reject_34 (by decide) rfl ?_
        refine g_aload_n 1 dX7_reject_36 rfl rfl ?_
        refine g_aload_n 1 dX7_reject_37 rfl rfl ?_
        refine g_iload_n 2 dX7_reject_38 rfl rfl ?_
        refine g_callI (k := 0) [.int (iN k)] (met_X7_isKind ha k hok (by omega)) vX7_97 om_0 rfl rfl ⟨rfl, rfl, Nat.le_of_ble_eq_true rfl, Nat.le_of_ble_eq_true rfl⟩ rfl (Nat.le_of_ble_eq_true rfl) dX7_reject_39 rfl ?_
        rintro z9 V9 ⟨hp9, hV9⟩
        replace hV9 := hV9.symm
        subst hV9
        have hz9 : 1 = z9 := by omega
        subst hz9
        refine g_if_ne 49 dX7_reject_42 (by decide) (fun _ => ?_) (fun c_15 => absurd c_15 (by decide))
        refine g_iload 0 dX7_reject_49 rfl ?_
        refine g_if_eq 58 dX7_reject_51 (by decide) (fun _ => ?_) (fun c_16 => absurd c_16 (by decide))
        refine g_iconst dX7_reject_58 ?_
        refine g_putf 0 (v := 2) (.int (iN 2)) pX7_83 om_0 dX7_reject_59 rfl rfl (Nat.le_of_ble_eq_true rfl) rfl ?_
        obtain ⟨V_17, eV_17⟩ : ∃ V9 : Mem, V9 = up V 0 0 2 := ⟨_, rfl⟩
        refine g_mem eV_17.symm ?_
        refine g_aload_n 1 dX7_reject_62 rfl rfl ?_
        refine g_getf 0 (.int (iN (V_17 0 0))) fX7_83 om_0 dX7_reject_63 rfl ?_
        refine g_top (show _ = 2 from by rw [eV_17, up_eq]) ?_
        refine g_if_ne 92 dX7_reject_66 (by decide) (fun _ => ?_) (fun c_18 => absurd c_18 (by decide))
        refine g_iconst dX7_reject_92 ?_
        exact g_iret hq rfl rfl dX7_reject_93 (by rw [eV_17])
      · refine g_lload_n 2 dX7_reject_22 rfl rfl ?_
        refine g_lload 3 dX7_reject_23 rfl ?_
        refine g_lcmp (cmpz n d) dX7_reject_25 (cmpz_j (by omega) (by omega)) ?_
        have hcmp_19 := cmpz_c n d
        refine g_if_ge 33 dX7_reject_26 (by decide) (fun c_20 => ?_) (fun c_20 => ?_)
        · refine g_iconst dX7_reject_33 ?_
          refine g_istore [(6, .int (iN 0)), (0, .ref (a 0)), (1, .int (iN k)), (2, .long (jN n)), (4, .long (jN d))] dX7_reject_34 (by decide) rfl ?_
          refine g_aload_n 1 dX7_reject_36 rfl rfl ?_
          refine g_aload_n 1 dX7_reject_37 rfl rfl ?_
          refine g_iload_n 2 dX7_reject_38 rfl rfl ?_
          refine g_callI (k := 0) [.int (iN k)] (met_X7_isKind ha k hok (by omega)) vX7_97 om_0 rfl rfl ⟨rfl, rfl, Nat.le_of_ble_eq_true rfl, Nat.le_of_ble_eq_true rfl⟩ rfl (Nat.le_of_ble_eq_true rfl) dX7_reject_39 rfl ?_
          rintro z9 V9 ⟨hp9, hV9⟩
          replace hV9 := hV9.symm
          subst hV9
          have hz9 : 1 = z9 := by omega
          subst hz9
          refine g_if_ne 49 dX7_reject_42 (by decide) (fun _ => ?_) (fun c_21 => absurd c_21 (by decide))
          refine g_iload 0 dX7_reject_49 rfl ?_
          refine g_if_eq 58 dX7_reject_51 (by decide) (fun _ => ?_) (fun c_22 => absurd c_22 (by decide))
          refine g_iconst dX7_reject_58 ?_
          refine g_putf 0 (v := 2) (.int (iN 2)) pX7_83 om_0 dX7_reject_59 rfl rfl (Nat.le_of_ble_eq_true rfl) rfl ?_
          obtain ⟨V_23, eV_23⟩ : ∃ V9 : Mem, V9 = up V 0 0 2 := ⟨_, rfl⟩
          refine g_mem eV_23.symm ?_
          refine g_aload_n 1 dX7_reject_62 rfl rfl ?_
          refine g_getf 0 (.int (iN (V_23 0 0))) fX7_83 om_0 dX7_reject_63 rfl ?_
          refine g_top (show _ = 2 from by rw [eV_23, up_eq]) ?_
          refine g_if_ne 92 dX7_reject_66 (by decide) (fun _ => ?_) (fun c_24 => absurd c_24 (by decide))
          refine g_iconst dX7_reject_92 ?_
          exact g_iret hq rfl rfl dX7_reject_93 (by rw [eV_23])
        · omega

set_option maxHeartbeats 4000000 in
/-- slot(m, k) -/
theorem met_X7_slot {l : Launch} {D : va_G} {τ : Nat → ClassId} {a : Nat → Nat} (ha : Apart (LM τ) a) {V : Mem} (m k : Nat) (hok : okR V) (hm : (m : Int) < V 0 15) (hk : (k : Int) < V 0 3) : CI l D (tysL τ) (LM τ) a yX7_slot mX7_slot [.ref (a 0), .int (iN (m : Int)), .int (iN (k : Int))] V (fun z V' => z = V 13 (10 * m + k) ∧ V' = up V 0 0 0) := by
  refine CI.of (by decide +kernel) rfl (Nat.le_of_ble_eq_true rfl) ha (fun x hq => ?_)
  show G l D (tysL τ) (LM τ) a mX7_slot x 0 [(0, .ref (a 0)), (1, .int (iN (m : Int))), (2, .int (iN (k : Int)))] [] V
  obtain ⟨r2, r3, r10, r15, r18, q1, q1k, q2, q3, q4, q5, q6, q7, q7k, q8, q9, q10, q11, q12, q14, qr, qf⟩ := id hok
  refine g_aload_n 0 dX7_slot_0 rfl rfl ?_
  refine g_aload_n 0 dX7_slot_1 rfl rfl ?_
  refine g_iload_n 1 dX7_slot_2 rfl rfl ?_
  refine g_callI (k := 0) [.int (iN (m : Int))] (met_X7_isMachine ha (m : Int) hok (by omega)) vX7_216 om_0 rfl rfl ⟨rfl, rfl, Nat.le_of_ble_eq_true rfl, Nat.le_of_ble_eq_true rfl⟩ rfl (Nat.le_of_ble_eq_true rfl) dX7_slot_3 rfl ?_
  rintro z9 V9 ⟨hp9, hV9⟩
  replace hV9 := hV9.symm
  subst hV9
  have hz9 : 1 = z9 := by omega
  subst hz9
  refine g_if_eq 21 dX7_slot_6 (by decide) (fun c_1 => absurd c_1 (by decide)) (fun _ => ?_)
  refine g_aload_n 0 dX7_slot_9 rfl rfl ?_
  refine g_iload_n 2 dX7_slot_10 rfl rfl ?_
  refine g_callI (k := 0) [.int (iN (k : Int))] (met_X7_isKind ha (k : Int) hok (by omega)) vX7_97 om_0 rfl rfl ⟨rfl, rfl, Nat.le_of_ble_eq_true rfl, Nat.le_of_ble_eq_true rfl⟩ rfl (Nat.le_of_ble_eq_true rfl) dX7_slot_11 rfl ?_
  rintro z9 V9 ⟨hp9, hV9⟩
  replace hV9 := hV9.symm
  subst hV9
  have hz9 : 1 = z9 := by omega
  subst hz9
  refine g_if_eq 21 dX7_slot_14 (by decide) (fun c_2 => absurd c_2 (by decide)) (fun _ => ?_)
  refine g_iconst dX7_slot_17 ?_
  refine g_goto 22 dX7_slot_18 (by decide) ?_
  refine g_putf 0 (v := 0) (.int (iN 0)) pX7_83 om_0 dX7_slot_22 rfl rfl (Nat.le_of_ble_eq_true rfl) rfl ?_
  obtain ⟨V_3, eV_3⟩ : ∃ V9 : Mem, V9 = up V 0 0 0 := ⟨_, rfl⟩
  refine g_mem eV_3.symm ?_
  refine g_aload_n 0 dX7_slot_25 rfl rfl ?_
  refine g_getf 0 (.int (iN (V_3 0 0))) fX7_83 om_0 dX7_slot_26 rfl ?_
  refine g_top (show _ = 0 from by rw [eV_3, up_eq]) ?_
  refine g_if_ne 46 dX7_slot_29 (by decide) (fun c_4 => absurd c_4 (by decide)) (fun _ => ?_)
  refine g_aload_n 0 dX7_slot_32 rfl rfl ?_
  refine g_getf 0 (.ref (a 13)) fX7_47 om_0 dX7_slot_33 rfl ?_
  refine g_bipush dX7_slot_36 rfl ?_
  refine g_iload_n 1 dX7_slot_38 rfl rfl ?_
  refine g_imul dX7_slot_39 ?_
  refine g_iload_n 2 dX7_slot_40 rfl rfl ?_
  refine g_iadd dX7_slot_41 ?_
  refine g_iald 13 (10 * m + k) am_13 dX7_slot_42 (by omega) (by omega) ?_
  refine g_top (show _ = V 13 (10 * m + k) from by rw [eV_3, up_ne (by omega)]) ?_
  refine g_goto 47 dX7_slot_43 (by decide) ?_
  exact g_iret hq rfl rfl dX7_slot_47 (⟨rfl, by rw [eV_3]⟩)

set_option maxHeartbeats 4000000 in
theorem met_X7_slot_b1 {l : Launch} {D : va_G} {τ : Nat → ClassId} {a : Nat → Nat} (ha : Apart (LM τ) a) {V : Mem} (m k : Int) (hok : okR V) (hm0 : -2147483648 ≤ m ∧ m ≤ 2147483647) (hk0 : -2147483648 ≤ k ∧ k ≤ 2147483647) (hb : ¬ (0 ≤ m ∧ m < V 0 15 ∧ 0 ≤ k ∧ k < V 0 3)) : CI l D (tysL τ) (LM τ) a yX7_slot mX7_slot [.ref (a 0), .int (iN m), .int (iN k)] V (fun z V' => V' = up V 0 0 1) := by
  refine CI.of (by decide +kernel) rfl (Nat.le_of_ble_eq_true rfl) ha (fun x hq => ?_)
  show G l D (tysL τ) (LM τ) a mX7_slot x 0 [(0, .ref (a 0)), (1, .int (iN m)), (2, .int (iN k))] [] V
  obtain ⟨r2, r3, r10, r15, r18, q1, q1k, q2, q3, q4, q5, q6, q7, q7k, q8, q9, q10, q11, q12, q14, qr, qf⟩ := id hok
  refine g_aload_n 0 dX7_slot_0 rfl rfl ?_
  refine g_aload_n 0 dX7_slot_1 rfl rfl ?_
  refine g_iload_n 1 dX7_slot_2 rfl rfl ?_
  refine g_callI (k := 0) [.int (iN m)] (met_X7_isMachine ha m hok (by omega)) vX7_216 om_0 rfl rfl ⟨rfl, rfl, Nat.le_of_ble_eq_true rfl, Nat.le_of_ble_eq_true rfl⟩ rfl (Nat.le_of_ble_eq_true rfl) dX7_slot_3 rfl ?_
  rintro z9 V9 ⟨hp9, hV9⟩
  replace hV9 := hV9.symm
  subst hV9
  rcases hp9 with ⟨hz9, b_1⟩ | ⟨hz9, b_1⟩
  · subst hz9
    refine g_if_eq 21 dX7_slot_6 (by decide) (fun c_2 => absurd c_2 (by decide)) (fun _ => ?_)
    refine g_aload_n 0 dX7_slot_9 rfl rfl ?_
    refine g_iload_n 2 dX7_slot_10 rfl rfl ?_
    refine g_callI (k := 0) [.int (iN k)] (met_X7_isKind ha k hok (by omega)) vX7_97 om_0 rfl rfl ⟨rfl, rfl, Nat.le_of_ble_eq_true rfl, Nat.le_of_ble_eq_true rfl⟩ rfl (Nat.le_of_ble_eq_true rfl) dX7_slot_11 rfl ?_
    rintro z9 V9 ⟨hp9, hV9⟩
    replace hV9 := hV9.symm
    subst hV9
    rcases hp9 with ⟨hz9, b_3⟩ | ⟨hz9, b_3⟩
    · subst hz9
      refine g_if_eq 21 dX7_slot_14 (by decide) (fun c_4 => absurd c_4 (by decide)) (fun _ => ?_)
      omega
    · subst hz9
      refine g_if_eq 21 dX7_slot_14 (by decide) (fun _ => ?_) (fun c_5 => absurd c_5 (by decide))
      refine g_iconst dX7_slot_21 ?_
      refine g_putf 0 (v := 1) (.int (iN 1)) pX7_83 om_0 dX7_slot_22 rfl rfl (Nat.le_of_ble_eq_true rfl) rfl ?_
      obtain ⟨V_6, eV_6⟩ : ∃ V9 : Mem, V9 = up V 0 0 1 := ⟨_, rfl⟩
      refine g_mem eV_6.symm ?_
      refine g_aload_n 0 dX7_slot_25 rfl rfl ?_
      refine g_getf 0 (.int (iN (V_6 0 0))) fX7_83 om_0 dX7_slot_26 rfl ?_
      refine g_top (show _ = 1 from by rw [eV_6, up_eq]) ?_
      refine g_if_ne 46 dX7_slot_29 (by decide) (fun _ => ?_) (fun c_7 => absurd c_7 (by decide))
      refine g_iconst dX7_slot_46 ?_
      exact g_iret hq rfl rfl dX7_slot_47 (by rw [eV_6])
  · subst hz9
    refine g_if_eq 21 dX7_slot_6 (by decide) (fun _ => ?_) (fun c_8 => absurd c_8 (by decide))
    refine g_iconst dX7_slot_21 ?_
    refine g_putf 0 (v := 1) (.int (iN 1)) pX7_83 om_0 dX7_slot_22 rfl rfl (Nat.le_of_ble_eq_true rfl) rfl ?_
    obtain ⟨V_9, eV_9⟩ : ∃ V9 : Mem, V9 = up V 0 0 1 := ⟨_, rfl⟩
    refine g_mem eV_9.symm ?_
    refine g_aload_n 0 dX7_slot_25 rfl rfl ?_
    refine g_getf 0 (.int (iN (V_9 0 0))) fX7_83 om_0 dX7_slot_26 rfl ?_
    refine g_top (show _ = 1 from by rw [eV_9, up_eq]) ?_
    refine g_if_ne 46 dX7_slot_29 (by decide) (fun _ => ?_) (fun c_10 => absurd c_10 (by decide))
    refine g_iconst dX7_slot_46 ?_
    exact g_iret hq rfl rfl dX7_slot_47 (by rw [eV_9])

set_option maxHeartbeats 4000000 in
/-- order(m, i) -/
theorem met_X7_order {l : Launch} {D : va_G} {τ : Nat → ClassId} {a : Nat → Nat} (ha : Apart (LM τ) a) {V : Mem} (m : Nat) (i : Int) (hok : okR V) (hm : (m : Int) < V 0 15) (hi : -2147483648 ≤ i ∧ i ≤ 2147483647) : CI l D (tysL τ) (LM τ) a yX7_order mX7_order [.ref (a 0), .int (iN (m : Int)), .int (iN i)] V (fun z V' => z = (if 0 ≤ i ∧ i < V 14 m then V 15 (40 * m + i.toNat) else -1) ∧ V' = up V 0 0 0) := by
  refine CI.of (by decide +kernel) rfl (Nat.le_of_ble_eq_true rfl) ha (fun x hq => ?_)
  show G l D (tysL τ) (LM τ) a mX7_order x 0 [(0, .ref (a 0)), (1, .int (iN (m : Int))), (2, .int (iN i))] [] V
  obtain ⟨r2, r3, r10, r15, r18, q1, q1k, q2, q3, q4, q5, q6, q7, q7k, q8, q9, q10, q11, q12, q14, qr, qf⟩ := id hok
  have q14m := q14 m (by omega)
  refine g_aload_n 0 dX7_order_0 rfl rfl ?_
  refine g_aload_n 0 dX7_order_1 rfl rfl ?_
  refine g_iload_n 1 dX7_order_2 rfl rfl ?_
  refine g_callI (k := 0) [.int (iN (m : Int))] (met_X7_isMachine ha (m : Int) hok (by omega)) vX7_216 om_0 rfl rfl ⟨rfl, rfl, Nat.le_of_ble_eq_true rfl, Nat.le_of_ble_eq_true rfl⟩ rfl (Nat.le_of_ble_eq_true rfl) dX7_order_3 rfl ?_
  rintro z9 V9 ⟨hp9, hV9⟩
  replace hV9 := hV9.symm
  subst hV9
  have hz9 : 1 = z9 := by omega
  subst hz9
  refine g_if_eq 13 dX7_order_6 (by decide) (fun c_1 => absurd c_1 (by decide)) (fun _ => ?_)
  refine g_iconst dX7_order_9 ?_
  refine g_goto 14 dX7_order_10 (by decide) ?_
  refine g_putf 0 (v := 0) (.int (iN 0)) pX7_83 om_0 dX7_order_14 rfl rfl (Nat.le_of_ble_eq_true rfl) rfl ?_
  obtain ⟨V_2, eV_2⟩ : ∃ V9 : Mem, V9 = up V 0 0 0 := ⟨_, rfl⟩
  refine g_mem eV_2.symm ?_
  refine g_aload_n 0 dX7_order_17 rfl rfl ?_
  refine g_getf 0 (.int (iN (V_2 0 0))) fX7_83 om_0 dX7_order_18 rfl ?_
  refine g_top (show _ = 0 from by rw [eV_2, up_eq]) ?_
  refine g_if_eq 26 dX7_order_21 (by decide) (fun _ => ?_) (fun c_3 => absurd c_3 (by decide))
  refine g_iload_n 2 dX7_order_26 rfl rfl ?_
  refine g_if_lt 54 dX7_order_27 (by decide) (fun c_4 => ?_) (fun c_4 => ?_)
  · refine g_iconst dX7_order_54 ?_
    exact g_iret hq rfl rfl dX7_order_55 (⟨by rw [if_neg (by omega)], by rw [eV_2]⟩)
  · refine g_iload_n 2 dX7_order_30 rfl rfl ?_
    refine g_aload_n 0 dX7_order_31 rfl rfl ?_
    refine g_getf 0 (.ref (a 14)) fX7_50 om_0 dX7_order_32 rfl ?_
    refine g_iload_n 1 dX7_order_35 rfl rfl ?_
    refine g_iald 14 m am_14 dX7_order_36 rfl (by omega) ?_
    refine g_top (show _ = V 14 m from by rw [eV_2, up_ne (by omega)]) ?_
    refine g_icmp_ge 54 dX7_order_37 (by decide) (fun c_5 => ?_) (fun c_5 => ?_)
    · refine g_iconst dX7_order_54 ?_
      exact g_iret hq rfl rfl dX7_order_55 (⟨by rw [if_neg (by omega)], by rw [eV_2]⟩)
    · refine g_aload_n 0 dX7_order_40 rfl rfl ?_
      refine g_getf 0 (.ref (a 15)) fX7_53 om_0 dX7_order_41 rfl ?_
      refine g_bipush dX7_order_44 rfl ?_
      refine g_iload_n 1 dX7_order_46 rfl rfl ?_
      refine g_imul dX7_order_47 ?_
      refine g_iload_n 2 dX7_order_48 rfl rfl ?_
      refine g_iadd dX7_order_49 ?_
      refine g_iald 15 (40 * m + i.toNat) am_15 dX7_order_50 (by omega) (by omega) ?_
      refine g_top (show _ = V 15 (40 * m + i.toNat) from by rw [eV_2, up_ne (by omega)]) ?_
      refine g_goto 55 dX7_order_51 (by decide) ?_
      exact g_iret hq rfl rfl dX7_order_55 (⟨by rw [if_pos (by omega)], by rw [eV_2]⟩)

set_option maxHeartbeats 4000000 in
theorem met_X7_order_b1 {l : Launch} {D : va_G} {τ : Nat → ClassId} {a : Nat → Nat} (ha : Apart (LM τ) a) {V : Mem} (m i : Int) (hok : okR V) (hm0 : -2147483648 ≤ m ∧ m ≤ 2147483647) (hi0 : -2147483648 ≤ i ∧ i ≤ 2147483647) (hb : ¬ (0 ≤ m ∧ m < V 0 15)) : CI l D (tysL τ) (LM τ) a yX7_order mX7_order [.ref (a 0), .int (iN m), .int (iN i)] V (fun z V' => V' = up V 0 0 1) := by
  refine CI.of (by decide +kernel) rfl (Nat.le_of_ble_eq_true rfl) ha (fun x hq => ?_)
  show G l D (tysL τ) (LM τ) a mX7_order x 0 [(0, .ref (a 0)), (1, .int (iN m)), (2, .int (iN i))] [] V
  obtain ⟨r2, r3, r10, r15, r18, q1, q1k, q2, q3, q4, q5, q6, q7, q7k, q8, q9, q10, q11, q12, q14, qr, qf⟩ := id hok
  refine g_aload_n 0 dX7_order_0 rfl rfl ?_
  refine g_aload_n 0 dX7_order_1 rfl rfl ?_
  refine g_iload_n 1 dX7_order_2 rfl rfl ?_
  refine g_callI (k := 0) [.int (iN m)] (met_X7_isMachine ha m hok (by omega)) vX7_216 om_0 rfl rfl ⟨rfl, rfl, Nat.le_of_ble_eq_true rfl, Nat.le_of_ble_eq_true rfl⟩ rfl (Nat.le_of_ble_eq_true rfl) dX7_order_3 rfl ?_
  rintro z9 V9 ⟨hp9, hV9⟩
  replace hV9 := hV9.symm
  subst hV9
  rcases hp9 with ⟨hz9, b_1⟩ | ⟨hz9, b_1⟩
  · subst hz9
    refine g_if_eq 13 dX7_order_6 (by decide) (fun c_2 => absurd c_2 (by decide)) (fun _ => ?_)
    omega
  · subst hz9
    refine g_if_eq 13 dX7_order_6 (by decide) (fun _ => ?_) (fun c_3 => absurd c_3 (by decide))
    refine g_iconst dX7_order_13 ?_
    refine g_putf 0 (v := 1) (.int (iN 1)) pX7_83 om_0 dX7_order_14 rfl rfl (Nat.le_of_ble_eq_true rfl) rfl ?_
    obtain ⟨V_4, eV_4⟩ : ∃ V9 : Mem, V9 = up V 0 0 1 := ⟨_, rfl⟩
    refine g_mem eV_4.symm ?_
    refine g_aload_n 0 dX7_order_17 rfl rfl ?_
    refine g_getf 0 (.int (iN (V_4 0 0))) fX7_83 om_0 dX7_order_18 rfl ?_
    refine g_top (show _ = 1 from by rw [eV_4, up_eq]) ?_
    refine g_if_eq 26 dX7_order_21 (by decide) (fun c_5 => absurd c_5 (by decide)) (fun _ => ?_)
    refine g_iconst dX7_order_24 ?_
    exact g_iret hq rfl rfl dX7_order_25 (by rw [eV_4])

set_option maxHeartbeats 4000000 in
/-- placeOf(m, p) -/
theorem met_X7_placeOf {l : Launch} {D : va_G} {τ : Nat → ClassId} {a : Nat → Nat} (ha : Apart (LM τ) a) {V : Mem} (m : Nat) (p : Int) (hok : okR V) (hm : m < 3) (hp : -2147483648 ≤ p ∧ p ≤ 2147483647) : CI l D (tysL τ) (LM τ) a yX7_placeOf mX7_placeOf [.ref (a 0), .int (iN (m : Int)), .int (iN p)] V (fun z V' => z = plc (fun i => V 15 (40 * m + i)) p (V 14 m).toNat ∧ V' = V) := by
  refine CI.of (by decide +kernel) rfl (Nat.le_of_ble_eq_true rfl) ha (fun x hq => ?_)
  show G l D (tysL τ) (LM τ) a mX7_placeOf x 0 [(0, .ref (a 0)), (1, .int (iN (m : Int))), (2, .int (iN p))] [] V
  obtain ⟨r2, r3, r10, r15, r18, q1, q1k, q2, q3, q4, q5, q6, q7, q7k, q8, q9, q10, q11, q12, q14, qr, qf⟩ := id hok
  have q14m := q14 m hm
  have qrm := qr m hm
  refine g_iconst dX7_placeOf_0 ?_
  refine g_istore_n [(3, .int (iN 0)), (0, .ref (a 0)), (1, .int (iN (m : Int))), (2, .int (iN p))] dX7_placeOf_1 rfl (by decide) rfl ?_
  have lp_2 : ∀ (fuel : Nat) (i : Nat), ((i : Int) ≤ V 14 m) → (plc (fun i => V 15 (40 * m + i)) p i = -1) → ((V 14 m).toNat - i) < fuel → G l D (tysL τ) (LM τ) a mX7_placeOf x 2 [(0, .ref (a 0)), (1, .int (iN (m : Int))), (2, .int (iN p)), (3, .int (iN (i : Int)))] [] V := by
    intro fuel
    induction fuel with
    | zero => intro i hi hpl hfu; exact absurd hfu (Nat.not_lt_zero _)
    | succ fuel ih_2 =>
      intro i hi hpl hfu
      have hri := qrm i
      refine g_iload_n 3 dX7_placeOf_2 rfl rfl ?_
      refine g_aload_n 0 dX7_placeOf_3 rfl rfl ?_
      refine g_getf 0 (.ref (a 14)) fX7_50 om_0 dX7_placeOf_4 rfl ?_
      refine g_iload_n 1 dX7_placeOf_7 rfl rfl ?_
      refine g_iald 14 m am_14 dX7_placeOf_8 rfl (by omega) ?_
      refine g_icmp_ge 35 dX7_placeOf_9 (by decide) (fun c_1 => ?_) (fun c_1 => ?_)
      · refine g_iconst dX7_placeOf_35 ?_
        exact g_iret hq rfl rfl dX7_placeOf_36 (⟨by rw [show (V 14 m).toNat = i by omega, hpl], rfl⟩)
      · refine g_aload_n 0 dX7_placeOf_12 rfl rfl ?_
        refine g_getf 0 (.ref (a 15)) fX7_53 om_0 dX7_placeOf_13 rfl ?_
        refine g_bipush dX7_placeOf_16 rfl ?_
        refine g_iload_n 1 dX7_placeOf_18 rfl rfl ?_
        refine g_imul dX7_placeOf_19 ?_
        refine g_iload_n 3 dX7_placeOf_20 rfl rfl ?_
        refine g_iadd dX7_placeOf_21 ?_
        refine g_iald 15 (40 * m + i) am_15 dX7_placeOf_22 (by omega) (by omega) ?_
        refine g_iload_n 2 dX7_placeOf_23 rfl rfl ?_
        refine g_icmp_ne 29 dX7_placeOf_24 (by decide) (fun c_2 => ?_) (fun c_2 => ?_)
        · refine g_iinc 3 [(3, .int (iN ((i : Int) + 1))), (0, .ref (a 0)), (1, .int (iN (m : Int))), (2, .int (iN p))] dX7_placeOf_29 rfl (by decide) rfl ?_
          refine g_goto 2 dX7_placeOf_32 (by decide) ?_
          refine g_lv [1, 2, 3, 0] rfl ?_
          exact ih_2 (i + 1) (by omega) (plc_s hpl (by omega)) (by omega)
        · refine g_iload_n 3 dX7_placeOf_27 rfl rfl ?_
          exact g_iret hq rfl rfl dX7_placeOf_28 (⟨(plc_at (f := fun i => V 15 (40 * m + i)) hpl (by omega) (by omega)).symm, rfl⟩)
  refine g_lv [1, 2, 3, 0] rfl ?_
  exact lp_2 _ 0 (by omega) rfl (Nat.lt_succ_self _)

set_option maxHeartbeats 4000000 in
/-- machineFor(p) -/
theorem met_X7_machineFor {l : Launch} {D : va_G} {τ : Nat → ClassId} {a : Nat → Nat} (ha : Apart (LM τ) a) {V : Mem} (p : Int) (us : Nat) (hok : okR V) (hus : V 0 18 = (us : Int)) (hp : -2147483648 ≤ p ∧ p ≤ 2147483647) : CI l D (tysL τ) (LM τ) a yX7_machineFor mX7_machineFor [.ref (a 0), .int (iN p)] V (fun z V' => z = hst (fun m => plc (fun i => V 15 (40 * m + i)) p (V 14 m).toNat) us ∧ V' = V) := by
  refine CI.of (by decide +kernel) rfl (Nat.le_of_ble_eq_true rfl) ha (fun x hq => ?_)
  show G l D (tysL τ) (LM τ) a mX7_machineFor x 0 [(0, .ref (a 0)), (1, .int (iN p))] [] V
  obtain ⟨r2, r3, r10, r15, r18, q1, q1k, q2, q3, q4, q5, q6, q7, q7k, q8, q9, q10, q11, q12, q14, qr, qf⟩ := id hok
  refine g_iconst dX7_machineFor_0 ?_
  refine g_istore_n [(2, .int (iN 0)), (0, .ref (a 0)), (1, .int (iN p))] dX7_machineFor_1 rfl (by decide) rfl ?_
  have lp_2 : ∀ (fuel : Nat) (m : Nat), (m ≤ us) → (hst (fun m => plc (fun i => V 15 (40 * m + i)) p (V 14 m).toNat) m = -1) → (us - m) < fuel → G l D (tysL τ) (LM τ) a mX7_machineFor x 2 [(0, .ref (a 0)), (1, .int (iN p)), (2, .int (iN (m : Int)))] [] V := by
    intro fuel
    induction fuel with
    | zero => intro m hm0 hh hfu; exact absurd hfu (Nat.not_lt_zero _)
    | succ fuel ih_2 =>
      intro m hm0 hh hfu
      refine g_iload_n 2 dX7_machineFor_2 rfl rfl ?_
      refine g_aload_n 0 dX7_machineFor_3 rfl rfl ?_
      refine g_getf 0 (.int (iN (V 0 18))) fX7_109 om_0 dX7_machineFor_4 rfl ?_
      refine g_top (show V 0 18 = (us : Int) from hus) ?_
      refine g_icmp_ge 28 dX7_machineFor_7 (by decide) (fun c_1 => ?_) (fun c_1 => ?_)
      · refine g_iconst dX7_machineFor_28 ?_
        exact g_iret hq rfl rfl dX7_machineFor_29 (⟨by rw [show us = m by omega, hh], rfl⟩)
      · refine g_aload_n 0 dX7_machineFor_10 rfl rfl ?_
        refine g_iload_n 2 dX7_machineFor_11 rfl rfl ?_
        refine g_iload_n 1 dX7_machineFor_12 rfl rfl ?_
        have hpi := plc_in (f := fun i => V 15 (40 * m + i)) (p := p) (V 14 m).toNat
        have q14m := q14 m (by omega)
        refine g_callI (k := 0) [.int (iN (m : Int)), .int (iN p)] (met_X7_placeOf ha m p hok (by omega) hp) vX7_222 om_0 rfl rfl ⟨rfl, rfl, Nat.le_of_ble_eq_true rfl, Nat.le_of_ble_eq_true rfl⟩ rfl (Nat.le_of_ble_eq_true rfl) dX7_machineFor_13 rfl ?_
        rintro z9 V9 ⟨hz9, hV9⟩
        replace hz9 := hz9.symm
        replace hV9 := hV9.symm
        subst hz9
        subst hV9
        refine g_iconst dX7_machineFor_16 ?_
        refine g_icmp_eq 22 dX7_machineFor_17 (by decide) (fun c_2 => ?_) (fun c_2 => ?_)
        · refine g_iinc 2 [(2, .int (iN ((m : Int) + 1))), (0, .ref (a 0)), (1, .int (iN p))] dX7_machineFor_22 rfl (by decide) rfl ?_
          refine g_goto 2 dX7_machineFor_25 (by decide) ?_
          refine g_lv [1, 2, 0] rfl ?_
          exact ih_2 (m + 1) (by omega) (hst_s hh (by omega)) (by omega)
        · refine g_iload_n 2 dX7_machineFor_20 rfl rfl ?_
          exact g_iret hq rfl rfl dX7_machineFor_21 (⟨(hst_at (pl := fun m => plc (fun i => V 15 (40 * m + i)) p (V 14 m).toNat) hh (by omega) (by omega)).symm, rfl⟩)
  refine g_lv [1, 2, 0] rfl ?_
  exact lp_2 _ 0 (Nat.zero_le _) rfl (Nat.lt_succ_self _)
