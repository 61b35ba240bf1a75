/-! the rooms of the calls that return -/
abbrev nX6_kind : MInf := (cX6_kind, 3, RX6, some .int, { frames := 8, cells := 0, slots := 0, locals := 200 })
abbrev nX6_part : MInf := (cX6_part, 8, RX6, some .int, { frames := 9, cells := 0, slots := 0, locals := 221 })
abbrev nX6_machine : MInf := (cX6_machine, 3, RX6, some .int, { frames := 8, cells := 0, slots := 0, locals := 200 })
abbrev nX6_fixed : MInf := (cX6_fixed, 4, RX6, some .boolean, { frames := 9, cells := 0, slots := 0, locals := 221 })
abbrev nX6_run : MInf := (cX6_run, 5, RX6, some .int, { frames := 8, cells := 0, slots := 0, locals := 200 })
abbrev nX6_slot : MInf := (cX6_slot, 3, RX6, some .int, { frames := 9, cells := 0, slots := 0, locals := 221 })
abbrev nX6_order : MInf := (cX6_order, 3, RX6, some .int, { frames := 9, cells := 0, slots := 0, locals := 221 })
abbrev nX6_trip : MInf := (cX6_trip, 4, RX6, some .int, { frames := 9, cells := 0, slots := 0, locals := 221 })
abbrev nX6_lower : MInf := (cX6_lower, 5, RX6, some .boolean, { frames := 9, cells := 0, slots := 0, locals := 221 })
abbrev nX6_refill : MInf := (cX6_refill, 4, RX6, some .boolean, { frames := 9, cells := 0, slots := 0, locals := 221 })
abbrev nX6_reject : MInf := (cX6_reject, 7, RX6, some .boolean, { frames := 9, cells := 0, slots := 0, locals := 221 })
abbrev nX6_machineOf : MInf := (cX6_machineOf, 2, RX6, some .int, { frames := 9, cells := 0, slots := 0, locals := 221 })
abbrev nX6_improve : MInf := (cX6_improve, 2, RX6, some .int, { frames := 8, cells := 0, slots := 0, locals := 200 })
abbrev nX6_common : MInf := (cX6_common, 7, RX6, some .boolean, { frames := 9, cells := 0, slots := 0, locals := 221 })
abbrev nX6_changes : MInf := (cX6_changes, 2, RX6, some .int, { frames := 9, cells := 0, slots := 0, locals := 221 })
abbrev nX6_requireKind : MInf := (cX6_requireKind, 2, RX6, none, { frames := 8, cells := 0, slots := 0, locals := 200 })
abbrev nX6_requirePart : MInf := (cX6_requirePart, 2, RX6, none, { frames := 8, cells := 0, slots := 0, locals := 200 })
abbrev nX6_requireMachine : MInf := (cX6_requireMachine, 2, RX6, none, { frames := 8, cells := 0, slots := 0, locals := 200 })
/-- what holds of the class's memory between calls -/
def okC (V : Mem) : Prop :=
  (1 ≤ V 0 0 ∧ V 0 0 ≤ 120) ∧ (0 ≤ V 0 8 ∧ V 0 8 ≤ 3) ∧ (0 ≤ V 0 9 ∧ V 0 9 ≤ V 0 8) ∧ (0 ≤ V 2 6 ∧ V 2 6 ≤ 10) ∧ (0 ≤ V 9 4 ∧ V 9 4 ≤ 40) ∧
  (∀ k, k < 10 → 0 ≤ V 3 k ∧ V 3 k ≤ 4) ∧ (∀ k : Nat, (k : Int) < V 2 6 → 1 ≤ V 3 k) ∧ (∀ k, k < 10 → 0 ≤ V 4 k ∧ V 4 k ≤ 7) ∧ (∀ k, k < 10 → -1 ≤ V 5 k ∧ V 5 k ≤ 120) ∧ (∀ k, k < 10 → 0 ≤ V 6 k ∧ V 6 k ≤ 2147483647) ∧
  (∀ k : Nat, (k : Int) < V 2 6 → 0 ≤ V 7 k ∧ V 7 k < V 8 k) ∧ (∀ k : Nat, (k : Int) < V 2 6 → 1 ≤ V 8 k ∧ V 8 k ≤ 1000) ∧
  (∀ p, p < 40 → 0 ≤ V 10 p ∧ V 10 p < 10) ∧ (∀ p : Nat, (p : Int) < V 9 4 → V 10 p < V 2 6) ∧ (∀ p, p < 40 → 0 ≤ V 11 p ∧ V 11 p ≤ 100000) ∧ (∀ p, p < 40 → 0 ≤ V 12 p ∧ V 12 p ≤ 100000) ∧ (∀ p, p < 40 → 0 ≤ V 13 p ∧ V 13 p ≤ 10000) ∧
  (∀ m, m < 3 → 0 ≤ V (15 + 4 * m) 3 ∧ V (15 + 4 * m) 3 ≤ 255) ∧ (∀ m, m < 3 → 1 ≤ V (15 + 4 * m) 4 ∧ V (15 + 4 * m) 4 ≤ 6) ∧ (∀ m, m < 3 → 0 ≤ V (15 + 4 * m) 5 ∧ V (15 + 4 * m) 5 ≤ 40) ∧ (∀ m, m < 3 → 0 ≤ V (15 + 4 * m) 6 ∧ V (15 + 4 * m) 6 ≤ 100000000) ∧
  (∀ m, m < 3 → ∀ i : Nat, (i : Int) < V (15 + 4 * m) 5 → 0 ≤ V (15 + 4 * m + 1) i ∧ V (15 + 4 * m + 1) i < V 9 4) ∧ (∀ m, m < 3 → ∀ k, k < 10 → -1 ≤ V (15 + 4 * m + 2) k ∧ V (15 + 4 * m + 2) k ≤ 120) ∧ (∀ m, m < 3 → ∀ k, k < 10 → 0 ≤ V (15 + 4 * m + 3) k ∧ V (15 + 4 * m + 3) k ≤ 40)
set_option maxHeartbeats 4000000 in
/-- requireKind(k), a kind -/
theorem met_X6_requireKind {l : Launch} {D : va_G} {τ : Nat → ClassId} {a : Nat → Nat} (ha : Apart (LX τ) a) {V : Mem} (k : Int) (hok : okC V) (hk : 0 ≤ k ∧ k < V 2 6) : CV l D (tysL τ) (LX τ) a yX6_requireKind nX6_requireKind [.ref (a 0), .int (iN k)] V (fun V' => V' = V) := by
  refine CV.of (by decide +kernel) rfl (Nat.le_of_ble_eq_true rfl) ha (fun x hq => ?_)
  show G l D (tysL τ) (LX τ) a nX6_requireKind x 0 [(0, .ref (a 0)), (1, .int (iN k))] [] V
  obtain ⟨k00, k08, k09, k26, k94, k3, k3k, k4, k5, k6, k7, k8, k10, k10k, k11, k12, k13, kn, kc0, ks, kt, kr, kf, ka⟩ := id hok
  refine g_iload_n 1 dX6_requireKind_0 rfl rfl ?_
  refine g_if_lt 15 dX6_requireKind_1 (by decide) (fun c_1 => ?_) (fun c_1 => ?_)
  · omega
  · refine g_iload_n 1 dX6_requireKind_4 rfl rfl ?_
    refine g_aload_n 0 dX6_requireKind_5 rfl rfl ?_
    refine g_getf 0 (.ref (a 2)) fX6_10 ox_0 dX6_requireKind_6 rfl ?_
    refine g_getf 2 (.int (iN (V 2 6))) fX6_199 ox_2 dX6_requireKind_9 rfl ?_
    refine g_icmp_lt 25 dX6_requireKind_12 (by decide) (fun c_2 => ?_) (fun c_2 => ?_)
    · exact g_vret hq rfl dX6_requireKind_25 (rfl)
    · omega

set_option maxHeartbeats 4000000 in
/-- requireMachine(m), a machine -/
theorem met_X6_requireMachine {l : Launch} {D : va_G} {τ : Nat → ClassId} {a : Nat → Nat} (ha : Apart (LX τ) a) {V : Mem} (m : Int) (hok : okC V) (hm : 0 ≤ m ∧ m < V 0 8) : CV l D (tysL τ) (LX τ) a yX6_requireMachine nX6_requireMachine [.ref (a 0), .int (iN m)] V (fun V' => V' = V) := by
  refine CV.of (by decide +kernel) rfl (Nat.le_of_ble_eq_true rfl) ha (fun x hq => ?_)
  show G l D (tysL τ) (LX τ) a nX6_requireMachine x 0 [(0, .ref (a 0)), (1, .int (iN m))] [] V
  obtain ⟨k00, k08, k09, k26, k94, k3, k3k, k4, k5, k6, k7, k8, k10, k10k, k11, k12, k13, kn, kc0, ks, kt, kr, kf, ka⟩ := id hok
  refine g_iload_n 1 dX6_requireMachine_0 rfl rfl ?_
  refine g_if_lt 12 dX6_requireMachine_1 (by decide) (fun c_1 => ?_) (fun c_1 => ?_)
  · omega
  · refine g_iload_n 1 dX6_requireMachine_4 rfl rfl ?_
    refine g_aload_n 0 dX6_requireMachine_5 rfl rfl ?_
    refine g_getf 0 (.int (iN (V 0 8))) fX6_48 ox_0 dX6_requireMachine_6 rfl ?_
    refine g_icmp_lt 22 dX6_requireMachine_9 (by decide) (fun c_2 => ?_) (fun c_2 => ?_)
    · exact g_vret hq rfl dX6_requireMachine_22 (rfl)
    · omega

set_option maxHeartbeats 4000000 in
/-- requirePart(p), a part -/
theorem met_X6_requirePart {l : Launch} {D : va_G} {τ : Nat → ClassId} {a : Nat → Nat} (ha : Apart (LX τ) a) {V : Mem} (p : Int) (hok : okC V) (hp : 0 ≤ p ∧ p < V 9 4) : CV l D (tysL τ) (LX τ) a yX6_requirePart nX6_requirePart [.ref (a 0), .int (iN p)] V (fun V' => V' = V) := by
  refine CV.of (by decide +kernel) rfl (Nat.le_of_ble_eq_true rfl) ha (fun x hq => ?_)
  show G l D (tysL τ) (LX τ) a nX6_requirePart x 0 [(0, .ref (a 0)), (1, .int (iN p))] [] V
  obtain ⟨k00, k08, k09, k26, k94, k3, k3k, k4, k5, k6, k7, k8, k10, k10k, k11, k12, k13, kn, kc0, ks, kt, kr, kf, ka⟩ := id hok
  refine g_aload_n 0 dX6_requirePart_0 rfl rfl ?_
  refine g_getf 0 (.ref (a 9)) fX6_19 ox_0 dX6_requirePart_1 rfl ?_
  refine g_iload_n 1 dX6_requirePart_4 rfl rfl ?_
  refine g_callI (k := 9) [.int (iN p)] (met_X3_has ha p (by omega) (by omega)) vX6_213 ox_9 rfl rfl ⟨rfl, rfl, Nat.le_of_ble_eq_true rfl, Nat.le_of_ble_eq_true rfl⟩ rfl (Nat.le_of_ble_eq_true rfl) dX6_requirePart_5 rfl ?_
  rintro z9 V9 ⟨hp9, hV9⟩
  replace hV9 := hV9.symm
  subst hV9
  rcases hp9 with ⟨hz9, b_1⟩ | ⟨hz9, b_1⟩
  · subst hz9
    refine g_if_ne 21 dX6_requirePart_8 (by decide) (fun _ => ?_) (fun c_2 => absurd c_2 (by decide))
    exact g_vret hq rfl dX6_requirePart_21 (rfl)
  · subst hz9
    refine g_if_ne 21 dX6_requirePart_8 (by decide) (fun c_3 => absurd c_3 (by decide)) (fun _ => ?_)
    omega

set_option maxHeartbeats 4000000 in
/-- kind(w, z) -/
theorem met_X6_kind {l : Launch} {D : va_G} {τ : Nat → ClassId} {a : Nat → Nat} (ha : Apart (LX τ) a) {V : Mem} (w0 z0 : Int) (hok : okC V) (hw : 1 ≤ w0 ∧ w0 ≤ 4) (hz : 0 ≤ z0 ∧ z0 ≤ 7) : CI l D (tysL τ) (LX τ) a yX6_kind nX6_kind [.ref (a 0), .int (iN w0), .int (iN z0)] V (fun z V' => (10 ≤ V 2 6 ∧ z = -1 ∧ V' = V) ∨ (V 2 6 < 10 ∧ z = V 2 6 ∧ V' = up (up (up (up (up V 3 (V 2 6).toNat w0) 4 (V 2 6).toNat z0) 5 (V 2 6).toNat (-1)) 8 (V 2 6).toNat 1) 2 6 (V 2 6 + 1))) := by
  refine CI.of (by decide +kernel) rfl (Nat.le_of_ble_eq_true rfl) ha (fun x hq => ?_)
  show G l D (tysL τ) (LX τ) a nX6_kind x 0 [(0, .ref (a 0)), (1, .int (iN w0)), (2, .int (iN z0))] [] V
  obtain ⟨k00, k08, k09, k26, k94, k3, k3k, k4, k5, k6, k7, k8, k10, k10k, k11, k12, k13, kn, kc0, ks, kt, kr, kf, ka⟩ := id hok
  refine g_iload_n 1 dX6_kind_0 rfl rfl ?_
  refine g_iconst dX6_kind_1 ?_
  refine g_icmp_lt 10 dX6_kind_2 (by decide) (fun c_1 => ?_) (fun c_1 => ?_)
  · omega
  · refine g_iload_n 1 dX6_kind_5 rfl rfl ?_
    refine g_iconst dX6_kind_6 ?_
    refine g_icmp_le 20 dX6_kind_7 (by decide) (fun c_2 => ?_) (fun c_2 => ?_)
    · refine g_iload_n 2 dX6_kind_20 rfl rfl ?_
      refine g_if_lt 30 dX6_kind_21 (by decide) (fun c_3 => ?_) (fun c_3 => ?_)
      · omega
      · refine g_iload_n 2 dX6_kind_24 rfl rfl ?_
        refine g_bipush dX6_kind_25 rfl ?_
        refine g_icmp_le 40 dX6_kind_27 (by decide) (fun c_4 => ?_) (fun c_4 => ?_)
        · refine g_aload_n 0 dX6_kind_40 rfl rfl ?_
          refine g_getf 0 (.ref (a 2)) fX6_10 ox_0 dX6_kind_41 rfl ?_
          refine g_iload_n 1 dX6_kind_44 rfl rfl ?_
          refine g_iload_n 2 dX6_kind_45 rfl rfl ?_
          refine g_callI (k := 2) [.int (iN w0), .int (iN z0)] (met_X1_add ha w0 z0 k26) vX6_85 ox_2 rfl rfl ⟨rfl, rfl, Nat.le_of_ble_eq_true rfl, Nat.le_of_ble_eq_true rfl⟩ rfl (Nat.le_of_ble_eq_true rfl) dX6_kind_46 rfl ?_
          intro z9 V9 hz9
          exact g_iret hq rfl rfl dX6_kind_49 (hz9)
        · omega
    · omega

set_option maxHeartbeats 4000000 in
/-- part(k, x, y, h) -/
theorem met_X6_part {l : Launch} {D : va_G} {τ : Nat → ClassId} {a : Nat → Nat} (ha : Apart (LX τ) a) {V : Mem} (k x0 y0 h0 : Int) (hok : okC V) (hk : 0 ≤ k ∧ k < V 2 6) (hx : 0 ≤ x0 ∧ x0 ≤ 100000) (hy : 0 ≤ y0 ∧ y0 ≤ 100000) (hh : 0 ≤ h0 ∧ h0 ≤ 10000) : CI l D (tysL τ) (LX τ) a yX6_part nX6_part [.ref (a 0), .int (iN k), .long (jN x0), .long (jN y0), .long (jN h0)] V (fun z V' => (40 ≤ V 9 4 ∧ z = -1 ∧ V' = V) ∨ (V 9 4 < 40 ∧ z = V 9 4 ∧ V' = up (up (up (up (up V 10 (V 9 4).toNat k) 11 (V 9 4).toNat x0) 12 (V 9 4).toNat y0) 13 (V 9 4).toNat h0) 9 4 (V 9 4 + 1))) := by
  refine CI.of (by decide +kernel) rfl (Nat.le_of_ble_eq_true rfl) ha (fun x hq => ?_)
  show G l D (tysL τ) (LX τ) a nX6_part x 0 [(0, .ref (a 0)), (1, .int (iN k)), (2, .long (jN x0)), (4, .long (jN y0)), (6, .long (jN h0))] [] V
  obtain ⟨k00, k08, k09, k26, k94, k3, k3k, k4, k5, k6, k7, k8, k10, k10k, k11, k12, k13, kn, kc0, ks, kt, kr, kf, ka⟩ := id hok
  refine g_aload_n 0 dX6_part_0 rfl rfl ?_
  refine g_iload_n 1 dX6_part_1 rfl rfl ?_
  refine g_callV (k := 0) [.int (iN k)] (met_X6_requireKind ha k hok (by omega)) vX6_88 ox_0 rfl rfl ⟨rfl, rfl, Nat.le_of_ble_eq_true rfl, Nat.le_of_ble_eq_true rfl⟩ rfl (Nat.le_of_ble_eq_true rfl) dX6_part_2 rfl ?_
  intro V9 hV9
  replace hV9 := hV9.symm
  subst hV9
  refine g_lload_n 2 dX6_part_5 rfl rfl ?_
  refine g_lconst 0 dX6_part_6 rfl ?_
  refine g_lcmp (cmpz x0 0) dX6_part_7 (cmpz_j (by omega) (by omega)) ?_
  have hcmp_1 := cmpz_c x0 0
  refine g_if_lt 35 dX6_part_8 (by decide) (fun c_2 => ?_) (fun c_2 => ?_)
  · omega
  · refine g_lload_n 2 dX6_part_11 rfl rfl ?_
    refine g_ldc2 100000 kX6_92 rfl dX6_part_12 ?_
    refine g_lcmp (cmpz x0 100000) dX6_part_15 (cmpz_j (by omega) (by omega)) ?_
    have hcmp_3 := cmpz_c x0 100000
    refine g_if_gt 35 dX6_part_16 (by decide) (fun c_4 => ?_) (fun c_4 => ?_)
    · omega
    · refine g_lload 3 dX6_part_19 rfl ?_
      refine g_lconst 0 dX6_part_21 rfl ?_
      refine g_lcmp (cmpz y0 0) dX6_part_22 (cmpz_j (by omega) (by omega)) ?_
      have hcmp_5 := cmpz_c y0 0
      refine g_if_lt 35 dX6_part_23 (by decide) (fun c_6 => ?_) (fun c_6 => ?_)
      · omega
      · refine g_lload 3 dX6_part_26 rfl ?_
        refine g_ldc2 100000 kX6_92 rfl dX6_part_28 ?_
        refine g_lcmp (cmpz y0 100000) dX6_part_31 (cmpz_j (by omega) (by omega)) ?_
        have hcmp_7 := cmpz_c y0 100000
        refine g_if_le 45 dX6_part_32 (by decide) (fun c_8 => ?_) (fun c_8 => ?_)
        · refine g_lload 4 dX6_part_45 rfl ?_
          refine g_lconst 0 dX6_part_47 rfl ?_
          refine g_lcmp (cmpz h0 0) dX6_part_48 (cmpz_j (by omega) (by omega)) ?_
          have hcmp_9 := cmpz_c h0 0
          refine g_if_lt 61 dX6_part_49 (by decide) (fun c_10 => ?_) (fun c_10 => ?_)
          · omega
          · refine g_lload 4 dX6_part_52 rfl ?_
            refine g_ldc2 10000 kX6_96 rfl dX6_part_54 ?_
            refine g_lcmp (cmpz h0 10000) dX6_part_57 (cmpz_j (by omega) (by omega)) ?_
            have hcmp_11 := cmpz_c h0 10000
            refine g_if_le 71 dX6_part_58 (by decide) (fun c_12 => ?_) (fun c_12 => ?_)
            · refine g_aload_n 0 dX6_part_71 rfl rfl ?_
              refine g_getf 0 (.ref (a 9)) fX6_19 ox_0 dX6_part_72 rfl ?_
              refine g_iload_n 1 dX6_part_75 rfl rfl ?_
              refine g_lload_n 2 dX6_part_76 rfl rfl ?_
              refine g_l2i dX6_part_77 ?_
              refine g_lload 3 dX6_part_78 rfl ?_
              refine g_l2i dX6_part_80 ?_
              refine g_lload 4 dX6_part_81 rfl ?_
              refine g_l2i dX6_part_83 ?_
              refine g_callI (k := 9) [.int (iN k), .int (iN x0), .int (iN y0), .int (iN h0)] (met_X3_add ha k x0 y0 h0 k94) vX6_100 ox_9 rfl rfl ⟨rfl, rfl, Nat.le_of_ble_eq_true rfl, Nat.le_of_ble_eq_true rfl⟩ rfl (Nat.le_of_ble_eq_true rfl) dX6_part_84 rfl ?_
              intro z9 V9 hz9
              exact g_iret hq rfl rfl dX6_part_87 (hz9)
            · omega
        · omega

set_option maxHeartbeats 4000000 in
/-- machine(b, t) -/
theorem met_X6_machine {l : Launch} {D : va_G} {τ : Nat → ClassId} {a : Nat → Nat} (ha : Apart (LX τ) a) {V : Mem} (b t : Int) (mc : Nat) (hok : okC V) (hmc : V 0 8 = (mc : Int)) (hb : 0 ≤ b ∧ b ≤ 255) (ht : 1 ≤ t ∧ t ≤ 6) : CI l D (tysL τ) (LX τ) a yX6_machine nX6_machine [.ref (a 0), .int (iN b), .int (iN t)] V (fun z V' => (3 ≤ mc ∧ z = -1 ∧ V' = V) ∨ (mc < 3 ∧ z = (mc : Int) ∧ V' = up (up (up V (15 + 4 * mc) 3 b) (15 + 4 * mc) 4 t) 0 8 ((mc : Int) + 1))) := by
  refine CI.of (by decide +kernel) rfl (Nat.le_of_ble_eq_true rfl) ha (fun x hq => ?_)
  show G l D (tysL τ) (LX τ) a nX6_machine x 0 [(0, .ref (a 0)), (1, .int (iN b)), (2, .int (iN t))] [] V
  obtain ⟨k00, k08, k09, k26, k94, k3, k3k, k4, k5, k6, k7, k8, k10, k10k, k11, k12, k13, kn, kc0, ks, kt, kr, kf, ka⟩ := id hok
  refine g_iload_n 1 dX6_machine_0 rfl rfl ?_
  refine g_if_lt 11 dX6_machine_1 (by decide) (fun c_1 => ?_) (fun c_1 => ?_)
  · omega
  · refine g_iload_n 1 dX6_machine_4 rfl rfl ?_
    refine g_sipush dX6_machine_5 rfl ?_
    refine g_icmp_le 21 dX6_machine_8 (by decide) (fun c_2 => ?_) (fun c_2 => ?_)
    · refine g_iload_n 2 dX6_machine_21 rfl rfl ?_
      refine g_iconst dX6_machine_22 ?_
      refine g_icmp_lt 32 dX6_machine_23 (by decide) (fun c_3 => ?_) (fun c_3 => ?_)
      · omega
      · refine g_iload_n 2 dX6_machine_26 rfl rfl ?_
        refine g_bipush dX6_machine_27 rfl ?_
        refine g_icmp_le 42 dX6_machine_29 (by decide) (fun c_4 => ?_) (fun c_4 => ?_)
        · refine g_aload_n 0 dX6_machine_42 rfl rfl ?_
          refine g_getf 0 (.int (iN (V 0 8))) fX6_48 ox_0 dX6_machine_43 rfl ?_
          refine g_top (show V 0 8 = (mc : Int) from hmc) ?_
          refine g_iconst dX6_machine_46 ?_
          refine g_icmp_lt 52 dX6_machine_47 (by decide) (fun c_5 => ?_) (fun c_5 => ?_)
          · refine g_aload_n 0 dX6_machine_52 rfl rfl ?_
            refine g_getf 0 (.ref (a 14)) fX6_26 ox_0 dX6_machine_53 rfl ?_
            refine g_aload_n 0 dX6_machine_56 rfl rfl ?_
            refine g_getf 0 (.int (iN (V 0 8))) fX6_48 ox_0 dX6_machine_57 rfl ?_
            refine g_top (show V 0 8 = (mc : Int) from hmc) ?_
            refine g_aald 14 mc ax_14 dX6_machine_60 rfl (by omega) ?_
            refine g_iload_n 1 dX6_machine_61 rfl rfl ?_
            refine g_putf (15 + 4 * mc) (v := b) (.int (iN b)) pX6_107 (ox_M (m := mc) (by omega)) dX6_machine_62 rfl rfl (Nat.le_of_ble_eq_true rfl) rfl ?_
            obtain ⟨V_6, eV_6⟩ : ∃ V9 : Mem, V9 = up V (15 + 4 * mc) 3 b := ⟨_, rfl⟩
            refine g_mem eV_6.symm ?_
            refine g_aload_n 0 dX6_machine_65 rfl rfl ?_
            refine g_getf 0 (.ref (a 14)) fX6_26 ox_0 dX6_machine_66 rfl ?_
            refine g_aload_n 0 dX6_machine_69 rfl rfl ?_
            refine g_getf 0 (.int (iN (V_6 0 8))) fX6_48 ox_0 dX6_machine_70 rfl ?_
            refine g_top (show _ = V 0 8 from by rw [eV_6, up_ne (by omega)]) ?_
            refine g_top (show V 0 8 = (mc : Int) from hmc) ?_
            refine g_aald 14 mc ax_14 dX6_machine_73 rfl (by omega) ?_
            refine g_iload_n 2 dX6_machine_74 rfl rfl ?_
            refine g_putf (15 + 4 * mc) (v := t) (.int (iN t)) pX6_110 (ox_M (m := mc) (by omega)) dX6_machine_75 rfl rfl (Nat.le_of_ble_eq_true rfl) rfl ?_
            obtain ⟨V_7, eV_7⟩ : ∃ V9 : Mem, V9 = up V_6 (15 + 4 * mc) 4 t := ⟨_, rfl⟩
            refine g_mem eV_7.symm ?_
            refine g_aload_n 0 dX6_machine_78 rfl rfl ?_
            refine g_dup dX6_machine_79 rfl ?_
            refine g_getf 0 (.int (iN (V_7 0 8))) fX6_48 ox_0 dX6_machine_80 rfl ?_
            refine g_top (show _ = V 0 8 from by rw [eV_7, up_ne (by omega), eV_6, up_ne (by omega)]) ?_
            refine g_top (show V 0 8 = (mc : Int) from hmc) ?_
            refine g_iconst dX6_machine_83 ?_
            refine g_iadd dX6_machine_84 ?_
            refine g_putf 0 (v := (mc : Int) + 1) (.int (iN ((mc : Int) + 1))) pX6_48 ox_0 dX6_machine_85 rfl rfl (Nat.le_of_ble_eq_true rfl) rfl ?_
            obtain ⟨V_8, eV_8⟩ : ∃ V9 : Mem, V9 = up V_7 0 8 ((mc : Int) + 1) := ⟨_, rfl⟩
            refine g_mem eV_8.symm ?_
            refine g_aload_n 0 dX6_machine_88 rfl rfl ?_
            refine g_getf 0 (.int (iN (V_8 0 8))) fX6_48 ox_0 dX6_machine_89 rfl ?_
            refine g_top (show _ = (mc : Int) + 1 from by rw [eV_8, up_eq]) ?_
            refine g_iconst dX6_machine_92 ?_
            refine g_isub dX6_machine_93 ?_
            exact g_iret hq rfl rfl dX6_machine_94 (Or.inr ⟨by omega, by omega, by rw [eV_8, eV_7, eV_6]⟩)
          · refine g_iconst dX6_machine_50 ?_
            exact g_iret hq rfl rfl dX6_machine_51 (Or.inl ⟨by omega, rfl, rfl⟩)
        · omega
    · omega

set_option maxHeartbeats 4000000 in
/-- fixed(k, s) -/
theorem met_X6_fixed {l : Launch} {D : va_G} {τ : Nat → ClassId} {a : Nat → Nat} (ha : Apart (LX τ) a) {V : Mem} (k : Nat) (s0 : Int) (hok : okC V) (hk : (k : Int) < V 2 6) (hs : 0 ≤ s0 ∧ s0 < V 0 0) : CI l D (tysL τ) (LX τ) a yX6_fixed nX6_fixed [.ref (a 0), .int (iN (k : Int)), .int (iN s0)] V (fun z V' => (z = 1 ∧ (V 5 k = -1 ∧ s0 + V 3 k ≤ V 0 0 ∧ free (V 5) (V 3) (V 2 6).toNat s0 (V 3 k)) ∧ V' = up V 5 k s0) ∨ (z = 0 ∧ ¬ (V 5 k = -1 ∧ s0 + V 3 k ≤ V 0 0 ∧ free (V 5) (V 3) (V 2 6).toNat s0 (V 3 k)) ∧ V' = V)) := by
  refine CI.of (by decide +kernel) rfl (Nat.le_of_ble_eq_true rfl) ha (fun x hq => ?_)
  show G l D (tysL τ) (LX τ) a nX6_fixed x 0 [(0, .ref (a 0)), (1, .int (iN (k : Int))), (2, .int (iN s0))] [] V
  obtain ⟨k00, k08, k09, k26, k94, k3, k3k, k4, k5, k6, k7, k8, k10, k10k, k11, k12, k13, kn, kc0, ks, kt, kr, kf, ka⟩ := id hok
  have q3 := k3 k (by omega)
  have q5 := k5 k (by omega)
  refine g_aload_n 0 dX6_fixed_0 rfl rfl ?_
  refine g_iload_n 1 dX6_fixed_1 rfl rfl ?_
  refine g_callV (k := 0) [.int (iN (k : Int))] (met_X6_requireKind ha (k : Int) hok (by omega)) vX6_88 ox_0 rfl rfl ⟨rfl, rfl, Nat.le_of_ble_eq_true rfl, Nat.le_of_ble_eq_true rfl⟩ rfl (Nat.le_of_ble_eq_true rfl) dX6_fixed_2 rfl ?_
  intro V9 hV9
  replace hV9 := hV9.symm
  subst hV9
  refine g_iload_n 2 dX6_fixed_5 rfl rfl ?_
  refine g_if_lt 17 dX6_fixed_6 (by decide) (fun c_1 => ?_) (fun c_1 => ?_)
  · omega
  · refine g_iload_n 2 dX6_fixed_9 rfl rfl ?_
    refine g_aload_n 0 dX6_fixed_10 rfl rfl ?_
    refine g_getf 0 (.int (iN (V 0 0))) fX6_64 ox_0 dX6_fixed_11 rfl ?_
    refine g_icmp_lt 27 dX6_fixed_14 (by decide) (fun c_2 => ?_) (fun c_2 => ?_)
    · refine g_aload_n 0 dX6_fixed_27 rfl rfl ?_
      refine g_getf 0 (.ref (a 2)) fX6_10 ox_0 dX6_fixed_28 rfl ?_
      refine g_getf 2 (.ref (a 3)) fX6_118 ox_2 dX6_fixed_31 rfl ?_
      refine g_iload_n 1 dX6_fixed_34 rfl rfl ?_
      refine g_iald 3 k ax_3 dX6_fixed_35 rfl (by omega) ?_
      refine g_istore_n [(3, .int (iN (V 3 k))), (0, .ref (a 0)), (1, .int (iN (k : Int))), (2, .int (iN s0))] dX6_fixed_36 rfl (by decide) rfl ?_
      refine g_aload_n 1 dX6_fixed_37 rfl rfl ?_
      refine g_getf 0 (.ref (a 2)) fX6_10 ox_0 dX6_fixed_38 rfl ?_
      refine g_getf 2 (.ref (a 5)) fX6_121 ox_2 dX6_fixed_41 rfl ?_
      refine g_iload_n 2 dX6_fixed_44 rfl rfl ?_
      refine g_iald 5 k ax_5 dX6_fixed_45 rfl (by omega) ?_
      refine g_iconst dX6_fixed_46 ?_
      refine g_icmp_ne 79 dX6_fixed_47 (by decide) (fun c_3 => ?_) (fun c_3 => ?_)
      · refine g_iconst dX6_fixed_79 ?_
        exact g_iret hq rfl rfl dX6_fixed_80 (Or.inr ⟨rfl, fun h => by first | omega | exact h h.2.2, rfl⟩)
      · refine g_iload_n 3 dX6_fixed_50 rfl rfl ?_
        refine g_iload_n 0 dX6_fixed_51 rfl rfl ?_
        refine g_iadd dX6_fixed_52 ?_
        refine g_aload_n 1 dX6_fixed_53 rfl rfl ?_
        refine g_getf 0 (.int (iN (V 0 0))) fX6_64 ox_0 dX6_fixed_54 rfl ?_
        refine g_icmp_gt 79 dX6_fixed_57 (by decide) (fun c_4 => ?_) (fun c_4 => ?_)
        · refine g_iconst dX6_fixed_79 ?_
          exact g_iret hq rfl rfl dX6_fixed_80 (Or.inr ⟨rfl, fun h => by first | omega | exact h h.2.2, rfl⟩)
        · refine g_aload_n 1 dX6_fixed_60 rfl rfl ?_
          refine g_getf 0 (.ref (a 2)) fX6_10 ox_0 dX6_fixed_61 rfl ?_
          refine g_aload_n 1 dX6_fixed_64 rfl rfl ?_
          refine g_getf 0 (.ref (a 2)) fX6_10 ox_0 dX6_fixed_65 rfl ?_
          refine g_getf 2 (.ref (a 5)) fX6_121 ox_2 dX6_fixed_68 rfl ?_
          refine g_iload_n 3 dX6_fixed_71 rfl rfl ?_
          refine g_iload_n 0 dX6_fixed_72 rfl rfl ?_
          refine g_callI (k := 2) [.ref (a 5), .int (iN s0), .int (iN (V 3 k))] (met_X1_isFree ha (B := 5) ax_5 s0 (V 3 k) k26 (by omega) (by omega) (fun j hj => by have := k5 j hj; omega) (fun j hj => by have := k3 j hj; omega)) vX6_124 ox_2 rfl rfl ⟨rfl, rfl, Nat.le_of_ble_eq_true rfl, Nat.le_of_ble_eq_true rfl⟩ rfl (Nat.le_of_ble_eq_true rfl) dX6_fixed_73 rfl ?_
          rintro z9 V9 ⟨hp9, hV9⟩
          replace hV9 := hV9.symm
          subst hV9
          rcases hp9 with ⟨hz9, b_5⟩ | ⟨hz9, b_5⟩
          · subst hz9
            refine g_if_ne 81 dX6_fixed_76 (by decide) (fun _ => ?_) (fun c_6 => absurd c_6 (by decide))
            refine g_aload_n 1 dX6_fixed_81 rfl rfl ?_
            refine g_getf 0 (.ref (a 2)) fX6_10 ox_0 dX6_fixed_82 rfl ?_
            refine g_getf 2 (.ref (a 5)) fX6_121 ox_2 dX6_fixed_85 rfl ?_
            refine g_iload_n 2 dX6_fixed_88 rfl rfl ?_
            refine g_iload_n 3 dX6_fixed_89 rfl rfl ?_
            refine g_iast 5 k ax_5 dX6_fixed_90 rfl (by omega) ?_
            obtain ⟨V_7, eV_7⟩ : ∃ V9 : Mem, V9 = up V 5 k s0 := ⟨_, rfl⟩
            refine g_mem eV_7.symm ?_
            refine g_iconst dX6_fixed_91 ?_
            exact g_iret hq rfl rfl dX6_fixed_92 (Or.inl ⟨rfl, ⟨by omega, by omega, b_5⟩, eV_7⟩)
          · subst hz9
            refine g_if_ne 81 dX6_fixed_76 (by decide) (fun c_8 => absurd c_8 (by decide)) (fun _ => ?_)
            refine g_iconst dX6_fixed_79 ?_
            exact g_iret hq rfl rfl dX6_fixed_80 (Or.inr ⟨rfl, fun h => by first | omega | exact b_5 h.2.2, rfl⟩)
    · omega
