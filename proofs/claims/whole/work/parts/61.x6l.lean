theorem cl_IA : Cond.classLink "FeederOrders" 76 xIA ∈ tables_1 := List.mem_of_getElem? (i := 285) (by decide +kernel)
theorem in_IA : Cond.initialized xIA ∈ tables_1 := List.mem_of_getElem? (i := 14) (by decide +kernel)
theorem fit_IA : Bundle.fit xIA = true := by decide +kernel
theorem cl_IO : Cond.classLink "FeederOrders" 113 xIO ∈ tables_1 := List.mem_of_getElem? (i := 369) (by decide +kernel)
theorem in_IO : Cond.initialized xIO ∈ tables_1 := List.mem_of_getElem? (i := 15) (by decide +kernel)
theorem fit_IO : Bundle.fit xIO = true := by decide +kernel
theorem str_78 : Cond.stringRef "FeederOrders" 78 "a kind is 1 .. 4 slots wide" ∈ tables_1 := List.mem_of_getElem? (i := 325) (by decide +kernel)
theorem str_83 : Cond.stringRef "FeederOrders" 83 "a nozzle is 0 .. 7" ∈ tables_1 := List.mem_of_getElem? (i := 352) (by decide +kernel)
theorem str_211 : Cond.stringRef "FeederOrders" 211 "no such kind" ∈ tables_1 := List.mem_of_getElem? (i := 378) (by decide +kernel)
theorem str_94 : Cond.stringRef "FeederOrders" 94 "a place is 0 .. 100,000" ∈ tables_1 := List.mem_of_getElem? (i := 386) (by decide +kernel)
theorem str_98 : Cond.stringRef "FeederOrders" 98 "a height is 0 .. 10,000" ∈ tables_1 := List.mem_of_getElem? (i := 388) (by decide +kernel)
theorem str_103 : Cond.stringRef "FeederOrders" 103 "nozzles are 0 .. 255" ∈ tables_1 := List.mem_of_getElem? (i := 400) (by decide +kernel)
theorem str_105 : Cond.stringRef "FeederOrders" 105 "a trip is of 1 .. 6 parts" ∈ tables_1 := List.mem_of_getElem? (i := 401) (by decide +kernel)
theorem str_115 : Cond.stringRef "FeederOrders" 115 "no such slot" ∈ tables_1 := List.mem_of_getElem? (i := 409) (by decide +kernel)
theorem str_128 : Cond.stringRef "FeederOrders" 128 "machines are 0 .. 3" ∈ tables_1 := List.mem_of_getElem? (i := 421) (by decide +kernel)
theorem str_132 : Cond.stringRef "FeederOrders" 132 "steps are 0 .. 200" ∈ tables_1 := List.mem_of_getElem? (i := 423) (by decide +kernel)
theorem str_218 : Cond.stringRef "FeederOrders" 218 "no such machine" ∈ tables_1 := List.mem_of_getElem? (i := 602) (by decide +kernel)
theorem str_216 : Cond.stringRef "FeederOrders" 216 "no such part" ∈ tables_1 := List.mem_of_getElem? (i := 626) (by decide +kernel)
theorem str_182 : Cond.stringRef "FeederOrders" 182 "a refill is of 0 or more parts" ∈ tables_1 := List.mem_of_getElem? (i := 649) (by decide +kernel)
theorem str_189 : Cond.stringRef "FeederOrders" 189 "below is 1 .. 1,000" ∈ tables_1 := List.mem_of_getElem? (i := 658) (by decide +kernel)
theorem str_191 : Cond.stringRef "FeederOrders" 191 "above is 0 .. below - 1" ∈ tables_1 := List.mem_of_getElem? (i := 659) (by decide +kernel)
set_option maxHeartbeats 4000000 in
theorem thr_X6_requireKind_IO {l : Launch} (hl : l.stackTraces = false) {D : va_G} {τ : Nat → ClassId} {a : Nat → Nat} (ha : Apart (LX τ) a) {V : Mem} (k : Int) (hok : okC V) (hk0 : -2147483648 ≤ k ∧ k ≤ 2147483647) (hk : ¬ (0 ≤ k ∧ k < V 2 6)) : CT l D (tysL τ) (LX τ) a yX6_requireKind mX6_requireKind [.ref (a 0), .int (iN k)] V xIO := by
  refine CT.of (by decide +kernel) rfl (Nat.le_of_ble_eq_true rfl) ha (fun x hq => ?_)
  show G l D (tysL τ) (LX τ) a mX6_requireKind x 0 [(0, .ref (a 0)), (1, .int (iN k))] [] V
  obtain ⟨k00, k08, k09, k26, k94, k3, k3k, k4, k5, k6, k7, k8, k10, k10k, k11, k12, k13, kn, kc0, ks, kt, kr, kf, ka⟩ := id hok
  refine g_iload_n 1 dX6_requireKind_0 rfl rfl ?_
  refine g_if_lt 15 dX6_requireKind_1 (by decide) (fun c_1 => ?_) (fun c_1 => ?_)
  · exact g_throw hl hq rfl fit_IO own_IO cl_IO in_IO str_211 ⟨Nat.le_of_ble_eq_true rfl, Nat.le_of_ble_eq_true rfl, Nat.le_of_ble_eq_true rfl, Nat.le_of_ble_eq_true rfl⟩ dX6_requireKind_15 dX6_requireKind_18 dX6_requireKind_19 dX6_requireKind_21 dX6_requireKind_24
  · refine g_iload_n 1 dX6_requireKind_4 rfl rfl ?_
    refine g_aload_n 0 dX6_requireKind_5 rfl rfl ?_
    refine g_getf 0 (.ref (a 2)) fX6_10 ox_0 dX6_requireKind_6 rfl ?_
    refine g_getf 2 (.int (iN (V 2 6))) fX6_199 ox_2 dX6_requireKind_9 rfl ?_
    refine g_icmp_lt 25 dX6_requireKind_12 (by decide) (fun c_2 => ?_) (fun c_2 => ?_)
    · omega
    · exact g_throw hl hq rfl fit_IO own_IO cl_IO in_IO str_211 ⟨Nat.le_of_ble_eq_true rfl, Nat.le_of_ble_eq_true rfl, Nat.le_of_ble_eq_true rfl, Nat.le_of_ble_eq_true rfl⟩ dX6_requireKind_15 dX6_requireKind_18 dX6_requireKind_19 dX6_requireKind_21 dX6_requireKind_24

set_option maxHeartbeats 4000000 in
theorem thr_X6_requireMachine_IO {l : Launch} (hl : l.stackTraces = false) {D : va_G} {τ : Nat → ClassId} {a : Nat → Nat} (ha : Apart (LX τ) a) {V : Mem} (m : Int) (hok : okC V) (hm0 : -2147483648 ≤ m ∧ m ≤ 2147483647) (hm : ¬ (0 ≤ m ∧ m < V 0 8)) : CT l D (tysL τ) (LX τ) a yX6_requireMachine mX6_requireMachine [.ref (a 0), .int (iN m)] V xIO := by
  refine CT.of (by decide +kernel) rfl (Nat.le_of_ble_eq_true rfl) ha (fun x hq => ?_)
  show G l D (tysL τ) (LX τ) a mX6_requireMachine x 0 [(0, .ref (a 0)), (1, .int (iN m))] [] V
  obtain ⟨k00, k08, k09, k26, k94, k3, k3k, k4, k5, k6, k7, k8, k10, k10k, k11, k12, k13, kn, kc0, ks, kt, kr, kf, ka⟩ := id hok
  refine g_iload_n 1 dX6_requireMachine_0 rfl rfl ?_
  refine g_if_lt 12 dX6_requireMachine_1 (by decide) (fun c_1 => ?_) (fun c_1 => ?_)
  · exact g_throw hl hq rfl fit_IO own_IO cl_IO in_IO str_218 ⟨Nat.le_of_ble_eq_true rfl, Nat.le_of_ble_eq_true rfl, Nat.le_of_ble_eq_true rfl, Nat.le_of_ble_eq_true rfl⟩ dX6_requireMachine_12 dX6_requireMachine_15 dX6_requireMachine_16 dX6_requireMachine_18 dX6_requireMachine_21
  · refine g_iload_n 1 dX6_requireMachine_4 rfl rfl ?_
    refine g_aload_n 0 dX6_requireMachine_5 rfl rfl ?_
    refine g_getf 0 (.int (iN (V 0 8))) fX6_48 ox_0 dX6_requireMachine_6 rfl ?_
    refine g_icmp_lt 22 dX6_requireMachine_9 (by decide) (fun c_2 => ?_) (fun c_2 => ?_)
    · omega
    · exact g_throw hl hq rfl fit_IO own_IO cl_IO in_IO str_218 ⟨Nat.le_of_ble_eq_true rfl, Nat.le_of_ble_eq_true rfl, Nat.le_of_ble_eq_true rfl, Nat.le_of_ble_eq_true rfl⟩ dX6_requireMachine_12 dX6_requireMachine_15 dX6_requireMachine_16 dX6_requireMachine_18 dX6_requireMachine_21

set_option maxHeartbeats 4000000 in
theorem thr_X6_requirePart_IO {l : Launch} (hl : l.stackTraces = false) {D : va_G} {τ : Nat → ClassId} {a : Nat → Nat} (ha : Apart (LX τ) a) {V : Mem} (p : Int) (hok : okC V) (hp0 : -2147483648 ≤ p ∧ p ≤ 2147483647) (hp : ¬ (0 ≤ p ∧ p < V 9 4)) : CT l D (tysL τ) (LX τ) a yX6_requirePart mX6_requirePart [.ref (a 0), .int (iN p)] V xIO := by
  refine CT.of (by decide +kernel) rfl (Nat.le_of_ble_eq_true rfl) ha (fun x hq => ?_)
  show G l D (tysL τ) (LX τ) a mX6_requirePart x 0 [(0, .ref (a 0)), (1, .int (iN p))] [] V
  obtain ⟨k00, k08, k09, k26, k94, k3, k3k, k4, k5, k6, k7, k8, k10, k10k, k11, k12, k13, kn, kc0, ks, kt, kr, kf, ka⟩ := id hok
  refine g_aload_n 0 dX6_requirePart_0 rfl rfl ?_
  refine g_getf 0 (.ref (a 9)) fX6_19 ox_0 dX6_requirePart_1 rfl ?_
  refine g_iload_n 1 dX6_requirePart_4 rfl rfl ?_
  refine g_callI (k := 9) [.int (iN p)] (met_X3_has ha p (by omega) (by omega)) vX6_213 ox_9 rfl rfl ⟨rfl, rfl, Nat.le_of_ble_eq_true rfl, Nat.le_of_ble_eq_true rfl⟩ rfl (Nat.le_of_ble_eq_true rfl) dX6_requirePart_5 rfl ?_
  rintro z9 V9 ⟨hp9, hV9⟩
  replace hV9 := hV9.symm
  subst hV9
  rcases hp9 with ⟨hz9, b_1⟩ | ⟨hz9, b_1⟩
  · subst hz9
    refine g_if_ne 21 dX6_requirePart_8 (by decide) (fun _ => ?_) (fun c_2 => absurd c_2 (by decide))
    omega
  · subst hz9
    refine g_if_ne 21 dX6_requirePart_8 (by decide) (fun c_3 => absurd c_3 (by decide)) (fun _ => ?_)
    exact g_throw hl hq rfl fit_IO own_IO cl_IO in_IO str_216 ⟨Nat.le_of_ble_eq_true rfl, Nat.le_of_ble_eq_true rfl, Nat.le_of_ble_eq_true rfl, Nat.le_of_ble_eq_true rfl⟩ dX6_requirePart_11 dX6_requirePart_14 dX6_requirePart_15 dX6_requirePart_17 dX6_requirePart_20

set_option maxHeartbeats 4000000 in
theorem thr_X6_kind_IA {l : Launch} (hl : l.stackTraces = false) {D : va_G} {τ : Nat → ClassId} {a : Nat → Nat} (ha : Apart (LX τ) a) {V : Mem} (w0 z0 : Int) (hok : okC V) (hw0 : -2147483648 ≤ w0 ∧ w0 ≤ 2147483647) (hz0 : -2147483648 ≤ z0 ∧ z0 ≤ 2147483647) (hb : ¬ (1 ≤ w0 ∧ w0 ≤ 4 ∧ 0 ≤ z0 ∧ z0 ≤ 7)) : CT l D (tysL τ) (LX τ) a yX6_kind mX6_kind [.ref (a 0), .int (iN w0), .int (iN z0)] V xIA := by
  refine CT.of (by decide +kernel) rfl (Nat.le_of_ble_eq_true rfl) ha (fun x hq => ?_)
  show G l D (tysL τ) (LX τ) a mX6_kind x 0 [(0, .ref (a 0)), (1, .int (iN w0)), (2, .int (iN z0))] [] V
  obtain ⟨k00, k08, k09, k26, k94, k3, k3k, k4, k5, k6, k7, k8, k10, k10k, k11, k12, k13, kn, kc0, ks, kt, kr, kf, ka⟩ := id hok
  refine g_iload_n 1 dX6_kind_0 rfl rfl ?_
  refine g_iconst dX6_kind_1 ?_
  refine g_icmp_lt 10 dX6_kind_2 (by decide) (fun c_1 => ?_) (fun c_1 => ?_)
  · exact g_throw hl hq rfl fit_IA own_IA cl_IA in_IA str_78 ⟨Nat.le_of_ble_eq_true rfl, Nat.le_of_ble_eq_true rfl, Nat.le_of_ble_eq_true rfl, Nat.le_of_ble_eq_true rfl⟩ dX6_kind_10 dX6_kind_13 dX6_kind_14 dX6_kind_16 dX6_kind_19
  · refine g_iload_n 1 dX6_kind_5 rfl rfl ?_
    refine g_iconst dX6_kind_6 ?_
    refine g_icmp_le 20 dX6_kind_7 (by decide) (fun c_2 => ?_) (fun c_2 => ?_)
    · refine g_iload_n 2 dX6_kind_20 rfl rfl ?_
      refine g_if_lt 30 dX6_kind_21 (by decide) (fun c_3 => ?_) (fun c_3 => ?_)
      · exact g_throw hl hq rfl fit_IA own_IA cl_IA in_IA str_83 ⟨Nat.le_of_ble_eq_true rfl, Nat.le_of_ble_eq_true rfl, Nat.le_of_ble_eq_true rfl, Nat.le_of_ble_eq_true rfl⟩ dX6_kind_30 dX6_kind_33 dX6_kind_34 dX6_kind_36 dX6_kind_39
      · refine g_iload_n 2 dX6_kind_24 rfl rfl ?_
        refine g_bipush dX6_kind_25 rfl ?_
        refine g_icmp_le 40 dX6_kind_27 (by decide) (fun c_4 => ?_) (fun c_4 => ?_)
        · omega
        · exact g_throw hl hq rfl fit_IA own_IA cl_IA in_IA str_83 ⟨Nat.le_of_ble_eq_true rfl, Nat.le_of_ble_eq_true rfl, Nat.le_of_ble_eq_true rfl, Nat.le_of_ble_eq_true rfl⟩ dX6_kind_30 dX6_kind_33 dX6_kind_34 dX6_kind_36 dX6_kind_39
    · exact g_throw hl hq rfl fit_IA own_IA cl_IA in_IA str_78 ⟨Nat.le_of_ble_eq_true rfl, Nat.le_of_ble_eq_true rfl, Nat.le_of_ble_eq_true rfl, Nat.le_of_ble_eq_true rfl⟩ dX6_kind_10 dX6_kind_13 dX6_kind_14 dX6_kind_16 dX6_kind_19

set_option maxHeartbeats 4000000 in
theorem thr_X6_part_IO {l : Launch} (hl : l.stackTraces = false) {D : va_G} {τ : Nat → ClassId} {a : Nat → Nat} (ha : Apart (LX τ) a) {V : Mem} (k x0 y0 h0 : Int) (hok : okC V) (hk0 : -2147483648 ≤ k ∧ k ≤ 2147483647) (hx0 : -9223372036854775808 ≤ x0 ∧ x0 ≤ 9223372036854775807) (hy0 : -9223372036854775808 ≤ y0 ∧ y0 ≤ 9223372036854775807) (hh0 : -9223372036854775808 ≤ h0 ∧ h0 ≤ 9223372036854775807) (hb : ¬ (0 ≤ k ∧ k < V 2 6)) : CT l D (tysL τ) (LX τ) a yX6_part mX6_part [.ref (a 0), .int (iN k), .long (jN x0), .long (jN y0), .long (jN h0)] V xIO := by
  refine CT.of (by decide +kernel) rfl (Nat.le_of_ble_eq_true rfl) ha (fun x hq => ?_)
  show G l D (tysL τ) (LX τ) a mX6_part x 0 [(0, .ref (a 0)), (1, .int (iN k)), (2, .long (jN x0)), (4, .long (jN y0)), (6, .long (jN h0))] [] V
  obtain ⟨k00, k08, k09, k26, k94, k3, k3k, k4, k5, k6, k7, k8, k10, k10k, k11, k12, k13, kn, kc0, ks, kt, kr, kf, ka⟩ := id hok
  refine g_aload_n 0 dX6_part_0 rfl rfl ?_
  refine g_iload_n 1 dX6_part_1 rfl rfl ?_
  by_cases t_1 : 0 ≤ k ∧ k < V 2 6
  · refine g_callV (k := 0) [.int (iN k)] (met_X6_requireKind ha k hok (by omega)) vX6_88 ox_0 rfl rfl ⟨rfl, rfl, Nat.le_of_ble_eq_true rfl, Nat.le_of_ble_eq_true rfl⟩ rfl (Nat.le_of_ble_eq_true rfl) dX6_part_2 rfl ?_
    intro V9 hV9
    replace hV9 := hV9.symm
    subst hV9
    omega
  · exact g_callT [.int (iN k)] hq (thr_X6_requireKind_IO hl ha k hok (by omega) (by omega)) vX6_88 ox_0 rfl rfl ⟨Nat.le_of_ble_eq_true rfl, Nat.le_of_ble_eq_true rfl, Nat.le_of_ble_eq_true rfl, Nat.le_of_ble_eq_true rfl⟩ rfl (Nat.le_of_ble_eq_true rfl) dX6_part_2 rfl

set_option maxHeartbeats 4000000 in
theorem thr_X6_part_IA {l : Launch} (hl : l.stackTraces = false) {D : va_G} {τ : Nat → ClassId} {a : Nat → Nat} (ha : Apart (LX τ) a) {V : Mem} (k x0 y0 h0 : Int) (hok : okC V) (hk0 : -2147483648 ≤ k ∧ k ≤ 2147483647) (hx0 : -9223372036854775808 ≤ x0 ∧ x0 ≤ 9223372036854775807) (hy0 : -9223372036854775808 ≤ y0 ∧ y0 ≤ 9223372036854775807) (hh0 : -9223372036854775808 ≤ h0 ∧ h0 ≤ 9223372036854775807) (hk : 0 ≤ k ∧ k < V 2 6) (hb : ¬ (0 ≤ x0 ∧ x0 ≤ 100000 ∧ 0 ≤ y0 ∧ y0 ≤ 100000 ∧ 0 ≤ h0 ∧ h0 ≤ 10000)) : CT l D (tysL τ) (LX τ) a yX6_part mX6_part [.ref (a 0), .int (iN k), .long (jN x0), .long (jN y0), .long (jN h0)] V xIA := by
  refine CT.of (by decide +kernel) rfl (Nat.le_of_ble_eq_true rfl) ha (fun x hq => ?_)
  show G l D (tysL τ) (LX τ) a mX6_part x 0 [(0, .ref (a 0)), (1, .int (iN k)), (2, .long (jN x0)), (4, .long (jN y0)), (6, .long (jN h0))] [] V
  obtain ⟨k00, k08, k09, k26, k94, k3, k3k, k4, k5, k6, k7, k8, k10, k10k, k11, k12, k13, kn, kc0, ks, kt, kr, kf, ka⟩ := id hok
  refine g_aload_n 0 dX6_part_0 rfl rfl ?_
  refine g_iload_n 1 dX6_part_1 rfl rfl ?_
  refine g_callV (k := 0) [.int (iN k)] (met_X6_requireKind ha k hok (by omega)) vX6_88 ox_0 rfl rfl ⟨rfl, rfl, Nat.le_of_ble_eq_true rfl, Nat.le_of_ble_eq_true rfl⟩ rfl (Nat.le_of_ble_eq_true rfl) dX6_part_2 rfl ?_
  intro V9 hV9
  replace hV9 := hV9.symm
  subst hV9
  refine g_lload_n 2 dX6_part_5 rfl rfl ?_
  refine g_lconst 0 dX6_part_6 rfl ?_
  refine g_lcmp (cmpz x0 0) dX6_part_7 (cmpz_j (by omega) (by omega)) ?_
  have hcmp_1 := cmpz_c x0 0
  refine g_if_lt 35 dX6_part_8 (by decide) (fun c_2 => ?_) (fun c_2 => ?_)
  · exact g_throw hl hq rfl fit_IA own_IA cl_IA in_IA str_94 ⟨Nat.le_of_ble_eq_true rfl, Nat.le_of_ble_eq_true rfl, Nat.le_of_ble_eq_true rfl, Nat.le_of_ble_eq_true rfl⟩ dX6_part_35 dX6_part_38 dX6_part_39 dX6_part_41 dX6_part_44
  · refine g_lload_n 2 dX6_part_11 rfl rfl ?_
    refine g_ldc2 100000 kX6_92 rfl dX6_part_12 ?_
    refine g_lcmp (cmpz x0 100000) dX6_part_15 (cmpz_j (by omega) (by omega)) ?_
    have hcmp_3 := cmpz_c x0 100000
    refine g_if_gt 35 dX6_part_16 (by decide) (fun c_4 => ?_) (fun c_4 => ?_)
    · exact g_throw hl hq rfl fit_IA own_IA cl_IA in_IA str_94 ⟨Nat.le_of_ble_eq_true rfl, Nat.le_of_ble_eq_true rfl, Nat.le_of_ble_eq_true rfl, Nat.le_of_ble_eq_true rfl⟩ dX6_part_35 dX6_part_38 dX6_part_39 dX6_part_41 dX6_part_44
    · refine g_lload 3 dX6_part_19 rfl ?_
      refine g_lconst 0 dX6_part_21 rfl ?_
      refine g_lcmp (cmpz y0 0) dX6_part_22 (cmpz_j (by omega) (by omega)) ?_
      have hcmp_5 := cmpz_c y0 0
      refine g_if_lt 35 dX6_part_23 (by decide) (fun c_6 => ?_) (fun c_6 => ?_)
      · exact g_throw hl hq rfl fit_IA own_IA cl_IA in_IA str_94 ⟨Nat.le_of_ble_eq_true rfl, Nat.le_of_ble_eq_true rfl, Nat.le_of_ble_eq_true rfl, Nat.le_of_ble_eq_true rfl⟩ dX6_part_35 dX6_part_38 dX6_part_39 dX6_part_41 dX6_part_44
      · refine g_lload 3 dX6_part_26 rfl ?_
        refine g_ldc2 100000 kX6_92 rfl dX6_part_28 ?_
        refine g_lcmp (cmpz y0 100000) dX6_part_31 (cmpz_j (by omega) (by omega)) ?_
        have hcmp_7 := cmpz_c y0 100000
        refine g_if_le 45 dX6_part_32 (by decide) (fun c_8 => ?_) (fun c_8 => ?_)
        · refine g_lload 4 dX6_part_45 rfl ?_
          refine g_lconst 0 dX6_part_47 rfl ?_
          refine g_lcmp (cmpz h0 0) dX6_part_48 (cmpz_j (by omega) (by omega)) ?_
          have hcmp_9 := cmpz_c h0 0
          refine g_if_lt 61 dX6_part_49 (by decide) (fun c_10 => ?_) (fun c_10 => ?_)
          · exact g_throw hl hq rfl fit_IA own_IA cl_IA in_IA str_98 ⟨Nat.le_of_ble_eq_true rfl, Nat.le_of_ble_eq_true rfl, Nat.le_of_ble_eq_true rfl, Nat.le_of_ble_eq_true rfl⟩ dX6_part_61 dX6_part_64 dX6_part_65 dX6_part_67 dX6_part_70
          · refine g_lload 4 dX6_part_52 rfl ?_
            refine g_ldc2 10000 kX6_96 rfl dX6_part_54 ?_
            refine g_lcmp (cmpz h0 10000) dX6_part_57 (cmpz_j (by omega) (by omega)) ?_
            have hcmp_11 := cmpz_c h0 10000
            refine g_if_le 71 dX6_part_58 (by decide) (fun c_12 => ?_) (fun c_12 => ?_)
            · omega
            · exact g_throw hl hq rfl fit_IA own_IA cl_IA in_IA str_98 ⟨Nat.le_of_ble_eq_true rfl, Nat.le_of_ble_eq_true rfl, Nat.le_of_ble_eq_true rfl, Nat.le_of_ble_eq_true rfl⟩ dX6_part_61 dX6_part_64 dX6_part_65 dX6_part_67 dX6_part_70
        · exact g_throw hl hq rfl fit_IA own_IA cl_IA in_IA str_94 ⟨Nat.le_of_ble_eq_true rfl, Nat.le_of_ble_eq_true rfl, Nat.le_of_ble_eq_true rfl, Nat.le_of_ble_eq_true rfl⟩ dX6_part_35 dX6_part_38 dX6_part_39 dX6_part_41 dX6_part_44

set_option maxHeartbeats 4000000 in
theorem thr_X6_machine_IA {l : Launch} (hl : l.stackTraces = false) {D : va_G} {τ : Nat → ClassId} {a : Nat → Nat} (ha : Apart (LX τ) a) {V : Mem} (b t : Int) (hok : okC V) (hb0 : -2147483648 ≤ b ∧ b ≤ 2147483647) (ht0 : -2147483648 ≤ t ∧ t ≤ 2147483647) (hb : ¬ (0 ≤ b ∧ b ≤ 255 ∧ 1 ≤ t ∧ t ≤ 6)) : CT l D (tysL τ) (LX τ) a yX6_machine mX6_machine [.ref (a 0), .int (iN b), .int (iN t)] V xIA := by
  refine CT.of (by decide +kernel) rfl (Nat.le_of_ble_eq_true rfl) ha (fun x hq => ?_)
  show G l D (tysL τ) (LX τ) a mX6_machine x 0 [(0, .ref (a 0)), (1, .int (iN b)), (2, .int (iN t))] [] V
  obtain ⟨k00, k08, k09, k26, k94, k3, k3k, k4, k5, k6, k7, k8, k10, k10k, k11, k12, k13, kn, kc0, ks, kt, kr, kf, ka⟩ := id hok
  refine g_iload_n 1 dX6_machine_0 rfl rfl ?_
  refine g_if_lt 11 dX6_machine_1 (by decide) (fun c_1 => ?_) (fun c_1 => ?_)
  · exact g_throw hl hq rfl fit_IA own_IA cl_IA in_IA str_103 ⟨Nat.le_of_ble_eq_true rfl, Nat.le_of_ble_eq_true rfl, Nat.le_of_ble_eq_true rfl, Nat.le_of_ble_eq_true rfl⟩ dX6_machine_11 dX6_machine_14 dX6_machine_15 dX6_machine_17 dX6_machine_20
  · refine g_iload_n 1 dX6_machine_4 rfl rfl ?_
    refine g_sipush dX6_machine_5 rfl ?_
    refine g_icmp_le 21 dX6_machine_8 (by decide) (fun c_2 => ?_) (fun c_2 => ?_)
    · refine g_iload_n 2 dX6_machine_21 rfl rfl ?_
      refine g_iconst dX6_machine_22 ?_
      refine g_icmp_lt 32 dX6_machine_23 (by decide) (fun c_3 => ?_) (fun c_3 => ?_)
      · exact g_throw hl hq rfl fit_IA own_IA cl_IA in_IA str_105 ⟨Nat.le_of_ble_eq_true rfl, Nat.le_of_ble_eq_true rfl, Nat.le_of_ble_eq_true rfl, Nat.le_of_ble_eq_true rfl⟩ dX6_machine_32 dX6_machine_35 dX6_machine_36 dX6_machine_38 dX6_machine_41
      · refine g_iload_n 2 dX6_machine_26 rfl rfl ?_
        refine g_bipush dX6_machine_27 rfl ?_
        refine g_icmp_le 42 dX6_machine_29 (by decide) (fun c_4 => ?_) (fun c_4 => ?_)
        · omega
        · exact g_throw hl hq rfl fit_IA own_IA cl_IA in_IA str_105 ⟨Nat.le_of_ble_eq_true rfl, Nat.le_of_ble_eq_true rfl, Nat.le_of_ble_eq_true rfl, Nat.le_of_ble_eq_true rfl⟩ dX6_machine_32 dX6_machine_35 dX6_machine_36 dX6_machine_38 dX6_machine_41
    · exact g_throw hl hq rfl fit_IA own_IA cl_IA in_IA str_103 ⟨Nat.le_of_ble_eq_true rfl, Nat.le_of_ble_eq_true rfl, Nat.le_of_ble_eq_true rfl, Nat.le_of_ble_eq_true rfl⟩ dX6_machine_11 dX6_machine_14 dX6_machine_15 dX6_machine_17 dX6_machine_20

set_option maxHeartbeats 4000000 in
theorem thr_X6_fixed_IO {l : Launch} (hl : l.stackTraces = false) {D : va_G} {τ : Nat → ClassId} {a : Nat → Nat} (ha : Apart (LX τ) a) {V : Mem} (k s0 : Int) (hok : okC V) (hk0 : -2147483648 ≤ k ∧ k ≤ 2147483647) (hs0 : -2147483648 ≤ s0 ∧ s0 ≤ 2147483647) (hb : ¬ (0 ≤ k ∧ k < V 2 6 ∧ 0 ≤ s0 ∧ s0 < V 0 0)) : CT l D (tysL τ) (LX τ) a yX6_fixed mX6_fixed [.ref (a 0), .int (iN k), .int (iN s0)] V xIO := by
  refine CT.of (by decide +kernel) rfl (Nat.le_of_ble_eq_true rfl) ha (fun x hq => ?_)
  show G l D (tysL τ) (LX τ) a mX6_fixed x 0 [(0, .ref (a 0)), (1, .int (iN k)), (2, .int (iN s0))] [] V
  obtain ⟨k00, k08, k09, k26, k94, k3, k3k, k4, k5, k6, k7, k8, k10, k10k, k11, k12, k13, kn, kc0, ks, kt, kr, kf, ka⟩ := id hok
  refine g_aload_n 0 dX6_fixed_0 rfl rfl ?_
  refine g_iload_n 1 dX6_fixed_1 rfl rfl ?_
  by_cases t_1 : 0 ≤ k ∧ k < V 2 6
  · refine g_callV (k := 0) [.int (iN k)] (met_X6_requireKind ha k hok (by omega)) vX6_88 ox_0 rfl rfl ⟨rfl, rfl, Nat.le_of_ble_eq_true rfl, Nat.le_of_ble_eq_true rfl⟩ rfl (Nat.le_of_ble_eq_true rfl) dX6_fixed_2 rfl ?_
    intro V9 hV9
    replace hV9 := hV9.symm
    subst hV9
    refine g_iload_n 2 dX6_fixed_5 rfl rfl ?_
    refine g_if_lt 17 dX6_fixed_6 (by decide) (fun c_2 => ?_) (fun c_2 => ?_)
    · exact g_throw hl hq rfl fit_IO own_IO cl_IO in_IO str_115 ⟨Nat.le_of_ble_eq_true rfl, Nat.le_of_ble_eq_true rfl, Nat.le_of_ble_eq_true rfl, Nat.le_of_ble_eq_true rfl⟩ dX6_fixed_17 dX6_fixed_20 dX6_fixed_21 dX6_fixed_23 dX6_fixed_26
    · refine g_iload_n 2 dX6_fixed_9 rfl rfl ?_
      refine g_aload_n 0 dX6_fixed_10 rfl rfl ?_
      refine g_getf 0 (.int (iN (V 0 0))) fX6_64 ox_0 dX6_fixed_11 rfl ?_
      refine g_icmp_lt 27 dX6_fixed_14 (by decide) (fun c_3 => ?_) (fun c_3 => ?_)
      · omega
      · exact g_throw hl hq rfl fit_IO own_IO cl_IO in_IO str_115 ⟨Nat.le_of_ble_eq_true rfl, Nat.le_of_ble_eq_true rfl, Nat.le_of_ble_eq_true rfl, Nat.le_of_ble_eq_true rfl⟩ dX6_fixed_17 dX6_fixed_20 dX6_fixed_21 dX6_fixed_23 dX6_fixed_26
  · exact g_callT [.int (iN k)] hq (thr_X6_requireKind_IO hl ha k hok (by omega) (by omega)) vX6_88 ox_0 rfl rfl ⟨Nat.le_of_ble_eq_true rfl, Nat.le_of_ble_eq_true rfl, Nat.le_of_ble_eq_true rfl, Nat.le_of_ble_eq_true rfl⟩ rfl (Nat.le_of_ble_eq_true rfl) dX6_fixed_2 rfl

set_option maxHeartbeats 4000000 in
theorem thr_X6_run_IA {l : Launch} (hl : l.stackTraces = false) {D : va_G} {τ : Nat → ClassId} {a : Nat → Nat} (ha : Apart (LX τ) a) {V : Mem} (mm st : Int) (hok : okC V) (hm0 : -2147483648 ≤ mm ∧ mm ≤ 2147483647) (hs0 : -9223372036854775808 ≤ st ∧ st ≤ 9223372036854775807) (hb : ¬ (0 ≤ mm ∧ mm ≤ 3 ∧ 0 ≤ st ∧ st ≤ 200)) : CT l D (tysL τ) (LX τ) a yX6_run mX6_run [.ref (a 0), .int (iN mm), .long (jN st)] V xIA := by
  refine CT.of (by decide +kernel) rfl (Nat.le_of_ble_eq_true rfl) ha (fun x hq => ?_)
  show G l D (tysL τ) (LX τ) a mX6_run x 0 [(0, .ref (a 0)), (1, .int (iN mm)), (2, .long (jN st))] [] V
  obtain ⟨k00, k08, k09, k26, k94, k3, k3k, k4, k5, k6, k7, k8, k10, k10k, k11, k12, k13, kn, kc0, ks, kt, kr, kf, ka⟩ := id hok
  refine g_iload_n 1 dX6_run_0 rfl rfl ?_
  refine g_if_lt 9 dX6_run_1 (by decide) (fun c_1 => ?_) (fun c_1 => ?_)
  · exact g_throw hl hq rfl fit_IA own_IA cl_IA in_IA str_128 ⟨Nat.le_of_ble_eq_true rfl, Nat.le_of_ble_eq_true rfl, Nat.le_of_ble_eq_true rfl, Nat.le_of_ble_eq_true rfl⟩ dX6_run_9 dX6_run_12 dX6_run_13 dX6_run_15 dX6_run_18
  · refine g_iload_n 1 dX6_run_4 rfl rfl ?_
    refine g_iconst dX6_run_5 ?_
    refine g_icmp_le 19 dX6_run_6 (by decide) (fun c_2 => ?_) (fun c_2 => ?_)
    · refine g_lload_n 2 dX6_run_19 rfl rfl ?_
      refine g_lconst 0 dX6_run_20 rfl ?_
      refine g_lcmp (cmpz st 0) dX6_run_21 (cmpz_j (by omega) (by omega)) ?_
      have hcmp_3 := cmpz_c st 0
      refine g_if_lt 33 dX6_run_22 (by decide) (fun c_4 => ?_) (fun c_4 => ?_)
      · exact g_throw hl hq rfl fit_IA own_IA cl_IA in_IA str_132 ⟨Nat.le_of_ble_eq_true rfl, Nat.le_of_ble_eq_true rfl, Nat.le_of_ble_eq_true rfl, Nat.le_of_ble_eq_true rfl⟩ dX6_run_33 dX6_run_36 dX6_run_37 dX6_run_39 dX6_run_42
      · refine g_lload_n 2 dX6_run_25 rfl rfl ?_
        refine g_ldc2 200 kX6_130 rfl dX6_run_26 ?_
        refine g_lcmp (cmpz st 200) dX6_run_29 (cmpz_j (by omega) (by omega)) ?_
        have hcmp_5 := cmpz_c st 200
        refine g_if_le 43 dX6_run_30 (by decide) (fun c_6 => ?_) (fun c_6 => ?_)
        · omega
        · exact g_throw hl hq rfl fit_IA own_IA cl_IA in_IA str_132 ⟨Nat.le_of_ble_eq_true rfl, Nat.le_of_ble_eq_true rfl, Nat.le_of_ble_eq_true rfl, Nat.le_of_ble_eq_true rfl⟩ dX6_run_33 dX6_run_36 dX6_run_37 dX6_run_39 dX6_run_42
    · exact g_throw hl hq rfl fit_IA own_IA cl_IA in_IA str_128 ⟨Nat.le_of_ble_eq_true rfl, Nat.le_of_ble_eq_true rfl, Nat.le_of_ble_eq_true rfl, Nat.le_of_ble_eq_true rfl⟩ dX6_run_9 dX6_run_12 dX6_run_13 dX6_run_15 dX6_run_18

set_option maxHeartbeats 4000000 in
theorem thr_X6_slot_IO {l : Launch} (hl : l.stackTraces = false) {D : va_G} {τ : Nat → ClassId} {a : Nat → Nat} (ha : Apart (LX τ) a) {V : Mem} (m k : Int) (hok : okC V) (hm0 : -2147483648 ≤ m ∧ m ≤ 2147483647) (hk0 : -2147483648 ≤ k ∧ k ≤ 2147483647) (hb : ¬ (0 ≤ m ∧ m < V 0 8 ∧ 0 ≤ k ∧ k < V 2 6)) : CT l D (tysL τ) (LX τ) a yX6_slot mX6_slot [.ref (a 0), .int (iN m), .int (iN k)] V xIO := by
  refine CT.of (by decide +kernel) rfl (Nat.le_of_ble_eq_true rfl) ha (fun x hq => ?_)
  show G l D (tysL τ) (LX τ) a mX6_slot x 0 [(0, .ref (a 0)), (1, .int (iN m)), (2, .int (iN k))] [] V
  obtain ⟨k00, k08, k09, k26, k94, k3, k3k, k4, k5, k6, k7, k8, k10, k10k, k11, k12, k13, kn, kc0, ks, kt, kr, kf, ka⟩ := id hok
  refine g_aload_n 0 dX6_slot_0 rfl rfl ?_
  refine g_iload_n 1 dX6_slot_1 rfl rfl ?_
  by_cases t_1 : 0 ≤ m ∧ m < V 0 8
  · refine g_callV (k := 0) [.int (iN m)] (met_X6_requireMachine ha m hok (by omega)) vX6_148 ox_0 rfl rfl ⟨rfl, rfl, Nat.le_of_ble_eq_true rfl, Nat.le_of_ble_eq_true rfl⟩ rfl (Nat.le_of_ble_eq_true rfl) dX6_slot_2 rfl ?_
    intro V9 hV9
    replace hV9 := hV9.symm
    subst hV9
    refine g_aload_n 0 dX6_slot_5 rfl rfl ?_
    refine g_iload_n 2 dX6_slot_6 rfl rfl ?_
    by_cases t_2 : 0 ≤ k ∧ k < V 2 6
    · refine g_callV (k := 0) [.int (iN k)] (met_X6_requireKind ha k hok (by omega)) vX6_88 ox_0 rfl rfl ⟨rfl, rfl, Nat.le_of_ble_eq_true rfl, Nat.le_of_ble_eq_true rfl⟩ rfl (Nat.le_of_ble_eq_true rfl) dX6_slot_7 rfl ?_
      intro V9 hV9
      replace hV9 := hV9.symm
      subst hV9
      omega
    · exact g_callT [.int (iN k)] hq (thr_X6_requireKind_IO hl ha k hok (by omega) (by omega)) vX6_88 ox_0 rfl rfl ⟨Nat.le_of_ble_eq_true rfl, Nat.le_of_ble_eq_true rfl, Nat.le_of_ble_eq_true rfl, Nat.le_of_ble_eq_true rfl⟩ rfl (Nat.le_of_ble_eq_true rfl) dX6_slot_7 rfl
  · exact g_callT [.int (iN m)] hq (thr_X6_requireMachine_IO hl ha m hok (by omega) (by omega)) vX6_148 ox_0 rfl rfl ⟨Nat.le_of_ble_eq_true rfl, Nat.le_of_ble_eq_true rfl, Nat.le_of_ble_eq_true rfl, Nat.le_of_ble_eq_true rfl⟩ rfl (Nat.le_of_ble_eq_true rfl) dX6_slot_2 rfl

set_option maxHeartbeats 4000000 in
theorem thr_X6_order_IO {l : Launch} (hl : l.stackTraces = false) {D : va_G} {τ : Nat → ClassId} {a : Nat → Nat} (ha : Apart (LX τ) a) {V : Mem} (m i : Int) (hok : okC V) (hm0 : -2147483648 ≤ m ∧ m ≤ 2147483647) (hb : ¬ (0 ≤ m ∧ m < V 0 8)) : CT l D (tysL τ) (LX τ) a yX6_order mX6_order [.ref (a 0), .int (iN m), .int (iN i)] V xIO := by
  refine CT.of (by decide +kernel) rfl (Nat.le_of_ble_eq_true rfl) ha (fun x hq => ?_)
  show G l D (tysL τ) (LX τ) a mX6_order x 0 [(0, .ref (a 0)), (1, .int (iN m)), (2, .int (iN i))] [] V
  obtain ⟨k00, k08, k09, k26, k94, k3, k3k, k4, k5, k6, k7, k8, k10, k10k, k11, k12, k13, kn, kc0, ks, kt, kr, kf, ka⟩ := id hok
  refine g_aload_n 0 dX6_order_0 rfl rfl ?_
  refine g_iload_n 1 dX6_order_1 rfl rfl ?_
  by_cases t_1 : 0 ≤ m ∧ m < V 0 8
  · refine g_callV (k := 0) [.int (iN m)] (met_X6_requireMachine ha m hok (by omega)) vX6_148 ox_0 rfl rfl ⟨rfl, rfl, Nat.le_of_ble_eq_true rfl, Nat.le_of_ble_eq_true rfl⟩ rfl (Nat.le_of_ble_eq_true rfl) dX6_order_2 rfl ?_
    intro V9 hV9
    replace hV9 := hV9.symm
    subst hV9
    omega
  · exact g_callT [.int (iN m)] hq (thr_X6_requireMachine_IO hl ha m hok (by omega) (by omega)) vX6_148 ox_0 rfl rfl ⟨Nat.le_of_ble_eq_true rfl, Nat.le_of_ble_eq_true rfl, Nat.le_of_ble_eq_true rfl, Nat.le_of_ble_eq_true rfl⟩ rfl (Nat.le_of_ble_eq_true rfl) dX6_order_2 rfl

set_option maxHeartbeats 4000000 in
theorem thr_X6_trip_IO {l : Launch} (hl : l.stackTraces = false) {D : va_G} {τ : Nat → ClassId} {a : Nat → Nat} (ha : Apart (LX τ) a) {V : Mem} (m p : Int) (hok : okC V) (hm0 : -2147483648 ≤ m ∧ m ≤ 2147483647) (hp0 : -2147483648 ≤ p ∧ p ≤ 2147483647) (hb : ¬ (0 ≤ m ∧ m < V 0 8 ∧ 0 ≤ p ∧ p < V 9 4)) : CT l D (tysL τ) (LX τ) a yX6_trip mX6_trip [.ref (a 0), .int (iN m), .int (iN p)] V xIO := by
  refine CT.of (by decide +kernel) rfl (Nat.le_of_ble_eq_true rfl) ha (fun x hq => ?_)
  show G l D (tysL τ) (LX τ) a mX6_trip x 0 [(0, .ref (a 0)), (1, .int (iN m)), (2, .int (iN p))] [] V
  obtain ⟨k00, k08, k09, k26, k94, k3, k3k, k4, k5, k6, k7, k8, k10, k10k, k11, k12, k13, kn, kc0, ks, kt, kr, kf, ka⟩ := id hok
  refine g_aload_n 0 dX6_trip_0 rfl rfl ?_
  refine g_iload_n 1 dX6_trip_1 rfl rfl ?_
  by_cases t_1 : 0 ≤ m ∧ m < V 0 8
  · refine g_callV (k := 0) [.int (iN m)] (met_X6_requireMachine ha m hok (by omega)) vX6_148 ox_0 rfl rfl ⟨rfl, rfl, Nat.le_of_ble_eq_true rfl, Nat.le_of_ble_eq_true rfl⟩ rfl (Nat.le_of_ble_eq_true rfl) dX6_trip_2 rfl ?_
    intro V9 hV9
    replace hV9 := hV9.symm
    subst hV9
    refine g_aload_n 0 dX6_trip_5 rfl rfl ?_
    refine g_iload_n 2 dX6_trip_6 rfl rfl ?_
    by_cases t_2 : 0 ≤ p ∧ p < V 9 4
    · refine g_callV (k := 0) [.int (iN p)] (met_X6_requirePart ha p hok (by omega)) vX6_157 ox_0 rfl rfl ⟨rfl, rfl, Nat.le_of_ble_eq_true rfl, Nat.le_of_ble_eq_true rfl⟩ rfl (Nat.le_of_ble_eq_true rfl) dX6_trip_7 rfl ?_
      intro V9 hV9
      replace hV9 := hV9.symm
      subst hV9
      omega
    · exact g_callT [.int (iN p)] hq (thr_X6_requirePart_IO hl ha p hok (by omega) (by omega)) vX6_157 ox_0 rfl rfl ⟨Nat.le_of_ble_eq_true rfl, Nat.le_of_ble_eq_true rfl, Nat.le_of_ble_eq_true rfl, Nat.le_of_ble_eq_true rfl⟩ rfl (Nat.le_of_ble_eq_true rfl) dX6_trip_7 rfl
  · exact g_callT [.int (iN m)] hq (thr_X6_requireMachine_IO hl ha m hok (by omega) (by omega)) vX6_148 ox_0 rfl rfl ⟨Nat.le_of_ble_eq_true rfl, Nat.le_of_ble_eq_true rfl, Nat.le_of_ble_eq_true rfl, Nat.le_of_ble_eq_true rfl⟩ rfl (Nat.le_of_ble_eq_true rfl) dX6_trip_2 rfl

set_option maxHeartbeats 4000000 in
theorem thr_X6_lower_IO {l : Launch} (hl : l.stackTraces = false) {D : va_G} {τ : Nat → ClassId} {a : Nat → Nat} (ha : Apart (LX τ) a) {V : Mem} (b1 b2 : Int) (hok : okC V) (h10 : -2147483648 ≤ b1 ∧ b1 ≤ 2147483647) (h20 : -2147483648 ≤ b2 ∧ b2 ≤ 2147483647) (hb : ¬ (0 ≤ b1 ∧ b1 < V 9 4 ∧ 0 ≤ b2 ∧ b2 < V 9 4)) : CT l D (tysL τ) (LX τ) a yX6_lower mX6_lower [.ref (a 0), .int (iN b1), .int (iN b2)] V xIO := by
  refine CT.of (by decide +kernel) rfl (Nat.le_of_ble_eq_true rfl) ha (fun x hq => ?_)
  show G l D (tysL τ) (LX τ) a mX6_lower x 0 [(0, .ref (a 0)), (1, .int (iN b1)), (2, .int (iN b2))] [] V
  obtain ⟨k00, k08, k09, k26, k94, k3, k3k, k4, k5, k6, k7, k8, k10, k10k, k11, k12, k13, kn, kc0, ks, kt, kr, kf, ka⟩ := id hok
  refine g_aload_n 0 dX6_lower_0 rfl rfl ?_
  refine g_iload_n 1 dX6_lower_1 rfl rfl ?_
  by_cases t_1 : 0 ≤ b1 ∧ b1 < V 9 4
  · refine g_callV (k := 0) [.int (iN b1)] (met_X6_requirePart ha b1 hok (by omega)) vX6_157 ox_0 rfl rfl ⟨rfl, rfl, Nat.le_of_ble_eq_true rfl, Nat.le_of_ble_eq_true rfl⟩ rfl (Nat.le_of_ble_eq_true rfl) dX6_lower_2 rfl ?_
    intro V9 hV9
    replace hV9 := hV9.symm
    subst hV9
    refine g_aload_n 0 dX6_lower_5 rfl rfl ?_
    refine g_iload_n 2 dX6_lower_6 rfl rfl ?_
    by_cases t_2 : 0 ≤ b2 ∧ b2 < V 9 4
    · refine g_callV (k := 0) [.int (iN b2)] (met_X6_requirePart ha b2 hok (by omega)) vX6_157 ox_0 rfl rfl ⟨rfl, rfl, Nat.le_of_ble_eq_true rfl, Nat.le_of_ble_eq_true rfl⟩ rfl (Nat.le_of_ble_eq_true rfl) dX6_lower_7 rfl ?_
      intro V9 hV9
      replace hV9 := hV9.symm
      subst hV9
      omega
    · exact g_callT [.int (iN b2)] hq (thr_X6_requirePart_IO hl ha b2 hok (by omega) (by omega)) vX6_157 ox_0 rfl rfl ⟨Nat.le_of_ble_eq_true rfl, Nat.le_of_ble_eq_true rfl, Nat.le_of_ble_eq_true rfl, Nat.le_of_ble_eq_true rfl⟩ rfl (Nat.le_of_ble_eq_true rfl) dX6_lower_7 rfl
  · exact g_callT [.int (iN b1)] hq (thr_X6_requirePart_IO hl ha b1 hok (by omega) (by omega)) vX6_157 ox_0 rfl rfl ⟨Nat.le_of_ble_eq_true rfl, Nat.le_of_ble_eq_true rfl, Nat.le_of_ble_eq_true rfl, Nat.le_of_ble_eq_true rfl⟩ rfl (Nat.le_of_ble_eq_true rfl) dX6_lower_2 rfl

set_option maxHeartbeats 4000000 in
theorem thr_X6_refill_IO {l : Launch} (hl : l.stackTraces = false) {D : va_G} {τ : Nat → ClassId} {a : Nat → Nat} (ha : Apart (LX τ) a) {V : Mem} (k n : Int) (hok : okC V) (hk0 : -2147483648 ≤ k ∧ k ≤ 2147483647) (hb : ¬ (0 ≤ k ∧ k < V 2 6)) : CT l D (tysL τ) (LX τ) a yX6_refill mX6_refill [.ref (a 0), .int (iN k), .int (iN n)] V xIO := by
  refine CT.of (by decide +kernel) rfl (Nat.le_of_ble_eq_true rfl) ha (fun x hq => ?_)
  show G l D (tysL τ) (LX τ) a mX6_refill x 0 [(0, .ref (a 0)), (1, .int (iN k)), (2, .int (iN n))] [] V
  obtain ⟨k00, k08, k09, k26, k94, k3, k3k, k4, k5, k6, k7, k8, k10, k10k, k11, k12, k13, kn, kc0, ks, kt, kr, kf, ka⟩ := id hok
  refine g_aload_n 0 dX6_refill_0 rfl rfl ?_
  refine g_iload_n 1 dX6_refill_1 rfl rfl ?_
  by_cases t_1 : 0 ≤ k ∧ k < V 2 6
  · refine g_callV (k := 0) [.int (iN k)] (met_X6_requireKind ha k hok (by omega)) vX6_88 ox_0 rfl rfl ⟨rfl, rfl, Nat.le_of_ble_eq_true rfl, Nat.le_of_ble_eq_true rfl⟩ rfl (Nat.le_of_ble_eq_true rfl) dX6_refill_2 rfl ?_
    intro V9 hV9
    replace hV9 := hV9.symm
    subst hV9
    omega
  · exact g_callT [.int (iN k)] hq (thr_X6_requireKind_IO hl ha k hok (by omega) (by omega)) vX6_88 ox_0 rfl rfl ⟨Nat.le_of_ble_eq_true rfl, Nat.le_of_ble_eq_true rfl, Nat.le_of_ble_eq_true rfl, Nat.le_of_ble_eq_true rfl⟩ rfl (Nat.le_of_ble_eq_true rfl) dX6_refill_2 rfl

set_option maxHeartbeats 4000000 in
theorem thr_X6_refill_IA {l : Launch} (hl : l.stackTraces = false) {D : va_G} {τ : Nat → ClassId} {a : Nat → Nat} (ha : Apart (LX τ) a) {V : Mem} (k n : Int) (hok : okC V) (hn0 : -2147483648 ≤ n ∧ n ≤ 2147483647) (hk : 0 ≤ k ∧ k < V 2 6) (hb : n < 0) : CT l D (tysL τ) (LX τ) a yX6_refill mX6_refill [.ref (a 0), .int (iN k), .int (iN n)] V xIA := by
  refine CT.of (by decide +kernel) rfl (Nat.le_of_ble_eq_true rfl) ha (fun x hq => ?_)
  show G l D (tysL τ) (LX τ) a mX6_refill x 0 [(0, .ref (a 0)), (1, .int (iN k)), (2, .int (iN n))] [] V
  obtain ⟨k00, k08, k09, k26, k94, k3, k3k, k4, k5, k6, k7, k8, k10, k10k, k11, k12, k13, kn, kc0, ks, kt, kr, kf, ka⟩ := id hok
  refine g_aload_n 0 dX6_refill_0 rfl rfl ?_
  refine g_iload_n 1 dX6_refill_1 rfl rfl ?_
  refine g_callV (k := 0) [.int (iN k)] (met_X6_requireKind ha k hok (by omega)) vX6_88 ox_0 rfl rfl ⟨rfl, rfl, Nat.le_of_ble_eq_true rfl, Nat.le_of_ble_eq_true rfl⟩ rfl (Nat.le_of_ble_eq_true rfl) dX6_refill_2 rfl ?_
  intro V9 hV9
  replace hV9 := hV9.symm
  subst hV9
  refine g_iload_n 2 dX6_refill_5 rfl rfl ?_
  refine g_if_ge 19 dX6_refill_6 (by decide) (fun c_1 => ?_) (fun c_1 => ?_)
  · omega
  · exact g_throw hl hq rfl fit_IA own_IA cl_IA in_IA str_182 ⟨Nat.le_of_ble_eq_true rfl, Nat.le_of_ble_eq_true rfl, Nat.le_of_ble_eq_true rfl, Nat.le_of_ble_eq_true rfl⟩ dX6_refill_9 dX6_refill_12 dX6_refill_13 dX6_refill_15 dX6_refill_18

set_option maxHeartbeats 4000000 in
theorem thr_X6_reject_IO {l : Launch} (hl : l.stackTraces = false) {D : va_G} {τ : Nat → ClassId} {a : Nat → Nat} (ha : Apart (LX τ) a) {V : Mem} (k n d : Int) (hok : okC V) (hk0 : -2147483648 ≤ k ∧ k ≤ 2147483647) (hb : ¬ (0 ≤ k ∧ k < V 2 6)) : CT l D (tysL τ) (LX τ) a yX6_reject mX6_reject [.ref (a 0), .int (iN k), .long (jN n), .long (jN d)] V xIO := by
  refine CT.of (by decide +kernel) rfl (Nat.le_of_ble_eq_true rfl) ha (fun x hq => ?_)
  show G l D (tysL τ) (LX τ) a mX6_reject x 0 [(0, .ref (a 0)), (1, .int (iN k)), (2, .long (jN n)), (4, .long (jN d))] [] V
  obtain ⟨k00, k08, k09, k26, k94, k3, k3k, k4, k5, k6, k7, k8, k10, k10k, k11, k12, k13, kn, kc0, ks, kt, kr, kf, ka⟩ := id hok
  refine g_aload_n 0 dX6_reject_0 rfl rfl ?_
  refine g_iload_n 1 dX6_reject_1 rfl rfl ?_
  by_cases t_1 : 0 ≤ k ∧ k < V 2 6
  · refine g_callV (k := 0) [.int (iN k)] (met_X6_requireKind ha k hok (by omega)) vX6_88 ox_0 rfl rfl ⟨rfl, rfl, Nat.le_of_ble_eq_true rfl, Nat.le_of_ble_eq_true rfl⟩ rfl (Nat.le_of_ble_eq_true rfl) dX6_reject_2 rfl ?_
    intro V9 hV9
    replace hV9 := hV9.symm
    subst hV9
    omega
  · exact g_callT [.int (iN k)] hq (thr_X6_requireKind_IO hl ha k hok (by omega) (by omega)) vX6_88 ox_0 rfl rfl ⟨Nat.le_of_ble_eq_true rfl, Nat.le_of_ble_eq_true rfl, Nat.le_of_ble_eq_true rfl, Nat.le_of_ble_eq_true rfl⟩ rfl (Nat.le_of_ble_eq_true rfl) dX6_reject_2 rfl

set_option maxHeartbeats 4000000 in
theorem thr_X6_reject_IA {l : Launch} (hl : l.stackTraces = false) {D : va_G} {τ : Nat → ClassId} {a : Nat → Nat} (ha : Apart (LX τ) a) {V : Mem} (k n d : Int) (hok : okC V) (hn0 : -9223372036854775808 ≤ n ∧ n ≤ 9223372036854775807) (hd0 : -9223372036854775808 ≤ d ∧ d ≤ 9223372036854775807) (hk : 0 ≤ k ∧ k < V 2 6) (hb : ¬ (1 ≤ d ∧ d ≤ 1000 ∧ 0 ≤ n ∧ n < d)) : CT l D (tysL τ) (LX τ) a yX6_reject mX6_reject [.ref (a 0), .int (iN k), .long (jN n), .long (jN d)] V xIA := by
  refine CT.of (by decide +kernel) rfl (Nat.le_of_ble_eq_true rfl) ha (fun x hq => ?_)
  show G l D (tysL τ) (LX τ) a mX6_reject x 0 [(0, .ref (a 0)), (1, .int (iN k)), (2, .long (jN n)), (4, .long (jN d))] [] V
  obtain ⟨k00, k08, k09, k26, k94, k3, k3k, k4, k5, k6, k7, k8, k10, k10k, k11, k12, k13, kn, kc0, ks, kt, kr, kf, ka⟩ := id hok
  refine g_aload_n 0 dX6_reject_0 rfl rfl ?_
  refine g_iload_n 1 dX6_reject_1 rfl rfl ?_
  refine g_callV (k := 0) [.int (iN k)] (met_X6_requireKind ha k hok (by omega)) vX6_88 ox_0 rfl rfl ⟨rfl, rfl, Nat.le_of_ble_eq_true rfl, Nat.le_of_ble_eq_true rfl⟩ rfl (Nat.le_of_ble_eq_true rfl) dX6_reject_2 rfl ?_
  intro V9 hV9
  replace hV9 := hV9.symm
  subst hV9
  refine g_lload 3 dX6_reject_5 rfl ?_
  refine g_lconst 1 dX6_reject_7 rfl ?_
  refine g_lcmp (cmpz d 1) dX6_reject_8 (cmpz_j (by omega) (by omega)) ?_
  have hcmp_1 := cmpz_c d 1
  refine g_if_lt 21 dX6_reject_9 (by decide) (fun c_2 => ?_) (fun c_2 => ?_)
  · exact g_throw hl hq rfl fit_IA own_IA cl_IA in_IA str_189 ⟨Nat.le_of_ble_eq_true rfl, Nat.le_of_ble_eq_true rfl, Nat.le_of_ble_eq_true rfl, Nat.le_of_ble_eq_true rfl⟩ dX6_reject_21 dX6_reject_24 dX6_reject_25 dX6_reject_27 dX6_reject_30
  · refine g_lload 3 dX6_reject_12 rfl ?_
    refine g_ldc2 1000 kX6_187 rfl dX6_reject_14 ?_
    refine g_lcmp (cmpz d 1000) dX6_reject_17 (cmpz_j (by omega) (by omega)) ?_
    have hcmp_3 := cmpz_c d 1000
    refine g_if_le 31 dX6_reject_18 (by decide) (fun c_4 => ?_) (fun c_4 => ?_)
    · refine g_lload_n 2 dX6_reject_31 rfl rfl ?_
      refine g_lconst 0 dX6_reject_32 rfl ?_
      refine g_lcmp (cmpz n 0) dX6_reject_33 (cmpz_j (by omega) (by omega)) ?_
      have hcmp_5 := cmpz_c n 0
      refine g_if_lt 44 dX6_reject_34 (by decide) (fun c_6 => ?_) (fun c_6 => ?_)
      · exact g_throw hl hq rfl fit_IA own_IA cl_IA in_IA str_191 ⟨Nat.le_of_ble_eq_true rfl, Nat.le_of_ble_eq_true rfl, Nat.le_of_ble_eq_true rfl, Nat.le_of_ble_eq_true rfl⟩ dX6_reject_44 dX6_reject_47 dX6_reject_48 dX6_reject_50 dX6_reject_53
      · refine g_lload_n 2 dX6_reject_37 rfl rfl ?_
        refine g_lload 3 dX6_reject_38 rfl ?_
        refine g_lcmp (cmpz n d) dX6_reject_40 (cmpz_j (by omega) (by omega)) ?_
        have hcmp_7 := cmpz_c n d
        refine g_if_lt 54 dX6_reject_41 (by decide) (fun c_8 => ?_) (fun c_8 => ?_)
        · omega
        · exact g_throw hl hq rfl fit_IA own_IA cl_IA in_IA str_191 ⟨Nat.le_of_ble_eq_true rfl, Nat.le_of_ble_eq_true rfl, Nat.le_of_ble_eq_true rfl, Nat.le_of_ble_eq_true rfl⟩ dX6_reject_44 dX6_reject_47 dX6_reject_48 dX6_reject_50 dX6_reject_53
    · exact g_throw hl hq rfl fit_IA own_IA cl_IA in_IA str_189 ⟨Nat.le_of_ble_eq_true rfl, Nat.le_of_ble_eq_true rfl, Nat.le_of_ble_eq_true rfl, Nat.le_of_ble_eq_true rfl⟩ dX6_reject_21 dX6_reject_24 dX6_reject_25 dX6_reject_27 dX6_reject_30

set_option maxHeartbeats 4000000 in
theorem thr_X6_machineOf_IO {l : Launch} (hl : l.stackTraces = false) {D : va_G} {τ : Nat → ClassId} {a : Nat → Nat} (ha : Apart (LX τ) a) {V : Mem} (p : Int) (hok : okC V) (hp0 : -2147483648 ≤ p ∧ p ≤ 2147483647) (hb : ¬ (0 ≤ p ∧ p < V 9 4)) : CT l D (tysL τ) (LX τ) a yX6_machineOf mX6_machineOf [.ref (a 0), .int (iN p)] V xIO := by
  refine CT.of (by decide +kernel) rfl (Nat.le_of_ble_eq_true rfl) ha (fun x hq => ?_)
  show G l D (tysL τ) (LX τ) a mX6_machineOf x 0 [(0, .ref (a 0)), (1, .int (iN p))] [] V
  obtain ⟨k00, k08, k09, k26, k94, k3, k3k, k4, k5, k6, k7, k8, k10, k10k, k11, k12, k13, kn, kc0, ks, kt, kr, kf, ka⟩ := id hok
  refine g_aload_n 0 dX6_machineOf_0 rfl rfl ?_
  refine g_iload_n 1 dX6_machineOf_1 rfl rfl ?_
  by_cases t_1 : 0 ≤ p ∧ p < V 9 4
  · refine g_callV (k := 0) [.int (iN p)] (met_X6_requirePart ha p hok (by omega)) vX6_157 ox_0 rfl rfl ⟨rfl, rfl, Nat.le_of_ble_eq_true rfl, Nat.le_of_ble_eq_true rfl⟩ rfl (Nat.le_of_ble_eq_true rfl) dX6_machineOf_2 rfl ?_
    intro V9 hV9
    replace hV9 := hV9.symm
    subst hV9
    omega
  · exact g_callT [.int (iN p)] hq (thr_X6_requirePart_IO hl ha p hok (by omega) (by omega)) vX6_157 ox_0 rfl rfl ⟨Nat.le_of_ble_eq_true rfl, Nat.le_of_ble_eq_true rfl, Nat.le_of_ble_eq_true rfl, Nat.le_of_ble_eq_true rfl⟩ rfl (Nat.le_of_ble_eq_true rfl) dX6_machineOf_2 rfl

set_option maxHeartbeats 4000000 in
theorem thr_X6_improve_IA {l : Launch} (hl : l.stackTraces = false) {D : va_G} {τ : Nat → ClassId} {a : Nat → Nat} (ha : Apart (LX τ) a) {V : Mem} (st : Int) (hok : okC V) (hs0 : -2147483648 ≤ st ∧ st ≤ 2147483647) (hb : ¬ (0 ≤ st ∧ st ≤ 200)) : CT l D (tysL τ) (LX τ) a yX6_improve mX6_improve [.ref (a 0), .int (iN st)] V xIA := by
  refine CT.of (by decide +kernel) rfl (Nat.le_of_ble_eq_true rfl) ha (fun x hq => ?_)
  show G l D (tysL τ) (LX τ) a mX6_improve x 0 [(0, .ref (a 0)), (1, .int (iN st))] [] V
  obtain ⟨k00, k08, k09, k26, k94, k3, k3k, k4, k5, k6, k7, k8, k10, k10k, k11, k12, k13, kn, kc0, ks, kt, kr, kf, ka⟩ := id hok
  refine g_iload_n 1 dX6_improve_0 rfl rfl ?_
  refine g_if_lt 11 dX6_improve_1 (by decide) (fun c_1 => ?_) (fun c_1 => ?_)
  · exact g_throw hl hq rfl fit_IA own_IA cl_IA in_IA str_132 ⟨Nat.le_of_ble_eq_true rfl, Nat.le_of_ble_eq_true rfl, Nat.le_of_ble_eq_true rfl, Nat.le_of_ble_eq_true rfl⟩ dX6_improve_11 dX6_improve_14 dX6_improve_15 dX6_improve_17 dX6_improve_20
  · refine g_iload_n 1 dX6_improve_4 rfl rfl ?_
    refine g_sipush dX6_improve_5 rfl ?_
    refine g_icmp_le 21 dX6_improve_8 (by decide) (fun c_2 => ?_) (fun c_2 => ?_)
    · omega
    · exact g_throw hl hq rfl fit_IA own_IA cl_IA in_IA str_132 ⟨Nat.le_of_ble_eq_true rfl, Nat.le_of_ble_eq_true rfl, Nat.le_of_ble_eq_true rfl, Nat.le_of_ble_eq_true rfl⟩ dX6_improve_11 dX6_improve_14 dX6_improve_15 dX6_improve_17 dX6_improve_20

set_option maxHeartbeats 4000000 in
theorem thr_X6_common_IO {l : Launch} (hl : l.stackTraces = false) {D : va_G} {τ : Nat → ClassId} {a : Nat → Nat} (ha : Apart (LX τ) a) {V : Mem} (m n : Int) (hok : okC V) (hm0 : -2147483648 ≤ m ∧ m ≤ 2147483647) (hn0 : -2147483648 ≤ n ∧ n ≤ 2147483647) (hb : ¬ (0 ≤ m ∧ m < V 0 8 ∧ 0 ≤ n ∧ n < V 0 8)) : CT l D (tysL τ) (LX τ) a yX6_common mX6_common [.ref (a 0), .int (iN m), .int (iN n)] V xIO := by
  refine CT.of (by decide +kernel) rfl (Nat.le_of_ble_eq_true rfl) ha (fun x hq => ?_)
  show G l D (tysL τ) (LX τ) a mX6_common x 0 [(0, .ref (a 0)), (1, .int (iN m)), (2, .int (iN n))] [] V
  obtain ⟨k00, k08, k09, k26, k94, k3, k3k, k4, k5, k6, k7, k8, k10, k10k, k11, k12, k13, kn, kc0, ks, kt, kr, kf, ka⟩ := id hok
  refine g_aload_n 0 dX6_common_0 rfl rfl ?_
  refine g_iload_n 1 dX6_common_1 rfl rfl ?_
  by_cases t_1 : 0 ≤ m ∧ m < V 0 8
  · refine g_callV (k := 0) [.int (iN m)] (met_X6_requireMachine ha m hok (by omega)) vX6_148 ox_0 rfl rfl ⟨rfl, rfl, Nat.le_of_ble_eq_true rfl, Nat.le_of_ble_eq_true rfl⟩ rfl (Nat.le_of_ble_eq_true rfl) dX6_common_2 rfl ?_
    intro V9 hV9
    replace hV9 := hV9.symm
    subst hV9
    refine g_aload_n 0 dX6_common_5 rfl rfl ?_
    refine g_iload_n 2 dX6_common_6 rfl rfl ?_
    by_cases t_2 : 0 ≤ n ∧ n < V 0 8
    · refine g_callV (k := 0) [.int (iN n)] (met_X6_requireMachine ha n hok (by omega)) vX6_148 ox_0 rfl rfl ⟨rfl, rfl, Nat.le_of_ble_eq_true rfl, Nat.le_of_ble_eq_true rfl⟩ rfl (Nat.le_of_ble_eq_true rfl) dX6_common_7 rfl ?_
      intro V9 hV9
      replace hV9 := hV9.symm
      subst hV9
      omega
    · exact g_callT [.int (iN n)] hq (thr_X6_requireMachine_IO hl ha n hok (by omega) (by omega)) vX6_148 ox_0 rfl rfl ⟨Nat.le_of_ble_eq_true rfl, Nat.le_of_ble_eq_true rfl, Nat.le_of_ble_eq_true rfl, Nat.le_of_ble_eq_true rfl⟩ rfl (Nat.le_of_ble_eq_true rfl) dX6_common_7 rfl
  · exact g_callT [.int (iN m)] hq (thr_X6_requireMachine_IO hl ha m hok (by omega) (by omega)) vX6_148 ox_0 rfl rfl ⟨Nat.le_of_ble_eq_true rfl, Nat.le_of_ble_eq_true rfl, Nat.le_of_ble_eq_true rfl, Nat.le_of_ble_eq_true rfl⟩ rfl (Nat.le_of_ble_eq_true rfl) dX6_common_2 rfl

set_option maxHeartbeats 4000000 in
theorem thr_X6_changes_IO {l : Launch} (hl : l.stackTraces = false) {D : va_G} {τ : Nat → ClassId} {a : Nat → Nat} (ha : Apart (LX τ) a) {V : Mem} (m : Int) (hok : okC V) (hm0 : -2147483648 ≤ m ∧ m ≤ 2147483647) (hb : ¬ (0 ≤ m ∧ m < V 0 8)) : CT l D (tysL τ) (LX τ) a yX6_changes mX6_changes [.ref (a 0), .int (iN m)] V xIO := by
  refine CT.of (by decide +kernel) rfl (Nat.le_of_ble_eq_true rfl) ha (fun x hq => ?_)
  show G l D (tysL τ) (LX τ) a mX6_changes x 0 [(0, .ref (a 0)), (1, .int (iN m))] [] V
  obtain ⟨k00, k08, k09, k26, k94, k3, k3k, k4, k5, k6, k7, k8, k10, k10k, k11, k12, k13, kn, kc0, ks, kt, kr, kf, ka⟩ := id hok
  refine g_aload_n 0 dX6_changes_0 rfl rfl ?_
  refine g_iload_n 1 dX6_changes_1 rfl rfl ?_
  by_cases t_1 : 0 ≤ m ∧ m < V 0 8
  · refine g_callV (k := 0) [.int (iN m)] (met_X6_requireMachine ha m hok (by omega)) vX6_148 ox_0 rfl rfl ⟨rfl, rfl, Nat.le_of_ble_eq_true rfl, Nat.le_of_ble_eq_true rfl⟩ rfl (Nat.le_of_ble_eq_true rfl) dX6_changes_2 rfl ?_
    intro V9 hV9
    replace hV9 := hV9.symm
    subst hV9
    omega
  · exact g_callT [.int (iN m)] hq (thr_X6_requireMachine_IO hl ha m hok (by omega) (by omega)) vX6_148 ox_0 rfl rfl ⟨Nat.le_of_ble_eq_true rfl, Nat.le_of_ble_eq_true rfl, Nat.le_of_ble_eq_true rfl, Nat.le_of_ble_eq_true rfl⟩ rfl (Nat.le_of_ble_eq_true rfl) dX6_changes_2 rfl
