def piX (k : Nat) : Nat := if k = 0 then 0 else if k = 1 then 120 else k - 1
theorem piX_lt : ∀ k, k < 121 → piX k < 121 := by
  intro k hk
  unfold piX
  by_cases h0 : k = 0
  · rw [if_pos h0]; omega
  · rw [if_neg h0]
    by_cases h1 : k = 1
    · rw [if_pos h1]; omega
    · rw [if_neg h1]; omega
theorem piX_inj : ∀ i j, i < 121 → j < 121 → piX i = piX j → i = j := by
  intro i j hi hj e
  unfold piX at e
  by_cases h0 : i = 0 <;> by_cases h1 : j = 0
  · omega
  · rw [if_pos h0, if_neg h1] at e
    by_cases h2 : j = 1
    · rw [if_pos h2] at e; omega
    · rw [if_neg h2] at e; omega
  · rw [if_neg h0, if_pos h1] at e
    by_cases h2 : i = 1
    · rw [if_pos h2] at e; omega
    · rw [if_neg h2] at e; omega
  · rw [if_neg h0, if_neg h1] at e
    by_cases h2 : i = 1 <;> by_cases h3 : j = 1
    · omega
    · rw [if_pos h2, if_neg h3] at e; omega
    · rw [if_neg h2, if_pos h3] at e; omega
    · rw [if_neg h2, if_neg h3] at e; omega
set_option maxHeartbeats 8000000 in
set_option maxRecDepth 100000 in
/-- FeederOrders(seed, slots) -/
theorem met_X6_init {l : Launch} {D : va_G} {τ : Nat → ClassId} (o : Nat) (sd sl : Int) (hsl : -2147483648 ≤ sl ∧ sl ≤ 2147483647) : CN l D (tysL τ) (LX τ) (V6x sd sl) yX6_init iX6 o [.long (jN sd), .int (iN sl)] (.inr (6, [.int (iN 0), .null, .null, .null, .null, .null, .null, .null, .int (iN 0), .int (iN 0)])) := by
  refine CN.of (by decide +kernel) rfl rfl (Nat.le_of_ble_eq_true rfl) (fun x hq => ?_)
  have z0 := hq.zer
  have z1 := hq.ini
  have z2 := hq.nst
  show G l D (tysL τ) (cE 1 (fun _ _ => .inr (6, [.int (iN 0), .null, .null, .null, .null, .null, .null, .null, .int (iN 0), .int (iN 0)]))) (fun _ => o) iX6 (bmp x 0 0) 0 [(0, .ref o), (1, .long (jN sd)), (3, .int (iN sl))] [] Z0
  refine g_aload_n 0 dX6_init_0 rfl rfl ?_
  refine g_objI oX6 ⟨Nat.le_of_ble_eq_true rfl, Nat.le_of_ble_eq_true rfl⟩ (Nat.le_of_ble_eq_true rfl) dX6_init_1 ?_
  refine g_aload_n 0 dX6_init_4 rfl rfl ?_
  refine g_newO (ci := 1) (N := 7) (fs := [.null, .null, .null, .null, .null, .null, .int (iN 0)]) z0 rfl inX1 tyX1_ok ⟨tm_1 (List.mem_of_getElem? (i := 26) rfl) rfl, tm_1 (List.mem_of_getElem? (i := 27) rfl) rfl, tm_1 (List.mem_of_getElem? (i := 2) rfl) rfl⟩ dfX1 ⟨Nat.le_of_ble_eq_true rfl, Nat.le_of_ble_eq_true rfl⟩ dX6_init_5 (fun q1 => ?_)
  refine g_dup dX6_init_8 rfl ?_
  refine g_ctor 1 [] z0 z2 (met_X1_init _ ) (Nat.le_of_ble_eq_true rfl) rfl lX6_9 ⟨Nat.le_of_ble_eq_true rfl, Nat.le_of_ble_eq_true rfl⟩ ⟨Nat.le_of_ble_eq_true rfl, Nat.le_of_ble_eq_true rfl⟩ (Nat.le_of_ble_eq_true rfl) rfl (Nat.le_of_ble_eq_true rfl) dX6_init_9 rfl (fun b2 hb2 => ?_)
  refine g_putE (fs := [.int (iN 0), .null, .null, .null, .null, .null, .null, .null, .int (iN 0), .int (iN 0)]) 0 (.ref q1) z1 nX6_10 (Nat.le_of_ble_eq_true rfl) rfl dX6_init_12 rfl rfl (Nat.le_of_ble_eq_true rfl) ?_
  refine g_aload_n 0 dX6_init_15 rfl rfl ?_
  refine g_newO (ci := 3) (N := 5) (fs := [.null, .null, .null, .null, .int (iN 0)]) z0 rfl inX3 tyX3_ok ⟨tm_1 (List.mem_of_getElem? (i := 62) rfl) rfl, tm_1 (List.mem_of_getElem? (i := 63) rfl) rfl, tm_1 (List.mem_of_getElem? (i := 3) rfl) rfl⟩ dfX3 ⟨Nat.le_of_ble_eq_true rfl, Nat.le_of_ble_eq_true rfl⟩ dX6_init_16 (fun q3 => ?_)
  refine g_dup dX6_init_19 rfl ?_
  refine g_ctor 8 [] z0 z2 (met_X3_init _ ) (Nat.le_of_ble_eq_true rfl) rfl lX6_18 ⟨Nat.le_of_ble_eq_true rfl, Nat.le_of_ble_eq_true rfl⟩ ⟨Nat.le_of_ble_eq_true rfl, Nat.le_of_ble_eq_true rfl⟩ (Nat.le_of_ble_eq_true rfl) rfl (Nat.le_of_ble_eq_true rfl) dX6_init_20 rfl (fun b4 hb4 => ?_)
  refine g_putE (fs := [.int (iN 0), .null, .ref q1, .null, .null, .null, .null, .null, .int (iN 0), .int (iN 0)]) 0 (.ref q3) z1 nX6_19 (Nat.le_of_ble_eq_true rfl) rfl dX6_init_23 rfl rfl (Nat.le_of_ble_eq_true rfl) ?_
  refine g_aload_n 0 dX6_init_26 rfl rfl ?_
  refine g_iconst dX6_init_27 ?_
  refine g_newQ (t := 3) (N := 3) z0 z2 (fun U h => h.2.1) rfl (tm_1 (List.mem_of_getElem? (i := 88) rfl) rfl) (Nat.le_of_ble_eq_true rfl) ⟨Nat.le_of_ble_eq_true rfl, Nat.le_of_ble_eq_true rfl⟩ dX6_init_28 (fun q5 => ?_)
  refine g_dup dX6_init_31 rfl ?_
  refine g_iconst dX6_init_32 ?_
  refine g_newO (ci := 2) (N := 7) (fs := [.null, .null, .null, .int (iN 0), .int (iN 0), .int (iN 0), .int (iN 0)]) z0 rfl inX2 tyX2_ok ⟨tm_1 (List.mem_of_getElem? (i := 88) rfl) rfl, tm_1 (List.mem_of_getElem? (i := 90) rfl) rfl, tm_1 (List.mem_of_getElem? (i := 4) rfl) rfl⟩ dfX2 ⟨Nat.le_of_ble_eq_true rfl, Nat.le_of_ble_eq_true rfl⟩ dX6_init_33 (fun q6 => ?_)
  refine g_dup dX6_init_36 rfl ?_
  refine g_ctor 14 [] z0 z2 (met_X2_init _ ) (Nat.le_of_ble_eq_true rfl) rfl lX6_25 ⟨Nat.le_of_ble_eq_true rfl, Nat.le_of_ble_eq_true rfl⟩ ⟨Nat.le_of_ble_eq_true rfl, Nat.le_of_ble_eq_true rfl⟩ (Nat.le_of_ble_eq_true rfl) rfl (Nat.le_of_ble_eq_true rfl) dX6_init_37 rfl (fun b7 hb7 => ?_)
  refine g_astQ (t := 3) (ci := 2) (i := 0) (N := 3) (r := (RX2, TX2, 7)) 13 14 rfl rfl (Nat.le_of_ble_eq_true rfl) (Nat.le_of_ble_eq_true rfl) rfl rfl (Nat.le_of_ble_eq_true rfl) (Nat.le_of_ble_eq_true rfl) dX6_init_40 ?_
  refine g_dup dX6_init_41 rfl ?_
  refine g_iconst dX6_init_42 ?_
  refine g_newO (ci := 2) (N := 7) (fs := [.null, .null, .null, .int (iN 0), .int (iN 0), .int (iN 0), .int (iN 0)]) z0 rfl inX2 tyX2_ok ⟨tm_1 (List.mem_of_getElem? (i := 88) rfl) rfl, tm_1 (List.mem_of_getElem? (i := 90) rfl) rfl, tm_1 (List.mem_of_getElem? (i := 4) rfl) rfl⟩ dfX2 ⟨Nat.le_of_ble_eq_true rfl, Nat.le_of_ble_eq_true rfl⟩ dX6_init_43 (fun q8 => ?_)
  refine g_dup dX6_init_46 rfl ?_
  refine g_ctor 18 [] z0 z2 (met_X2_init _ ) (Nat.le_of_ble_eq_true rfl) rfl lX6_25 ⟨Nat.le_of_ble_eq_true rfl, Nat.le_of_ble_eq_true rfl⟩ ⟨Nat.le_of_ble_eq_true rfl, Nat.le_of_ble_eq_true rfl⟩ (Nat.le_of_ble_eq_true rfl) rfl (Nat.le_of_ble_eq_true rfl) dX6_init_47 rfl (fun b9 hb9 => ?_)
  refine g_astQ (t := 3) (ci := 2) (i := 1) (N := 3) (r := (RX2, TX2, 7)) 13 18 rfl rfl (Nat.le_of_ble_eq_true rfl) (Nat.le_of_ble_eq_true rfl) rfl rfl (Nat.le_of_ble_eq_true rfl) (Nat.le_of_ble_eq_true rfl) dX6_init_50 ?_
  refine g_dup dX6_init_51 rfl ?_
  refine g_iconst dX6_init_52 ?_
  refine g_newO (ci := 2) (N := 7) (fs := [.null, .null, .null, .int (iN 0), .int (iN 0), .int (iN 0), .int (iN 0)]) z0 rfl inX2 tyX2_ok ⟨tm_1 (List.mem_of_getElem? (i := 88) rfl) rfl, tm_1 (List.mem_of_getElem? (i := 90) rfl) rfl, tm_1 (List.mem_of_getElem? (i := 4) rfl) rfl⟩ dfX2 ⟨Nat.le_of_ble_eq_true rfl, Nat.le_of_ble_eq_true rfl⟩ dX6_init_53 (fun q10 => ?_)
  refine g_dup dX6_init_56 rfl ?_
  refine g_ctor 22 [] z0 z2 (met_X2_init _ ) (Nat.le_of_ble_eq_true rfl) rfl lX6_25 ⟨Nat.le_of_ble_eq_true rfl, Nat.le_of_ble_eq_true rfl⟩ ⟨Nat.le_of_ble_eq_true rfl, Nat.le_of_ble_eq_true rfl⟩ (Nat.le_of_ble_eq_true rfl) rfl (Nat.le_of_ble_eq_true rfl) dX6_init_57 rfl (fun b11 hb11 => ?_)
  refine g_astQ (t := 3) (ci := 2) (i := 2) (N := 3) (r := (RX2, TX2, 7)) 13 22 rfl rfl (Nat.le_of_ble_eq_true rfl) (Nat.le_of_ble_eq_true rfl) rfl rfl (Nat.le_of_ble_eq_true rfl) (Nat.le_of_ble_eq_true rfl) dX6_init_60 ?_
  refine g_putE (fs := [.int (iN 0), .null, .ref q1, .ref q3, .null, .null, .null, .null, .int (iN 0), .int (iN 0)]) 0 (.ref q5) z1 nX6_26 (Nat.le_of_ble_eq_true rfl) rfl dX6_init_61 rfl rfl (Nat.le_of_ble_eq_true rfl) ?_
  refine g_aload_n 0 dX6_init_64 rfl rfl ?_
  refine g_newO (ci := 4) (N := 7) (fs := [.null, .null, .null, .null, .null, .int (iN 0), .int (iN 0)]) z0 rfl inX4 tyX4_ok ⟨tm_1 (List.mem_of_getElem? (i := 130) rfl) rfl, tm_1 (List.mem_of_getElem? (i := 131) rfl) rfl, tm_1 (List.mem_of_getElem? (i := 6) rfl) rfl⟩ dfX4 ⟨Nat.le_of_ble_eq_true rfl, Nat.le_of_ble_eq_true rfl⟩ dX6_init_65 (fun q12 => ?_)
  refine g_dup dX6_init_68 rfl ?_
  refine g_ctor 26 [] z0 z2 (met_X4_init _ ) (Nat.le_of_ble_eq_true rfl) rfl lX6_32 ⟨Nat.le_of_ble_eq_true rfl, Nat.le_of_ble_eq_true rfl⟩ ⟨Nat.le_of_ble_eq_true rfl, Nat.le_of_ble_eq_true rfl⟩ (Nat.le_of_ble_eq_true rfl) rfl (Nat.le_of_ble_eq_true rfl) dX6_init_69 rfl (fun b13 hb13 => ?_)
  refine g_putE (fs := [.int (iN 0), .null, .ref q1, .ref q3, .ref q5, .null, .null, .null, .int (iN 0), .int (iN 0)]) 0 (.ref q12) z1 nX6_33 (Nat.le_of_ble_eq_true rfl) rfl dX6_init_72 rfl rfl (Nat.le_of_ble_eq_true rfl) ?_
  refine g_aload_n 0 dX6_init_75 rfl rfl ?_
  refine g_newO (ci := 5) (N := 5) (fs := [.null, .null, .null, .null, .int (iN 0)]) z0 rfl inX5 tyX5_ok ⟨tm_1 (List.mem_of_getElem? (i := 162) rfl) rfl, tm_1 (List.mem_of_getElem? (i := 163) rfl) rfl, tm_1 (List.mem_of_getElem? (i := 7) rfl) rfl⟩ dfX5 ⟨Nat.le_of_ble_eq_true rfl, Nat.le_of_ble_eq_true rfl⟩ dX6_init_76 (fun q14 => ?_)
  refine g_dup dX6_init_79 rfl ?_
  refine g_ctor 43 [] z0 z2 (met_X5_init _ ) (Nat.le_of_ble_eq_true rfl) rfl lX6_39 ⟨Nat.le_of_ble_eq_true rfl, Nat.le_of_ble_eq_true rfl⟩ ⟨Nat.le_of_ble_eq_true rfl, Nat.le_of_ble_eq_true rfl⟩ (Nat.le_of_ble_eq_true rfl) rfl (Nat.le_of_ble_eq_true rfl) dX6_init_80 rfl (fun b15 hb15 => ?_)
  refine g_putE (fs := [.int (iN 0), .null, .ref q1, .ref q3, .ref q5, .ref q12, .null, .null, .int (iN 0), .int (iN 0)]) 0 (.ref q14) z1 nX6_40 (Nat.le_of_ble_eq_true rfl) rfl dX6_init_83 rfl rfl (Nat.le_of_ble_eq_true rfl) ?_
  refine g_aload_n 0 dX6_init_86 rfl rfl ?_
  refine g_bipush dX6_init_87 rfl ?_
  refine g_newA (t := 0) (N := 40) (ty := .int) (v := arI (τ 0) 40) z0 rfl (fun C h => by cases h) rfl (tm_1 (List.mem_of_getElem? (i := 61) rfl) rfl) (Nat.le_of_ble_eq_true rfl) (Nat.le_of_ble_eq_true rfl) ⟨_, rfl, rfl⟩ ⟨Nat.le_of_ble_eq_true rfl, Nat.le_of_ble_eq_true rfl⟩ dX6_init_89 (fun q16 => ?_)
  refine g_putE (fs := [.int (iN 0), .null, .ref q1, .ref q3, .ref q5, .ref q12, .ref q14, .null, .int (iN 0), .int (iN 0)]) 0 (.ref q16) z1 nX6_44 (Nat.le_of_ble_eq_true rfl) rfl dX6_init_91 rfl rfl (Nat.le_of_ble_eq_true rfl) ?_
  refine g_aload_n 0 dX6_init_94 rfl rfl ?_
  refine g_iconst dX6_init_95 ?_
  refine g_putE (fs := [.int (iN 0), .null, .ref q1, .ref q3, .ref q5, .ref q12, .ref q14, .ref q16, .int (iN 0), .int (iN 0)]) 0 (.int (iN 0)) z1 nX6_48 (Nat.le_of_ble_eq_true rfl) rfl dX6_init_96 rfl rfl (Nat.le_of_ble_eq_true rfl) ?_
  refine g_aload_n 0 dX6_init_99 rfl rfl ?_
  refine g_iconst dX6_init_100 ?_
  refine g_putE (fs := [.int (iN 0), .null, .ref q1, .ref q3, .ref q5, .ref q12, .ref q14, .ref q16, .int (iN 0), .int (iN 0)]) 0 (.int (iN 0)) z1 nX6_52 (Nat.le_of_ble_eq_true rfl) rfl dX6_init_101 rfl rfl (Nat.le_of_ble_eq_true rfl) ?_
  refine g_aload_n 0 dX6_init_104 rfl rfl ?_
  refine g_iconst dX6_init_105 ?_
  refine g_bipush dX6_init_106 rfl ?_
  refine g_iload_n 2 dX6_init_108 rfl rfl ?_
  refine g_mmin jX6_55 ⟨Nat.le_of_ble_eq_true rfl, Nat.le_of_ble_eq_true rfl⟩ (Nat.le_of_ble_eq_true rfl) dX6_init_109 (by omega) (by omega) ?_
  refine g_mmax jX6_61 ⟨Nat.le_of_ble_eq_true rfl, Nat.le_of_ble_eq_true rfl⟩ (Nat.le_of_ble_eq_true rfl) dX6_init_112 (by omega) (by omega) ?_
  refine g_putE (fs := [.int (iN 0), .null, .ref q1, .ref q3, .ref q5, .ref q12, .ref q14, .ref q16, .int (iN 0), .int (iN 0)]) 0 (.int (iN (max 1 (min 120 sl)))) z1 nX6_64 (Nat.le_of_ble_eq_true rfl) rfl dX6_init_115 rfl rfl (Nat.le_of_ble_eq_true rfl) ?_
  refine g_aload_n 0 dX6_init_118 rfl rfl ?_
  refine g_newO (ci := 0) (N := 1) (fs := [.long (jN 0)]) z0 rfl inX0 tyX0_ok ⟨tm_1 (List.mem_of_getElem? (i := 192) rfl) rfl, tm_1 (List.mem_of_getElem? (i := 193) rfl) rfl, tm_1 (List.mem_of_getElem? (i := 9) rfl) rfl⟩ dfX0 ⟨Nat.le_of_ble_eq_true rfl, Nat.le_of_ble_eq_true rfl⟩ dX6_init_119 (fun q17 => ?_)
  refine g_dup dX6_init_122 rfl ?_
  refine g_lload_n 1 dX6_init_123 rfl rfl ?_
  refine g_ctor 120 [.long (jN sd)] z0 z2 (met_X0_init _ sd) (Nat.le_of_ble_eq_true rfl) rfl lX6_69 ⟨Nat.le_of_ble_eq_true rfl, Nat.le_of_ble_eq_true rfl⟩ ⟨Nat.le_of_ble_eq_true rfl, Nat.le_of_ble_eq_true rfl⟩ (Nat.le_of_ble_eq_true rfl) rfl (Nat.le_of_ble_eq_true rfl) dX6_init_124 rfl (fun b18 hb18 => ?_)
  refine g_putE (fs := [.int (iN (max 1 (min 120 sl))), .null, .ref q1, .ref q3, .ref q5, .ref q12, .ref q14, .ref q16, .int (iN 0), .int (iN 0)]) 0 (.ref q17) z1 nX6_72 (Nat.le_of_ble_eq_true rfl) rfl dX6_init_127 rfl rfl (Nat.le_of_ble_eq_true rfl) ?_
  refine g_perm piX piX_lt piX_inj ?_
  refine g_retN hq ⟨rfl, rfl⟩ rfl (Nat.le_of_ble_eq_true rfl) rfl ?_ rfl dX6_init_130
  intro k hk
  by_cases e0 : k = 0
  · subst e0; exact eqv.of rfl
  by_cases e1 : k = 1
  · subst e1; exact eqv.of rfl
  by_cases e2 : k = 2
  · subst e2; exact eqv.of rfl
  by_cases e3 : k = 3
  · subst e3; exact eqv.of rfl
  by_cases e4 : k = 4
  · subst e4; exact eqv.of rfl
  by_cases e5 : k = 5
  · subst e5; exact eqv.of rfl
  by_cases e6 : k = 6
  · subst e6; exact eqv.of rfl
  by_cases e7 : k = 7
  · subst e7; exact eqv.of rfl
  by_cases e8 : k = 8
  · subst e8; exact eqv.of rfl
  by_cases e9 : k = 9
  · subst e9; exact eqv.of rfl
  by_cases e10 : k = 10
  · subst e10; exact eqv.of rfl
  by_cases e11 : k = 11
  · subst e11; exact eqv.of rfl
  by_cases e12 : k = 12
  · subst e12; exact eqv.of rfl
  by_cases e13 : k = 13
  · subst e13; exact eqv.of rfl
  by_cases e14 : k = 14
  · subst e14; exact eqv.q (fun j hj => by by_cases f0 : j = 0; (subst f0; rfl); by_cases f1 : j = 1; (subst f1; rfl); by_cases f2 : j = 2; (subst f2; rfl); omega)
  by_cases e15 : k = 15
  · subst e15; exact eqv.of rfl
  by_cases e16 : k = 16
  · subst e16; exact eqv.of rfl
  by_cases e17 : k = 17
  · subst e17; exact eqv.of rfl
  by_cases e18 : k = 18
  · subst e18; exact eqv.of rfl
  by_cases e19 : k = 19
  · subst e19; exact eqv.of rfl
  by_cases e20 : k = 20
  · subst e20; exact eqv.of rfl
  by_cases e21 : k = 21
  · subst e21; exact eqv.of rfl
  by_cases e22 : k = 22
  · subst e22; exact eqv.of rfl
  by_cases e23 : k = 23
  · subst e23; exact eqv.of rfl
  by_cases e24 : k = 24
  · subst e24; exact eqv.of rfl
  by_cases e25 : k = 25
  · subst e25; exact eqv.of rfl
  by_cases e26 : k = 26
  · subst e26; exact eqv.of rfl
  by_cases e27 : k = 27
  · subst e27; exact eqv.of rfl
  by_cases e28 : k = 28
  · subst e28; exact eqv.of rfl
  by_cases e29 : k = 29
  · subst e29; exact eqv.of rfl
  by_cases e30 : k = 30
  · subst e30; exact eqv.of rfl
  by_cases e31 : k = 31
  · subst e31; exact eqv.of rfl
  by_cases e32 : k = 32
  · subst e32; exact eqv.q (fun j hj => by by_cases f0 : j = 0; (subst f0; rfl); by_cases f1 : j = 1; (subst f1; rfl); by_cases f2 : j = 2; (subst f2; rfl); by_cases f3 : j = 3; (subst f3; rfl); by_cases f4 : j = 4; (subst f4; rfl); by_cases f5 : j = 5; (subst f5; rfl); by_cases f6 : j = 6; (subst f6; rfl); by_cases f7 : j = 7; (subst f7; rfl); by_cases f8 : j = 8; (subst f8; rfl); by_cases f9 : j = 9; (subst f9; rfl); by_cases f10 : j = 10; (subst f10; rfl); omega)
  by_cases e33 : k = 33
  · subst e33; exact eqv.of rfl
  by_cases e34 : k = 34
  · subst e34; exact eqv.of rfl
  by_cases e35 : k = 35
  · subst e35; exact eqv.of rfl
  by_cases e36 : k = 36
  · subst e36; exact eqv.of rfl
  by_cases e37 : k = 37
  · subst e37; exact eqv.of rfl
  by_cases e38 : k = 38
  · subst e38; exact eqv.of rfl
  by_cases e39 : k = 39
  · subst e39; exact eqv.of rfl
  by_cases e40 : k = 40
  · subst e40; exact eqv.of rfl
  by_cases e41 : k = 41
  · subst e41; exact eqv.of rfl
  by_cases e42 : k = 42
  · subst e42; exact eqv.of rfl
  by_cases e43 : k = 43
  · subst e43; exact eqv.of rfl
  by_cases e44 : k = 44
  · subst e44; exact eqv.of rfl
  by_cases e45 : k = 45
  · subst e45; exact eqv.of rfl
  by_cases e46 : k = 46
  · subst e46; exact eqv.of rfl
  by_cases e47 : k = 47
  · subst e47; exact eqv.q (fun j hj => by by_cases f0 : j = 0; (subst f0; rfl); by_cases f1 : j = 1; (subst f1; rfl); by_cases f2 : j = 2; (subst f2; rfl); by_cases f3 : j = 3; (subst f3; rfl); by_cases f4 : j = 4; (subst f4; rfl); by_cases f5 : j = 5; (subst f5; rfl); by_cases f6 : j = 6; (subst f6; rfl); omega)
  by_cases e48 : k = 48
  · subst e48; exact eqv.of rfl
  by_cases e49 : k = 49
  · subst e49; exact eqv.of rfl
  by_cases e50 : k = 50
  · subst e50; exact eqv.of rfl
  by_cases e51 : k = 51
  · subst e51; exact eqv.of rfl
  by_cases e52 : k = 52
  · subst e52; exact eqv.of rfl
  by_cases e53 : k = 53
  · subst e53; exact eqv.of rfl
  by_cases e54 : k = 54
  · subst e54; exact eqv.of rfl
  by_cases e55 : k = 55
  · subst e55; exact eqv.q (fun j hj => by by_cases f0 : j = 0; (subst f0; rfl); by_cases f1 : j = 1; (subst f1; rfl); by_cases f2 : j = 2; (subst f2; rfl); by_cases f3 : j = 3; (subst f3; rfl); by_cases f4 : j = 4; (subst f4; rfl); by_cases f5 : j = 5; (subst f5; rfl); by_cases f6 : j = 6; (subst f6; rfl); by_cases f7 : j = 7; (subst f7; rfl); by_cases f8 : j = 8; (subst f8; rfl); by_cases f9 : j = 9; (subst f9; rfl); by_cases f10 : j = 10; (subst f10; rfl); by_cases f11 : j = 11; (subst f11; rfl); by_cases f12 : j = 12; (subst f12; rfl); by_cases f13 : j = 13; (subst f13; rfl); by_cases f14 : j = 14; (subst f14; rfl); by_cases f15 : j = 15; (subst f15; rfl); by_cases f16 : j = 16; (subst f16; rfl); by_cases f17 : j = 17; (subst f17; rfl); by_cases f18 : j = 18; (subst f18; rfl); by_cases f19 : j = 19; (subst f19; rfl); by_cases f20 : j = 20; (subst f20; rfl); by_cases f21 : j = 21; (subst f21; rfl); by_cases f22 : j = 22; (subst f22; rfl); by_cases f23 : j = 23; (subst f23; rfl); by_cases f24 : j = 24; (subst f24; rfl); by_cases f25 : j = 25; (subst f25; rfl); by_cases f26 : j = 26; (subst f26; rfl); by_cases f27 : j = 27; (subst f27; rfl); by_cases f28 : j = 28; (subst f28; rfl); by_cases f29 : j = 29; (subst f29; rfl); by_cases f30 : j = 30; (subst f30; rfl); by_cases f31 : j = 31; (subst f31; rfl); by_cases f32 : j = 32; (subst f32; rfl); by_cases f33 : j = 33; (subst f33; rfl); by_cases f34 : j = 34; (subst f34; rfl); by_cases f35 : j = 35; (subst f35; rfl); by_cases f36 : j = 36; (subst f36; rfl); by_cases f37 : j = 37; (subst f37; rfl); by_cases f38 : j = 38; (subst f38; rfl); by_cases f39 : j = 39; (subst f39; rfl); by_cases f40 : j = 40; (subst f40; rfl); by_cases f41 : j = 41; (subst f41; rfl); by_cases f42 : j = 42; (subst f42; rfl); by_cases f43 : j = 43; (subst f43; rfl); by_cases f44 : j = 44; (subst f44; rfl); by_cases f45 : j = 45; (subst f45; rfl); by_cases f46 : j = 46; (subst f46; rfl); by_cases f47 : j = 47; (subst f47; rfl); by_cases f48 : j = 48; (subst f48; rfl); by_cases f49 : j = 49; (subst f49; rfl); by_cases f50 : j = 50; (subst f50; rfl); by_cases f51 : j = 51; (subst f51; rfl); by_cases f52 : j = 52; (subst f52; rfl); by_cases f53 : j = 53; (subst f53; rfl); by_cases f54 : j = 54; (subst f54; rfl); by_cases f55 : j = 55; (subst f55; rfl); by_cases f56 : j = 56; (subst f56; rfl); by_cases f57 : j = 57; (subst f57; rfl); by_cases f58 : j = 58; (subst f58; rfl); by_cases f59 : j = 59; (subst f59; rfl); by_cases f60 : j = 60; (subst f60; rfl); by_cases f61 : j = 61; (subst f61; rfl); by_cases f62 : j = 62; (subst f62; rfl); by_cases f63 : j = 63; (subst f63; rfl); omega)
  by_cases e56 : k = 56
  · subst e56; exact eqv.of rfl
  by_cases e57 : k = 57
  · subst e57; exact eqv.of rfl
  by_cases e58 : k = 58
  · subst e58; exact eqv.of rfl
  by_cases e59 : k = 59
  · subst e59; exact eqv.of rfl
  by_cases e60 : k = 60
  · subst e60; exact eqv.of rfl
  by_cases e61 : k = 61
  · subst e61; exact eqv.of rfl
  by_cases e62 : k = 62
  · subst e62; exact eqv.of rfl
  by_cases e63 : k = 63
  · subst e63; exact eqv.of rfl
  by_cases e64 : k = 64
  · subst e64; exact eqv.of rfl
  by_cases e65 : k = 65
  · subst e65; exact eqv.of rfl
  by_cases e66 : k = 66
  · subst e66; exact eqv.of rfl
  by_cases e67 : k = 67
  · subst e67; exact eqv.of rfl
  by_cases e68 : k = 68
  · subst e68; exact eqv.of rfl
  by_cases e69 : k = 69
  · subst e69; exact eqv.of rfl
  by_cases e70 : k = 70
  · subst e70; exact eqv.of rfl
  by_cases e71 : k = 71
  · subst e71; exact eqv.of rfl
  by_cases e72 : k = 72
  · subst e72; exact eqv.of rfl
  by_cases e73 : k = 73
  · subst e73; exact eqv.of rfl
  by_cases e74 : k = 74
  · subst e74; exact eqv.of rfl
  by_cases e75 : k = 75
  · subst e75; exact eqv.of rfl
  by_cases e76 : k = 76
  · subst e76; exact eqv.of rfl
  by_cases e77 : k = 77
  · subst e77; exact eqv.of rfl
  by_cases e78 : k = 78
  · subst e78; exact eqv.of rfl
  by_cases e79 : k = 79
  · subst e79; exact eqv.of rfl
  by_cases e80 : k = 80
  · subst e80; exact eqv.of rfl
  by_cases e81 : k = 81
  · subst e81; exact eqv.of rfl
  by_cases e82 : k = 82
  · subst e82; exact eqv.of rfl
  by_cases e83 : k = 83
  · subst e83; exact eqv.of rfl
  by_cases e84 : k = 84
  · subst e84; exact eqv.of rfl
  by_cases e85 : k = 85
  · subst e85; exact eqv.of rfl
  by_cases e86 : k = 86
  · subst e86; exact eqv.of rfl
  by_cases e87 : k = 87
  · subst e87; exact eqv.of rfl
  by_cases e88 : k = 88
  · subst e88; exact eqv.of rfl
  by_cases e89 : k = 89
  · subst e89; exact eqv.of rfl
  by_cases e90 : k = 90
  · subst e90; exact eqv.of rfl
  by_cases e91 : k = 91
  · subst e91; exact eqv.of rfl
  by_cases e92 : k = 92
  · subst e92; exact eqv.of rfl
  by_cases e93 : k = 93
  · subst e93; exact eqv.of rfl
  by_cases e94 : k = 94
  · subst e94; exact eqv.of rfl
  by_cases e95 : k = 95
  · subst e95; exact eqv.of rfl
  by_cases e96 : k = 96
  · subst e96; exact eqv.of rfl
  by_cases e97 : k = 97
  · subst e97; exact eqv.of rfl
  by_cases e98 : k = 98
  · subst e98; exact eqv.of rfl
  by_cases e99 : k = 99
  · subst e99; exact eqv.of rfl
  by_cases e100 : k = 100
  · subst e100; exact eqv.of rfl
  by_cases e101 : k = 101
  · subst e101; exact eqv.of rfl
  by_cases e102 : k = 102
  · subst e102; exact eqv.of rfl
  by_cases e103 : k = 103
  · subst e103; exact eqv.of rfl
  by_cases e104 : k = 104
  · subst e104; exact eqv.of rfl
  by_cases e105 : k = 105
  · subst e105; exact eqv.of rfl
  by_cases e106 : k = 106
  · subst e106; exact eqv.of rfl
  by_cases e107 : k = 107
  · subst e107; exact eqv.of rfl
  by_cases e108 : k = 108
  · subst e108; exact eqv.of rfl
  by_cases e109 : k = 109
  · subst e109; exact eqv.of rfl
  by_cases e110 : k = 110
  · subst e110; exact eqv.of rfl
  by_cases e111 : k = 111
  · subst e111; exact eqv.of rfl
  by_cases e112 : k = 112
  · subst e112; exact eqv.of rfl
  by_cases e113 : k = 113
  · subst e113; exact eqv.of rfl
  by_cases e114 : k = 114
  · subst e114; exact eqv.of rfl
  by_cases e115 : k = 115
  · subst e115; exact eqv.of rfl
  by_cases e116 : k = 116
  · subst e116; exact eqv.of rfl
  by_cases e117 : k = 117
  · subst e117; exact eqv.of rfl
  by_cases e118 : k = 118
  · subst e118; exact eqv.of rfl
  by_cases e119 : k = 119
  · subst e119; exact eqv.of rfl
  by_cases e120 : k = 120
  · subst e120; exact eqv.of rfl
  have hk1 : k < 121 := hk
  omega
