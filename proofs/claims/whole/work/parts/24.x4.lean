set_option maxHeartbeats 4000000 in
/-- Shares.clear() -/
theorem met_X4_clear {l : Launch} {D : va_G} {τ : Nat → ClassId} {a : Nat → Nat} (ha : Apart (LX τ) a) {V : Mem}  : CV l D (tysL τ) (LX τ) a yX4_clear mX4_clear [.ref (a 27)] V (fun V' => V' = up (up (fillM V 28 10 (-1)) 27 5 0) 27 6 0) := by
  refine CV.of (by decide +kernel) rfl (Nat.le_of_ble_eq_true rfl) ha (fun x hq => ?_)
  show G l D (tysL τ) (LX τ) a mX4_clear x 0 [(0, .ref (a 27))] [] V
  refine g_aload_n 0 dX4_clear_0 rfl rfl ?_
  refine g_getf 27 (.ref (a 28)) fX4_9 ox_27 dX4_clear_1 rfl ?_
  refine g_iconst dX4_clear_4 ?_
  refine g_callXV [.ref (a 28), .int (iN (-1))] (met_J0_fill ha ax_28 (-1)) vX4_36 ⟨rfl, rfl, Nat.le_of_ble_eq_true rfl, Nat.le_of_ble_eq_true rfl⟩ rfl (Nat.le_of_ble_eq_true rfl) dX4_clear_5 rfl ?_
  intro V_1 eV_1
  refine g_aload_n 0 dX4_clear_8 rfl rfl ?_
  refine g_iconst dX4_clear_9 ?_
  refine g_putf 27 (v := 0) (.int (iN 0)) pX4_29 ox_27 dX4_clear_10 rfl rfl (Nat.le_of_ble_eq_true rfl) rfl ?_
  obtain ⟨V_2, eV_2⟩ : ∃ q, q = up V_1 27 5 0 := ⟨_, rfl⟩
  refine g_mem eV_2.symm ?_
  refine g_aload_n 0 dX4_clear_13 rfl rfl ?_
  refine g_iconst dX4_clear_14 ?_
  refine g_putf 27 (v := 0) (.int (iN 0)) pX4_33 ox_27 dX4_clear_15 rfl rfl (Nat.le_of_ble_eq_true rfl) rfl ?_
  obtain ⟨V_3, eV_3⟩ : ∃ q, q = up V_2 27 6 0 := ⟨_, rfl⟩
  refine g_mem eV_3.symm ?_
  exact g_vret hq rfl dX4_clear_18 (by rw [eV_3, eV_2, eV_1])

set_option maxHeartbeats 4000000 in
/-- Shares.add(k, n, h) -/
theorem met_X4_add {l : Launch} {D : va_G} {τ : Nat → ClassId} {a : Nat → Nat} (ha : Apart (LX τ) a) {V : Mem} (k0 n0 h0 : Int) (hc : 0 ≤ V 27 5 ∧ V 27 5 < 10) (hn : 0 ≤ n0 ∧ 0 ≤ V 27 6 ∧ V 27 6 + n0 ≤ 40) : CV l D (tysL τ) (LX τ) a yX4_add mX4_add [.ref (a 27), .int (iN k0), .int (iN n0), .int (iN h0)] V (fun V' => V' = up (up (up (up (up V 29 (V 27 5).toNat k0) 30 (V 27 5).toNat n0) 31 (V 27 5).toNat h0) 27 5 (V 27 5 + 1)) 27 6 (V 27 6 + n0)) := by
  refine CV.of (by decide +kernel) rfl (Nat.le_of_ble_eq_true rfl) ha (fun x hq => ?_)
  show G l D (tysL τ) (LX τ) a mX4_add x 0 [(0, .ref (a 27)), (1, .int (iN k0)), (2, .int (iN n0)), (3, .int (iN h0))] [] V
  refine g_aload_n 0 dX4_add_0 rfl rfl ?_
  refine g_getf 27 (.int (iN (V 27 5))) fX4_29 ox_27 dX4_add_1 rfl ?_
  refine g_bipush dX4_add_4 rfl ?_
  refine g_icmp_ge 20 dX4_add_6 (by decide) (fun c_1 => ?_) (fun c_1 => ?_)
  · omega
  · refine g_aload_n 0 dX4_add_9 rfl rfl ?_
    refine g_getf 27 (.int (iN (V 27 6))) fX4_33 ox_27 dX4_add_10 rfl ?_
    refine g_iload_n 2 dX4_add_13 rfl rfl ?_
    refine g_iadd dX4_add_14 ?_
    refine g_bipush dX4_add_15 rfl ?_
    refine g_icmp_le 21 dX4_add_17 (by decide) (fun c_2 => ?_) (fun c_2 => ?_)
    · refine g_aload_n 0 dX4_add_21 rfl rfl ?_
      refine g_getf 27 (.ref (a 29)) fX4_15 ox_27 dX4_add_22 rfl ?_
      refine g_aload_n 0 dX4_add_25 rfl rfl ?_
      refine g_getf 27 (.int (iN (V 27 5))) fX4_29 ox_27 dX4_add_26 rfl ?_
      refine g_iload_n 1 dX4_add_29 rfl rfl ?_
      refine g_iast 29 ((V 27 5).toNat) ax_29 dX4_add_30 (by omega) (by omega) ?_
      obtain ⟨V_3, eV_3⟩ : ∃ q, q = up V 29 ((V 27 5).toNat) k0 := ⟨_, rfl⟩
      refine g_mem eV_3.symm ?_
      refine g_aload_n 0 dX4_add_31 rfl rfl ?_
      refine g_getf 27 (.ref (a 30)) fX4_18 ox_27 dX4_add_32 rfl ?_
      refine g_aload_n 0 dX4_add_35 rfl rfl ?_
      refine g_getf 27 (.int (iN (V_3 27 5))) fX4_29 ox_27 dX4_add_36 rfl ?_
      refine g_top (show _ = V 27 5 from by rw [eV_3, up_ne (by omega)]) ?_
      refine g_iload_n 2 dX4_add_39 rfl rfl ?_
      refine g_iast 30 ((V 27 5).toNat) ax_30 dX4_add_40 (by omega) (by omega) ?_
      obtain ⟨V_4, eV_4⟩ : ∃ q, q = up V_3 30 ((V 27 5).toNat) n0 := ⟨_, rfl⟩
      refine g_mem eV_4.symm ?_
      refine g_aload_n 0 dX4_add_41 rfl rfl ?_
      refine g_getf 27 (.ref (a 31)) fX4_21 ox_27 dX4_add_42 rfl ?_
      refine g_aload_n 0 dX4_add_45 rfl rfl ?_
      refine g_getf 27 (.int (iN (V_4 27 5))) fX4_29 ox_27 dX4_add_46 rfl ?_
      refine g_top (show _ = V 27 5 from by rw [eV_4, up_ne (by omega), eV_3, up_ne (by omega)]) ?_
      refine g_iload_n 3 dX4_add_49 rfl rfl ?_
      refine g_iast 31 ((V 27 5).toNat) ax_31 dX4_add_50 (by omega) (by omega) ?_
      obtain ⟨V_5, eV_5⟩ : ∃ q, q = up V_4 31 ((V 27 5).toNat) h0 := ⟨_, rfl⟩
      refine g_mem eV_5.symm ?_
      refine g_aload_n 0 dX4_add_51 rfl rfl ?_
      refine g_dup dX4_add_52 rfl ?_
      refine g_getf 27 (.int (iN (V_5 27 5))) fX4_29 ox_27 dX4_add_53 rfl ?_
      refine g_top (show _ = V 27 5 from by rw [eV_5, up_ne (by omega), eV_4, up_ne (by omega), eV_3, up_ne (by omega)]) ?_
      refine g_iconst dX4_add_56 ?_
      refine g_iadd dX4_add_57 ?_
      refine g_putf 27 (v := (V 27 5) + 1) (.int (iN ((V 27 5) + 1))) pX4_29 ox_27 dX4_add_58 rfl rfl (Nat.le_of_ble_eq_true rfl) rfl ?_
      obtain ⟨V_6, eV_6⟩ : ∃ q, q = up V_5 27 5 ((V 27 5) + 1) := ⟨_, rfl⟩
      refine g_mem eV_6.symm ?_
      refine g_aload_n 0 dX4_add_61 rfl rfl ?_
      refine g_dup dX4_add_62 rfl ?_
      refine g_getf 27 (.int (iN (V_6 27 6))) fX4_33 ox_27 dX4_add_63 rfl ?_
      refine g_top (show _ = V 27 6 from by rw [eV_6, up_ne (by omega), eV_5, up_ne (by omega), eV_4, up_ne (by omega), eV_3, up_ne (by omega)]) ?_
      refine g_iload_n 2 dX4_add_66 rfl rfl ?_
      refine g_iadd dX4_add_67 ?_
      refine g_putf 27 (v := (V 27 6) + n0) (.int (iN ((V 27 6) + n0))) pX4_33 ox_27 dX4_add_68 rfl rfl (Nat.le_of_ble_eq_true rfl) rfl ?_
      obtain ⟨V_7, eV_7⟩ : ∃ q, q = up V_6 27 6 ((V 27 6) + n0) := ⟨_, rfl⟩
      refine g_mem eV_7.symm ?_
      exact g_vret hq rfl dX4_add_71 (by rw [eV_7, eV_6, eV_5, eV_4, eV_3])
    · omega

set_option maxHeartbeats 4000000 in
/-- Shares.isHost(i, m) -/
theorem met_X4_isHost {l : Launch} {D : va_G} {τ : Nat → ClassId} {a : Nat → Nat} (ha : Apart (LX τ) a) {V : Mem} (i m : Nat) (hi : i < 10) (hm : m < 3) (hh : 0 ≤ V 31 i ∧ V 31 i ≤ 7) : CI l D (tysL τ) (LX τ) a yX4_isHost mX4_isHost [.ref (a 27), .int (iN (i : Int)), .int (iN (m : Int))] V (fun z V' => ((z = 1 ∧ (V 31 i).toNat / 2 ^ m % 2 = 1) ∨ (z = 0 ∧ ¬ (V 31 i).toNat / 2 ^ m % 2 = 1)) ∧ V' = V) := by
  refine CI.of (by decide +kernel) rfl (Nat.le_of_ble_eq_true rfl) ha (fun x hq => ?_)
  show G l D (tysL τ) (LX τ) a mX4_isHost x 0 [(0, .ref (a 27)), (1, .int (iN (i : Int))), (2, .int (iN (m : Int)))] [] V
  have hlt : (V 31 i).toNat / 2 ^ m ≤ (V 31 i).toNat := Nat.div_le_self _ _
  refine g_aload_n 0 dX4_isHost_0 rfl rfl ?_
  refine g_getf 27 (.ref (a 31)) fX4_21 ox_27 dX4_isHost_1 rfl ?_
  refine g_iload_n 1 dX4_isHost_4 rfl rfl ?_
  refine g_iald 31 i ax_31 dX4_isHost_5 rfl (by omega) ?_
  refine g_top (show V 31 i = (((V 31 i).toNat : Nat) : Int) from by omega) ?_
  refine g_iload_n 2 dX4_isHost_6 rfl rfl ?_
  refine g_ishr ((((V 31 i).toNat) / 2 ^ m : Nat) : Int) dX4_isHost_7 (iN_shr (by omega) (by omega)) ?_
  refine g_iconst dX4_isHost_8 ?_
  refine g_iand (((((V 31 i).toNat) / 2 ^ m) % 2 : Nat) : Int) dX4_isHost_9 (iN_and1 _) ?_
  refine g_iconst dX4_isHost_10 ?_
  refine g_icmp_ne 18 dX4_isHost_11 (by decide) (fun c_1 => ?_) (fun c_1 => ?_)
  · refine g_iconst dX4_isHost_18 ?_
    exact g_iret hq rfl rfl dX4_isHost_19 (⟨Or.inr ⟨rfl, by omega⟩, rfl⟩)
  · refine g_iconst dX4_isHost_14 ?_
    refine g_goto 19 dX4_isHost_15 (by decide) ?_
    exact g_iret hq rfl rfl dX4_isHost_19 (⟨Or.inl ⟨rfl, by omega⟩, rfl⟩)

set_option maxHeartbeats 4000000 in
/-- Shares.lastLoads(q, lim) -/
theorem met_X4_lastLoads {l : Launch} {D : va_G} {τ : Nat → ClassId} {a : Nat → Nat} (ha : Apart (LX τ) a) {V : Mem} (q lim : Nat) (t : Nat) (ht : V 27 6 = (t : Int)) (ht40 : t ≤ 40) (hq0 : q ≤ t) (hlim : lim ≤ 40) : CL l D (tysL τ) (LX τ) a yX4_lastLoads mX4_lastLoads [.ref (a 27), .int (iN (q : Int)), .int (iN (lim : Int))] V (fun z V' => (∃ e : Nat, z = (e : Int) ∧ e < 2199023255552 ∧ ∀ b, e.testBit b = decide (q ≤ lim ∧ b ≤ lim ∧ q + b ≤ t ∧ t ≤ q + b + lim)) ∧ V' = V) := by
  refine CL.of (by decide +kernel) rfl (Nat.le_of_ble_eq_true rfl) ha (fun x hq => ?_)
  show G l D (tysL τ) (LX τ) a mX4_lastLoads x 0 [(0, .ref (a 27)), (1, .int (iN (q : Int))), (2, .int (iN (lim : Int)))] [] V
  have jn_53 : ∀ (e : Nat), (e < 2199023255552) → (∀ b, e.testBit b = decide (q ≤ lim ∧ b ≤ lim ∧ q + b ≤ t ∧ t ≤ q + b + lim)) → G l D (tysL τ) (LX τ) a mX4_lastLoads x 53 [(0, .ref (a 27)), (1, .int (iN (q : Int))), (2, .int (iN (lim : Int))), (3, .long (jN (e : Int)))] [] V := by
    intro e he hbit
    refine g_lload_n 3 dX4_lastLoads_53 rfl rfl ?_
    exact g_lret hq rfl dX4_lastLoads_54 (⟨⟨e, rfl, he, hbit⟩, rfl⟩)
  refine g_lconst 0 dX4_lastLoads_0 rfl ?_
  refine g_lstore_n [(3, .long (jN 0)), (0, .ref (a 27)), (1, .int (iN (q : Int))), (2, .int (iN (lim : Int)))] dX4_lastLoads_1 rfl (by decide) rfl ?_
  refine g_lve (show ([(3, .long (jN 0)), (0, .ref (a 27)), (1, .int (iN (q : Int))), (2, .int (iN (lim : Int)))] : List (Nat × Value)) = ([(3, .long (jN ((0 : Nat) : Int))), (0, .ref (a 27)), (1, .int (iN (q : Int))), (2, .int (iN (lim : Int)))] : List (Nat × Value)) from by rw [show 0 = ((0 : Nat) : Int) from rfl]) ?_
  refine g_iload_n 2 dX4_lastLoads_2 rfl rfl ?_
  refine g_iload_n 3 dX4_lastLoads_3 rfl rfl ?_
  refine g_icmp_gt 53 dX4_lastLoads_4 (by decide) (fun c_1 => ?_) (fun c_1 => ?_)
  · refine g_lv [1, 2, 3, 0] rfl ?_
    exact jn_53 0 (by omega) (fun b => by rw [Nat.zero_testBit]; exact (decide_eq_false (by omega)).symm)
  · refine g_iload_n 3 dX4_lastLoads_7 rfl rfl ?_
    refine g_aload_n 1 dX4_lastLoads_8 rfl rfl ?_
    refine g_getf 27 (.int (iN (V 27 6))) fX4_33 ox_27 dX4_lastLoads_9 rfl ?_
    refine g_top (show V 27 6 = (t : Int) from ht) ?_
    refine g_iload_n 2 dX4_lastLoads_12 rfl rfl ?_
    refine g_isub dX4_lastLoads_13 ?_
    refine g_mmin jX4_56 ⟨Nat.le_of_ble_eq_true rfl, Nat.le_of_ble_eq_true rfl⟩ (Nat.le_of_ble_eq_true rfl) dX4_lastLoads_14 (by omega) (by omega) ?_
    refine g_istore [(5, .int (iN (min (lim : Int) ((t : Int) - (q : Int))))), (3, .long (jN ((0 : Nat) : Int))), (0, .ref (a 27)), (1, .int (iN (q : Int))), (2, .int (iN (lim : Int)))] dX4_lastLoads_17 (by decide) rfl ?_
    refine g_iconst dX4_lastLoads_19 ?_
    refine g_aload_n 2 dX4_lastLoads_20 rfl rfl ?_
    refine g_getf 27 (.int (iN (V 27 6))) fX4_33 ox_27 dX4_lastLoads_21 rfl ?_
    refine g_top (show V 27 6 = (t : Int) from ht) ?_
    refine g_iload_n 3 dX4_lastLoads_24 rfl rfl ?_
    refine g_isub dX4_lastLoads_25 ?_
    refine g_iload_n 4 dX4_lastLoads_26 rfl rfl ?_
    refine g_isub dX4_lastLoads_27 ?_
    refine g_mmax jX4_62 ⟨Nat.le_of_ble_eq_true rfl, Nat.le_of_ble_eq_true rfl⟩ (Nat.le_of_ble_eq_true rfl) dX4_lastLoads_28 (by omega) (by omega) ?_
    refine g_istore [(6, .int (iN (max 0 (((t : Int) - (q : Int)) - (lim : Int))))), (5, .int (iN (min (lim : Int) ((t : Int) - (q : Int))))), (3, .long (jN ((0 : Nat) : Int))), (0, .ref (a 27)), (1, .int (iN (q : Int))), (2, .int (iN (lim : Int)))] dX4_lastLoads_31 (by decide) rfl ?_
    refine g_lve (show ([(6, .int (iN (max 0 (((t : Int) - (q : Int)) - (lim : Int))))), (5, .int (iN (min (lim : Int) ((t : Int) - (q : Int))))), (3, .long (jN ((0 : Nat) : Int))), (0, .ref (a 27)), (1, .int (iN (q : Int))), (2, .int (iN (lim : Int)))] : List (Nat × Value)) = ([(6, .int (iN ((t - q - lim : Nat) : Int))), (5, .int (iN (min (lim : Int) ((t : Int) - (q : Int))))), (3, .long (jN ((0 : Nat) : Int))), (0, .ref (a 27)), (1, .int (iN (q : Int))), (2, .int (iN (lim : Int)))] : List (Nat × Value)) from by rw [show max 0 (((t : Int) - (q : Int)) - (lim : Int)) = ((t - q - lim : Nat) : Int) from by omega]) ?_
    have lp_33 : ∀ (fuel : Nat) (b : Nat) (e : Nat), (t - q - lim ≤ b) → (b ≤ 41) → (e < 2199023255552) → (b = t - q - lim ∨ (b : Int) ≤ min (lim : Int) ((t : Int) - (q : Int)) + 1) → (∀ c, e.testBit c = decide (t - q - lim ≤ c ∧ c < b)) → (42 - b) < fuel → G l D (tysL τ) (LX τ) a mX4_lastLoads x 33 [(0, .ref (a 27)), (1, .int (iN (q : Int))), (2, .int (iN (lim : Int))), (3, .long (jN (e : Int))), (5, .int (iN (min (lim : Int) ((t : Int) - (q : Int))))), (6, .int (iN (b : Int)))] [] V := by
      intro fuel
      induction fuel with
      | zero => intro b e hlo hb he hbm hbit hfu; exact absurd hfu (Nat.not_lt_zero _)
      | succ fuel ih_33 =>
        intro b e hlo hb he hbm hbit hfu
        refine g_iload 5 dX4_lastLoads_33 rfl ?_
        refine g_iload 4 dX4_lastLoads_35 rfl ?_
        refine g_icmp_gt 53 dX4_lastLoads_37 (by decide) (fun c_2 => ?_) (fun c_2 => ?_)
        · refine g_lv [0, 1, 2, 3] rfl ?_
          exact jn_53 e he (fun c => by rw [hbit]; exact decide_eq_decide.mpr (by omega))
        · refine g_lload_n 3 dX4_lastLoads_40 rfl rfl ?_
          refine g_lconst 1 dX4_lastLoads_41 rfl ?_
          refine g_iload 5 dX4_lastLoads_42 rfl ?_
          refine g_lshl ((2 ^ b : Nat) : Int) dX4_lastLoads_44 (jN_bit (by omega)) ?_
          refine g_lor ((e ||| (2 ^ b) : Nat) : Int) dX4_lastLoads_45 (jN_or _ _) ?_
          refine g_lstore_n [(3, .long (jN ((e ||| (2 ^ b) : Nat) : Int))), (0, .ref (a 27)), (1, .int (iN (q : Int))), (2, .int (iN (lim : Int))), (5, .int (iN (min (lim : Int) ((t : Int) - (q : Int))))), (6, .int (iN (b : Int)))] dX4_lastLoads_46 rfl (by decide) rfl ?_
          refine g_iinc 5 [(6, .int (iN ((b : Int) + 1))), (3, .long (jN ((e ||| (2 ^ b) : Nat) : Int))), (0, .ref (a 27)), (1, .int (iN (q : Int))), (2, .int (iN (lim : Int))), (5, .int (iN (min (lim : Int) ((t : Int) - (q : Int)))))] dX4_lastLoads_47 rfl (by decide) rfl ?_
          refine g_goto 33 dX4_lastLoads_50 (by decide) ?_
          refine g_lv [2, 3, 4, 1, 5, 0] rfl ?_
          exact ih_33 (b + 1) (e ||| 2 ^ b) (by omega) (by omega) (tOr_lt (sz := 41) he (by omega)) (Or.inr (by omega)) (fun c => by rw [tBit, hbit]; exact bitOr hlo) (by omega)
    refine g_lv [3, 4, 5, 2, 1, 0] rfl ?_
    exact lp_33 _ (t - q - lim) 0 (Nat.le_refl _) (by omega) (by omega) (Or.inl rfl) (fun c => by rw [Nat.zero_testBit]; exact (decide_eq_false (by omega)).symm) (Nat.lt_succ_self _)
