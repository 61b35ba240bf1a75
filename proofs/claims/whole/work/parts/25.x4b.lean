set_option maxHeartbeats 4000000 in
/-- Shares.canEnd(i, q, b) -/
theorem met_X4_canEnd {l : Launch} {D : va_G} {τ : Nat → ClassId} {a : Nat → Nat} (ha : Apart (LX τ) a) {V : Mem} (i q b E : Nat) (t : Nat) (ht : V 27 6 = (t : Int)) (ht40 : t ≤ 40) (hi : i < 11) (hb : b < 1000) (hq0 : q < 1000) (hE : q ≤ t → V (33 + i) q = (E : Int)) (hE2 : E < 2199023255552) : CI l D (tysL τ) (LX τ) a yX4_canEnd mX4_canEnd [.ref (a 27), .int (iN (i : Int)), .int (iN (q : Int)), .int (iN (b : Int))] V (fun z V' => ((z = 1 ∧ (q ≤ t ∧ b ≤ t ∧ E.testBit b = true)) ∨ (z = 0 ∧ ¬ (q ≤ t ∧ b ≤ t ∧ E.testBit b = true))) ∧ V' = V) := by
  refine CI.of (by decide +kernel) rfl (Nat.le_of_ble_eq_true rfl) ha (fun x hq => ?_)
  show G l D (tysL τ) (LX τ) a mX4_canEnd x 0 [(0, .ref (a 27)), (1, .int (iN (i : Int))), (2, .int (iN (q : Int))), (3, .int (iN (b : Int)))] [] V
  have hlt : E / 2 ^ b ≤ E := Nat.div_le_self _ _
  refine g_iload_n 2 dX4_canEnd_0 rfl rfl ?_
  refine g_aload_n 0 dX4_canEnd_1 rfl rfl ?_
  refine g_getf 27 (.int (iN (V 27 6))) fX4_33 ox_27 dX4_canEnd_2 rfl ?_
  refine g_top (show V 27 6 = (t : Int) from ht) ?_
  refine g_icmp_gt 37 dX4_canEnd_5 (by decide) (fun c_1 => ?_) (fun c_1 => ?_)
  · refine g_iconst dX4_canEnd_37 ?_
    exact g_iret hq rfl rfl dX4_canEnd_38 (⟨Or.inr ⟨rfl, by rw [Nat.testBit_eq_decide_div_mod_eq, decide_eq_true_eq]; omega⟩, rfl⟩)
  · refine g_iload_n 3 dX4_canEnd_8 rfl rfl ?_
    refine g_aload_n 0 dX4_canEnd_9 rfl rfl ?_
    refine g_getf 27 (.int (iN (V 27 6))) fX4_33 ox_27 dX4_canEnd_10 rfl ?_
    refine g_top (show V 27 6 = (t : Int) from ht) ?_
    refine g_icmp_gt 37 dX4_canEnd_13 (by decide) (fun c_2 => ?_) (fun c_2 => ?_)
    · refine g_iconst dX4_canEnd_37 ?_
      exact g_iret hq rfl rfl dX4_canEnd_38 (⟨Or.inr ⟨rfl, by rw [Nat.testBit_eq_decide_div_mod_eq, decide_eq_true_eq]; omega⟩, rfl⟩)
    · refine g_aload_n 0 dX4_canEnd_16 rfl rfl ?_
      refine g_getf 27 (.ref (a 32)) fX4_26 ox_27 dX4_canEnd_17 rfl ?_
      refine g_iload_n 1 dX4_canEnd_20 rfl rfl ?_
      refine g_aald 32 i ax_32 dX4_canEnd_21 rfl (by omega) ?_
      refine g_iload_n 2 dX4_canEnd_22 rfl rfl ?_
      refine g_lald (33 + i) q (ax_E (i := i) (by omega)) dX4_canEnd_23 rfl (by omega) ?_
      refine g_topl (show V (33 + i) q = (E : Int) from hE (by omega)) ?_
      refine g_iload_n 3 dX4_canEnd_24 rfl rfl ?_
      refine g_lushr ((E / 2 ^ b : Nat) : Int) dX4_canEnd_25 (jN_shr (by omega) (by omega)) ?_
      refine g_lconst 1 dX4_canEnd_26 rfl ?_
      refine g_land (((E / 2 ^ b) % 2 : Nat) : Int) dX4_canEnd_27 (jN_and1 _) ?_
      refine g_lconst 1 dX4_canEnd_28 rfl ?_
      refine g_lcmp (cmpz (((E / 2 ^ b) % 2 : Nat) : Int) 1) dX4_canEnd_29 (cmpz_j (by omega) (by omega)) ?_
      have hcmp_3 := cmpz_c (((E / 2 ^ b) % 2 : Nat) : Int) 1
      refine g_if_ne 37 dX4_canEnd_30 (by decide) (fun c_4 => ?_) (fun c_4 => ?_)
      · refine g_iconst dX4_canEnd_37 ?_
        exact g_iret hq rfl rfl dX4_canEnd_38 (⟨Or.inr ⟨rfl, by rw [Nat.testBit_eq_decide_div_mod_eq, decide_eq_true_eq]; omega⟩, rfl⟩)
      · refine g_iconst dX4_canEnd_33 ?_
        refine g_goto 38 dX4_canEnd_34 (by decide) ?_
        exact g_iret hq rfl rfl dX4_canEnd_38 (⟨Or.inl ⟨rfl, by rw [Nat.testBit_eq_decide_div_mod_eq, decide_eq_true_eq]; omega⟩, rfl⟩)

set_option maxHeartbeats 4000000 in
/-- Shares.loadsBefore(i, q) -/
theorem met_X4_loadsBefore {l : Launch} {D : va_G} {τ : Nat → ClassId} {a : Nat → Nat} (ha : Apart (LX τ) a) {V : Mem} (i q A : Nat) (E : Nat → Nat) (t : Nat) (ht : V 27 6 = (t : Int)) (ht40 : t ≤ 40) (hi10 : i < 10) (hq0 : q ≤ t) (hA : V 30 i = (A : Int)) (hA40 : A ≤ 40) (hh : 0 ≤ V 31 i ∧ V 31 i ≤ 7) (hE : ∀ c, c ≤ t → V (33 + (i + 1)) c = (E c : Int) ∧ E c < 2199023255552) : CL l D (tysL τ) (LX τ) a yX4_loadsBefore mX4_loadsBefore [.ref (a 27), .int (iN (i : Int)), .int (iN (q : Int))] V (fun z V' => z = ((((if (V 31 i).toNat / 2 ^ 0 % 2 = 1 ∧ q + A ≤ t then E (q + A) else 0) ||| (if (V 31 i).toNat / 2 ^ 1 % 2 = 1 then E q / 2 ^ A else 0)) ||| (if (V 31 i).toNat / 2 ^ 2 % 2 = 1 then E q else 0) : Nat) : Int) ∧ V' = V) := by
  refine CL.of (by decide +kernel) rfl (Nat.le_of_ble_eq_true rfl) ha (fun x hq => ?_)
  show G l D (tysL τ) (LX τ) a mX4_loadsBefore x 0 [(0, .ref (a 27)), (1, .int (iN (i : Int))), (2, .int (iN (q : Int)))] [] V
  have hEq := hE q hq0
  refine g_lconst 0 dX4_loadsBefore_0 rfl ?_
  refine g_lstore_n [(3, .long (jN 0)), (0, .ref (a 27)), (1, .int (iN (i : Int))), (2, .int (iN (q : Int)))] dX4_loadsBefore_1 rfl (by decide) rfl ?_
  refine g_lve (show ([(3, .long (jN 0)), (0, .ref (a 27)), (1, .int (iN (i : Int))), (2, .int (iN (q : Int)))] : List (Nat × Value)) = ([(3, .long (jN ((0 : Nat) : Int))), (0, .ref (a 27)), (1, .int (iN (i : Int))), (2, .int (iN (q : Int)))] : List (Nat × Value)) from by rw [show 0 = ((0 : Nat) : Int) from rfl]) ?_
  have jn_97 : ∀ (e3 : Nat), (e3 = ((if (V 31 i).toNat / 2 ^ 0 % 2 = 1 ∧ q + A ≤ t then E (q + A) else 0) ||| (if (V 31 i).toNat / 2 ^ 1 % 2 = 1 then E q / 2 ^ A else 0)) ||| (if (V 31 i).toNat / 2 ^ 2 % 2 = 1 then E q else 0)) → G l D (tysL τ) (LX τ) a mX4_loadsBefore x 97 [(0, .ref (a 27)), (1, .int (iN (i : Int))), (2, .int (iN (q : Int))), (3, .long (jN (e3 : Int)))] [] V := by
    intro e3 h3
    refine g_lload_n 3 dX4_loadsBefore_97 rfl rfl ?_
    exact g_lret hq rfl dX4_loadsBefore_98 (⟨by rw [h3], rfl⟩)
  have jn_75 : ∀ (e2 : Nat), (e2 = (if (V 31 i).toNat / 2 ^ 0 % 2 = 1 ∧ q + A ≤ t then E (q + A) else 0) ||| (if (V 31 i).toNat / 2 ^ 1 % 2 = 1 then E q / 2 ^ A else 0)) → G l D (tysL τ) (LX τ) a mX4_loadsBefore x 75 [(0, .ref (a 27)), (1, .int (iN (i : Int))), (2, .int (iN (q : Int))), (3, .long (jN (e2 : Int)))] [] V := by
    intro e2 h2
    refine g_aload_n 0 dX4_loadsBefore_75 rfl rfl ?_
    refine g_iload_n 1 dX4_loadsBefore_76 rfl rfl ?_
    refine g_iconst dX4_loadsBefore_77 ?_
    refine g_top (show 2 = ((2 : Nat) : Int) from rfl) ?_
    refine g_callI (k := 27) [.int (iN (i : Int)), .int (iN ((2 : Nat) : Int))] (met_X4_isHost ha i 2 hi10 (by omega) hh) vX4_65 ox_27 rfl rfl ⟨rfl, rfl, Nat.le_of_ble_eq_true rfl, Nat.le_of_ble_eq_true rfl⟩ rfl (Nat.le_of_ble_eq_true rfl) dX4_loadsBefore_78 rfl ?_
    rintro z9 V9 ⟨hp9, hV9⟩
    replace hV9 := hV9.symm
    subst hV9
    rcases hp9 with ⟨hz9, b_1⟩ | ⟨hz9, b_1⟩
    · subst hz9
      refine g_if_eq 97 dX4_loadsBefore_81 (by decide) (fun c_2 => absurd c_2 (by decide)) (fun _ => ?_)
      refine g_lload_n 3 dX4_loadsBefore_84 rfl rfl ?_
      refine g_aload_n 0 dX4_loadsBefore_85 rfl rfl ?_
      refine g_getf 27 (.ref (a 32)) fX4_26 ox_27 dX4_loadsBefore_86 rfl ?_
      refine g_iload_n 1 dX4_loadsBefore_89 rfl rfl ?_
      refine g_iconst dX4_loadsBefore_90 ?_
      refine g_iadd dX4_loadsBefore_91 ?_
      refine g_aald 32 (i + 1) ax_32 dX4_loadsBefore_92 (by omega) (by omega) ?_
      refine g_iload_n 2 dX4_loadsBefore_93 rfl rfl ?_
      refine g_lald (33 + (i + 1)) q (ax_E (i := i + 1) (by omega)) dX4_loadsBefore_94 rfl (by omega) ?_
      refine g_topl (show V (33 + (i + 1)) q = ((E q : Nat) : Int) from hEq.1) ?_
      refine g_lor ((e2 ||| (E q) : Nat) : Int) dX4_loadsBefore_95 (jN_or _ _) ?_
      refine g_lstore_n [(3, .long (jN ((e2 ||| (E q) : Nat) : Int))), (0, .ref (a 27)), (1, .int (iN (i : Int))), (2, .int (iN (q : Int)))] dX4_loadsBefore_96 rfl (by decide) rfl ?_
      refine g_lv [1, 2, 3, 0] rfl ?_
      exact jn_97 (e2 ||| (E q)) (by rw [if_pos (c := (V 31 i).toNat / 2 ^ 2 % 2 = 1) (by omega), h2])
    · subst hz9
      refine g_if_eq 97 dX4_loadsBefore_81 (by decide) (fun _ => ?_) (fun c_3 => absurd c_3 (by decide))
      exact jn_97 e2 (by rw [if_neg (c := (V 31 i).toNat / 2 ^ 2 % 2 = 1) (by omega), Nat.or_zero]; exact h2)
  have jn_46 : ∀ (e1 : Nat), (e1 = (if (V 31 i).toNat / 2 ^ 0 % 2 = 1 ∧ q + A ≤ t then E (q + A) else 0)) → G l D (tysL τ) (LX τ) a mX4_loadsBefore x 46 [(0, .ref (a 27)), (1, .int (iN (i : Int))), (2, .int (iN (q : Int))), (3, .long (jN (e1 : Int)))] [] V := by
    intro e1 h1
    refine g_aload_n 0 dX4_loadsBefore_46 rfl rfl ?_
    refine g_iload_n 1 dX4_loadsBefore_47 rfl rfl ?_
    refine g_iconst dX4_loadsBefore_48 ?_
    refine g_top (show 1 = ((1 : Nat) : Int) from rfl) ?_
    refine g_callI (k := 27) [.int (iN (i : Int)), .int (iN ((1 : Nat) : Int))] (met_X4_isHost ha i 1 hi10 (by omega) hh) vX4_65 ox_27 rfl rfl ⟨rfl, rfl, Nat.le_of_ble_eq_true rfl, Nat.le_of_ble_eq_true rfl⟩ rfl (Nat.le_of_ble_eq_true rfl) dX4_loadsBefore_49 rfl ?_
    rintro z9 V9 ⟨hp9, hV9⟩
    replace hV9 := hV9.symm
    subst hV9
    rcases hp9 with ⟨hz9, b_4⟩ | ⟨hz9, b_4⟩
    · subst hz9
      refine g_if_eq 75 dX4_loadsBefore_52 (by decide) (fun c_5 => absurd c_5 (by decide)) (fun _ => ?_)
      refine g_lload_n 3 dX4_loadsBefore_55 rfl rfl ?_
      refine g_aload_n 0 dX4_loadsBefore_56 rfl rfl ?_
      refine g_getf 27 (.ref (a 32)) fX4_26 ox_27 dX4_loadsBefore_57 rfl ?_
      refine g_iload_n 1 dX4_loadsBefore_60 rfl rfl ?_
      refine g_iconst dX4_loadsBefore_61 ?_
      refine g_iadd dX4_loadsBefore_62 ?_
      refine g_aald 32 (i + 1) ax_32 dX4_loadsBefore_63 (by omega) (by omega) ?_
      refine g_iload_n 2 dX4_loadsBefore_64 rfl rfl ?_
      refine g_lald (33 + (i + 1)) q (ax_E (i := i + 1) (by omega)) dX4_loadsBefore_65 rfl (by omega) ?_
      refine g_topl (show V (33 + (i + 1)) q = ((E q : Nat) : Int) from hEq.1) ?_
      refine g_aload_n 0 dX4_loadsBefore_66 rfl rfl ?_
      refine g_getf 27 (.ref (a 30)) fX4_18 ox_27 dX4_loadsBefore_67 rfl ?_
      refine g_iload_n 1 dX4_loadsBefore_70 rfl rfl ?_
      refine g_iald 30 i ax_30 dX4_loadsBefore_71 rfl (by omega) ?_
      refine g_top (show V 30 i = (A : Int) from hA) ?_
      refine g_lushr (((E q) / 2 ^ A : Nat) : Int) dX4_loadsBefore_72 (jN_shr (by omega) (by omega)) ?_
      refine g_lor ((e1 ||| ((E q) / 2 ^ A) : Nat) : Int) dX4_loadsBefore_73 (jN_or _ _) ?_
      refine g_lstore_n [(3, .long (jN ((e1 ||| ((E q) / 2 ^ A) : Nat) : Int))), (0, .ref (a 27)), (1, .int (iN (i : Int))), (2, .int (iN (q : Int)))] dX4_loadsBefore_74 rfl (by decide) rfl ?_
      refine g_lv [1, 2, 3, 0] rfl ?_
      exact jn_75 (e1 ||| ((E q) / 2 ^ A)) (by rw [if_pos (c := (V 31 i).toNat / 2 ^ 1 % 2 = 1) (by omega), h1])
    · subst hz9
      refine g_if_eq 75 dX4_loadsBefore_52 (by decide) (fun _ => ?_) (fun c_6 => absurd c_6 (by decide))
      exact jn_75 e1 (by rw [if_neg (c := (V 31 i).toNat / 2 ^ 1 % 2 = 1) (by omega), Nat.or_zero]; exact h1)
  refine g_aload_n 1 dX4_loadsBefore_2 rfl rfl ?_
  refine g_iload_n 2 dX4_loadsBefore_3 rfl rfl ?_
  refine g_iconst dX4_loadsBefore_4 ?_
  refine g_top (show 0 = ((0 : Nat) : Int) from rfl) ?_
  refine g_callI (k := 27) [.int (iN (i : Int)), .int (iN ((0 : Nat) : Int))] (met_X4_isHost ha i 0 hi10 (by omega) hh) vX4_65 ox_27 rfl rfl ⟨rfl, rfl, Nat.le_of_ble_eq_true rfl, Nat.le_of_ble_eq_true rfl⟩ rfl (Nat.le_of_ble_eq_true rfl) dX4_loadsBefore_5 rfl ?_
  rintro z9 V9 ⟨hp9, hV9⟩
  replace hV9 := hV9.symm
  subst hV9
  rcases hp9 with ⟨hz9, b_7⟩ | ⟨hz9, b_7⟩
  · subst hz9
    refine g_if_eq 46 dX4_loadsBefore_8 (by decide) (fun c_8 => absurd c_8 (by decide)) (fun _ => ?_)
    refine g_iload_n 3 dX4_loadsBefore_11 rfl rfl ?_
    refine g_aload_n 1 dX4_loadsBefore_12 rfl rfl ?_
    refine g_getf 27 (.ref (a 30)) fX4_18 ox_27 dX4_loadsBefore_13 rfl ?_
    refine g_iload_n 2 dX4_loadsBefore_16 rfl rfl ?_
    refine g_iald 30 i ax_30 dX4_loadsBefore_17 rfl (by omega) ?_
    refine g_top (show V 30 i = (A : Int) from hA) ?_
    refine g_iadd dX4_loadsBefore_18 ?_
    refine g_aload_n 1 dX4_loadsBefore_19 rfl rfl ?_
    refine g_getf 27 (.int (iN (V 27 6))) fX4_33 ox_27 dX4_loadsBefore_20 rfl ?_
    refine g_top (show V 27 6 = (t : Int) from ht) ?_
    refine g_icmp_gt 46 dX4_loadsBefore_23 (by decide) (fun c_9 => ?_) (fun c_9 => ?_)
    · refine g_lv [1, 2, 3, 0] rfl ?_
      exact jn_46 0 (by rw [if_neg (by omega)])
    · refine g_lload_n 0 dX4_loadsBefore_26 rfl rfl ?_
      refine g_aload_n 1 dX4_loadsBefore_27 rfl rfl ?_
      refine g_getf 27 (.ref (a 32)) fX4_26 ox_27 dX4_loadsBefore_28 rfl ?_
      refine g_iload_n 2 dX4_loadsBefore_31 rfl rfl ?_
      refine g_iconst dX4_loadsBefore_32 ?_
      refine g_iadd dX4_loadsBefore_33 ?_
      refine g_aald 32 (i + 1) ax_32 dX4_loadsBefore_34 (by omega) (by omega) ?_
      refine g_iload_n 3 dX4_loadsBefore_35 rfl rfl ?_
      refine g_aload_n 1 dX4_loadsBefore_36 rfl rfl ?_
      refine g_getf 27 (.ref (a 30)) fX4_18 ox_27 dX4_loadsBefore_37 rfl ?_
      refine g_iload_n 2 dX4_loadsBefore_40 rfl rfl ?_
      refine g_iald 30 i ax_30 dX4_loadsBefore_41 rfl (by omega) ?_
      refine g_top (show V 30 i = (A : Int) from hA) ?_
      refine g_iadd dX4_loadsBefore_42 ?_
      refine g_lald (33 + (i + 1)) (q + A) (ax_E (i := i + 1) (by omega)) dX4_loadsBefore_43 (by omega) (by omega) ?_
      refine g_topl (show V (33 + (i + 1)) (q + A) = ((E (q + A) : Nat) : Int) from (hE (q + A) (by omega)).1) ?_
      refine g_lor ((0 ||| (E (q + A)) : Nat) : Int) dX4_loadsBefore_44 (jN_or _ _) ?_
      refine g_lstore_n [(3, .long (jN ((0 ||| (E (q + A)) : Nat) : Int))), (0, .ref (a 27)), (1, .int (iN (i : Int))), (2, .int (iN (q : Int)))] dX4_loadsBefore_45 rfl (by decide) rfl ?_
      refine g_lv [1, 2, 3, 0] rfl ?_
      exact jn_46 (0 ||| (E (q + A))) (by rw [if_pos (by omega), Nat.zero_or])
  · subst hz9
    refine g_if_eq 46 dX4_loadsBefore_8 (by decide) (fun _ => ?_) (fun c_10 => absurd c_10 (by decide))
    refine g_lv [1, 2, 3, 0] rfl ?_
    exact jn_46 0 (by rw [if_neg (by omega)])

set_option maxHeartbeats 4000000 in
/-- Shares.canKeepTo(lim) -/
theorem met_X4_canKeepTo {l : Launch} {D : va_G} {τ : Nat → ClassId} {a : Nat → Nat} (ha : Apart (LX τ) a) {V : Mem} (lim : Nat) (t : Nat) (ht : V 27 6 = (t : Int)) (ht40 : t ≤ 40) (n : Nat) (hn : V 27 5 = (n : Int)) (hn10 : n ≤ 10) (hlim : lim ≤ 40) (hamt : ∀ i, i < n → 0 ≤ V 30 i ∧ V 30 i ≤ 40) (hhost : ∀ i, i < n → 0 ≤ V 31 i ∧ V 31 i ≤ 7) : CI l D (tysL τ) (LX τ) a yX4_canKeepTo mX4_canKeepTo [.ref (a 27), .int (iN (lim : Int))] V (fun z V' => ((z = 1 ∧ iFin V lim t n n 0 0 = true) ∨ (z = 0 ∧ ¬ iFin V lim t n n 0 0 = true)) ∧ offE V' V ∧ ∀ j, j ≤ n → rowOk V' V lim t n j) := by
  refine CI.of (by decide +kernel) rfl (Nat.le_of_ble_eq_true rfl) ha (fun x hq => ?_)
  show G l D (tysL τ) (LX τ) a mX4_canKeepTo x 0 [(0, .ref (a 27)), (1, .int (iN (lim : Int)))] [] V
  refine g_iconst dX4_canKeepTo_0 ?_
  refine g_istore_n [(2, .int (iN 0)), (0, .ref (a 27)), (1, .int (iN (lim : Int)))] dX4_canKeepTo_1 rfl (by decide) rfl ?_
  have lp_2 : ∀ (fuel : Nat) (q : Nat) (U : Mem), (q ≤ t + 1) → (offE U V) → (∀ c, c < q → ∃ e : Nat, U (33 + n) c = (e : Int) ∧ e < 2199023255552 ∧ ∀ b, e.testBit b = iFin V lim t n (n - n) c b) → (t + 1 - q) < fuel → G l D (tysL τ) (LX τ) a mX4_canKeepTo x 2 [(0, .ref (a 27)), (1, .int (iN (lim : Int))), (2, .int (iN (q : Int)))] [] U := by
    intro fuel
    induction fuel with
    | zero => intro q U hq0 hoff hrow hfu; exact absurd hfu (Nat.not_lt_zero _)
    | succ fuel ih_2 =>
      intro q U hq0 hoff hrow hfu
      have u27 : U 27 = V 27 := hoff 27 (by omega)
      have u30 : U 30 = V 30 := hoff 30 (by omega)
      have u31 : U 31 = V 31 := hoff 31 (by omega)
      have ut : U 27 6 = (t : Int) := by rw [u27]; exact ht
      have un : U 27 5 = (n : Int) := by rw [u27]; exact hn
      refine g_iload_n 2 dX4_canKeepTo_2 rfl rfl ?_
      refine g_aload_n 0 dX4_canKeepTo_3 rfl rfl ?_
      refine g_getf 27 (.int (iN (U 27 6))) fX4_33 ox_27 dX4_canKeepTo_4 rfl ?_
      refine g_top (show U 27 6 = (t : Int) from ut) ?_
      refine g_icmp_gt 33 dX4_canKeepTo_7 (by decide) (fun c_1 => ?_) (fun c_1 => ?_)
      · refine g_aload_n 0 dX4_canKeepTo_33 rfl rfl ?_
        refine g_getf 27 (.int (iN (U 27 5))) fX4_29 ox_27 dX4_canKeepTo_34 rfl ?_
        refine g_top (show U 27 5 = (n : Int) from un) ?_
        refine g_iconst dX4_canKeepTo_37 ?_
        refine g_isub dX4_canKeepTo_38 ?_
        refine g_istore_n [(2, .int (iN ((n : Int) - 1))), (0, .ref (a 27)), (1, .int (iN (lim : Int)))] dX4_canKeepTo_39 rfl (by decide) rfl ?_
        have lp_40 : ∀ (fuel : Nat) (k : Nat) (U : Mem), (k ≤ n) → (offE U V) → (∀ j, k ≤ j → j ≤ n → rowOk U V lim t n j) → (k) < fuel → G l D (tysL τ) (LX τ) a mX4_canKeepTo x 40 [(0, .ref (a 27)), (1, .int (iN (lim : Int))), (2, .int (iN ((k : Int) - 1)))] [] U := by
          intro fuel
          induction fuel with
          | zero => intro k U hk hoff hrows hfu; exact absurd hfu (Nat.not_lt_zero _)
          | succ fuel ih_40 =>
            intro k U hk hoff hrows hfu
            have u27 : U 27 = V 27 := hoff 27 (by omega)
            have u30 : U 30 = V 30 := hoff 30 (by omega)
            have u31 : U 31 = V 31 := hoff 31 (by omega)
            have ut : U 27 6 = (t : Int) := by rw [u27]; exact ht
            have un : U 27 5 = (n : Int) := by rw [u27]; exact hn
            refine g_iload_n 2 dX4_canKeepTo_40 rfl rfl ?_
            refine g_if_lt 80 dX4_canKeepTo_41 (by decide) (fun c_2 => ?_) (fun c_2 => ?_)
            · obtain ⟨e0, he0, hel0, hb0⟩ := hrows 0 (by omega) (Nat.zero_le _) 0 (Nat.zero_le _)
              have hb0 := hb0 0
              rw [Nat.testBit_zero, Nat.sub_zero] at hb0
              refine g_aload_n 0 dX4_canKeepTo_80 rfl rfl ?_
              refine g_getf 27 (.ref (a 32)) fX4_26 ox_27 dX4_canKeepTo_81 rfl ?_
              refine g_iconst dX4_canKeepTo_84 ?_
              refine g_aald 32 0 ax_32 dX4_canKeepTo_85 rfl (by decide) ?_
              refine g_iconst dX4_canKeepTo_86 ?_
              refine g_lald (33 + 0) 0 (ax_E (i := 0) (by omega)) dX4_canKeepTo_87 rfl (by decide) ?_
              refine g_topl (show U (33 + 0) 0 = (e0 : Int) from he0) ?_
              refine g_lconst 1 dX4_canKeepTo_88 rfl ?_
              refine g_land ((e0 % 2 : Nat) : Int) dX4_canKeepTo_89 (jN_and1 _) ?_
              refine g_lconst 1 dX4_canKeepTo_90 rfl ?_
              refine g_lcmp (cmpz ((e0 % 2 : Nat) : Int) 1) dX4_canKeepTo_91 (cmpz_j (by omega) (by omega)) ?_
              have hcmp_3 := cmpz_c ((e0 % 2 : Nat) : Int) 1
              refine g_if_ne 99 dX4_canKeepTo_92 (by decide) (fun c_4 => ?_) (fun c_4 => ?_)
              · refine g_iconst dX4_canKeepTo_99 ?_
                exact g_iret hq rfl rfl dX4_canKeepTo_100 (⟨Or.inr ⟨rfl, by rw [← hb0]; exact fun h => absurd (of_decide_eq_true h) (by omega)⟩, hoff, fun j hj => hrows j (by omega) hj⟩)
              · refine g_iconst dX4_canKeepTo_95 ?_
                refine g_goto 100 dX4_canKeepTo_96 (by decide) ?_
                exact g_iret hq rfl rfl dX4_canKeepTo_100 (⟨Or.inl ⟨rfl, by rw [← hb0]; exact decide_eq_true (by omega)⟩, hoff, fun j hj => hrows j (by omega) hj⟩)
            · obtain ⟨k, rfl⟩ : ∃ q, k = q + 1 := ⟨k - 1, by omega⟩
              refine g_lve (show ([(0, .ref (a 27)), (1, .int (iN (lim : Int))), (2, .int (iN (((k + 1 : Nat) : Int) - 1)))] : List (Nat × Value)) = ([(0, .ref (a 27)), (1, .int (iN (lim : Int))), (2, .int (iN (k : Int)))] : List (Nat × Value)) from by rw [show ((k + 1 : Nat) : Int) - 1 = (k : Int) from by omega]) ?_
              obtain ⟨E, hEd⟩ : ∃ E : Nat → Nat, ∀ c, c ≤ t → U (33 + (k + 1)) c = (E c : Int) ∧ E c < 2199023255552 ∧ ∀ b, (E c).testBit b = iFin V lim t n (n - (k + 1)) c b := ⟨fun c => if h : c ≤ t then Classical.choose (hrows (k + 1) (Nat.le_refl _) hk c h) else 0, fun c hc => by simp only [dif_pos hc]; exact Classical.choose_spec (hrows (k + 1) (Nat.le_refl _) hk c hc)⟩
              refine g_iconst dX4_canKeepTo_44 ?_
              refine g_istore_n [(3, .int (iN 0)), (0, .ref (a 27)), (1, .int (iN (lim : Int))), (2, .int (iN (k : Int)))] dX4_canKeepTo_45 rfl (by decide) rfl ?_
              have lp_46 : ∀ (fuel : Nat) (q : Nat) (W : Mem), (q ≤ t + 1) → (offE W V) → (∀ j, k + 1 ≤ j → j ≤ n → W (33 + j) = U (33 + j)) → (∀ c, c < q → ∃ e : Nat, W (33 + k) c = (e : Int) ∧ e < 2199023255552 ∧ ∀ b, e.testBit b = iFin V lim t n (n - k) c b) → (t + 1 - q) < fuel → G l D (tysL τ) (LX τ) a mX4_canKeepTo x 46 [(0, .ref (a 27)), (1, .int (iN (lim : Int))), (2, .int (iN (k : Int))), (3, .int (iN (q : Int)))] [] W := by
                intro fuel
                induction fuel with
                | zero => intro q W hq3 hoff3 hrows3 hrow3 hfu; exact absurd hfu (Nat.not_lt_zero _)
                | succ fuel ih_46 =>
                  intro q W hq3 hoff3 hrows3 hrow3 hfu
                  have w27 : W 27 = V 27 := hoff3 27 (by omega)
                  have w30 : W 30 = V 30 := hoff3 30 (by omega)
                  have w31 : W 31 = V 31 := hoff3 31 (by omega)
                  have wt : W 27 6 = (t : Int) := by rw [w27]; exact ht
                  have wn : W 27 5 = (n : Int) := by rw [w27]; exact hn
                  refine g_iload_n 3 dX4_canKeepTo_46 rfl rfl ?_
                  refine g_aload_n 0 dX4_canKeepTo_47 rfl rfl ?_
                  refine g_getf 27 (.int (iN (W 27 6))) fX4_33 ox_27 dX4_canKeepTo_48 rfl ?_
                  refine g_top (show W 27 6 = (t : Int) from wt) ?_
                  refine g_icmp_gt 74 dX4_canKeepTo_51 (by decide) (fun c_5 => ?_) (fun c_5 => ?_)
                  · refine g_iinc 2 [(2, .int (iN ((k : Int) + (-1)))), (0, .ref (a 27)), (1, .int (iN (lim : Int))), (3, .int (iN (q : Int)))] dX4_canKeepTo_74 rfl (by decide) rfl ?_
                    refine g_lve (show ([(2, .int (iN ((k : Int) + (-1)))), (0, .ref (a 27)), (1, .int (iN (lim : Int))), (3, .int (iN (q : Int)))] : List (Nat × Value)) = ([(2, .int (iN ((k : Int) - 1))), (0, .ref (a 27)), (1, .int (iN (lim : Int))), (3, .int (iN (q : Int)))] : List (Nat × Value)) from by rw [show (k : Int) + (-1) = (k : Int) - 1 from by omega]) ?_
                    refine g_goto 40 dX4_canKeepTo_77 (by decide) ?_
                    refine g_lv [1, 2, 0] rfl ?_
                    exact ih_40 k W (by omega) hoff3 (fun j h1 h2 => by by_cases e : j = k; (· rw [e]; exact fun c hc => hrow3 c (by omega)); (· unfold rowOk; rw [hrows3 j (by omega) h2]; exact hrows j (by omega) h2)) (by omega)
                  · refine g_aload_n 0 dX4_canKeepTo_54 rfl rfl ?_
                    refine g_getf 27 (.ref (a 32)) fX4_26 ox_27 dX4_canKeepTo_55 rfl ?_
                    refine g_iload_n 2 dX4_canKeepTo_58 rfl rfl ?_
                    refine g_aald 32 k ax_32 dX4_canKeepTo_59 rfl (by omega) ?_
                    refine g_iload_n 3 dX4_canKeepTo_60 rfl rfl ?_
                    refine g_aload_n 0 dX4_canKeepTo_61 rfl rfl ?_
                    refine g_iload_n 2 dX4_canKeepTo_62 rfl rfl ?_
                    refine g_iload_n 3 dX4_canKeepTo_63 rfl rfl ?_
                    refine g_callL (k := 27) [.int (iN (k : Int)), .int (iN (q : Int))] (met_X4_loadsBefore (V := W) ha k q (iCt V k) E t wt ht40 (by omega) (by omega) (by rw [w30]; have := hamt k (by omega); unfold iCt; omega) (by have := hamt k (by omega); unfold iCt; omega) (by rw [w31]; exact hhost k (by omega)) (fun c hc => ⟨by rw [hrows3 (k + 1) (Nat.le_refl _) hk]; exact (hEd c hc).1, (hEd c hc).2.1⟩)) vX4_53 ox_27 rfl rfl ⟨rfl, rfl, Nat.le_of_ble_eq_true rfl, Nat.le_of_ble_eq_true rfl⟩ rfl (Nat.le_of_ble_eq_true rfl) dX4_canKeepTo_64 rfl ?_
                    rintro z9 V9 ⟨hz9, hV9⟩
                    replace hV9 := hV9.symm
                    subst hV9
                    rw [w31] at hz9
                    obtain ⟨e9, he9⟩ : ∃ e9 : Nat, e9 = (((if (V 31 k).toNat / 2 ^ 0 % 2 = 1 ∧ q + (iCt V k) ≤ t then E (q + (iCt V k)) else 0) ||| (if (V 31 k).toNat / 2 ^ 1 % 2 = 1 then E q / 2 ^ (iCt V k) else 0)) ||| (if (V 31 k).toNat / 2 ^ 2 % 2 = 1 then E q else 0)) := ⟨_, rfl⟩
                    rw [← he9] at hz9
                    subst hz9
                    have heb9 : ∀ b, e9.testBit b = iFin V lim t n (n - k) q b := fun b => by rw [he9]; exact iFin_or (by omega) rfl (fun c hc => (hEd c hc).2.2) (by omega) b
                    have hEq := (hEd q (by omega)).2.1
                    have hel9 : e9 < 2199023255552 := by
                      rw [he9]
                      refine or3_lt ?_ ?_ ?_
                      · split
                        · rename_i h; exact (hEd _ h.2).2.1
                        · decide
                      · split
                        · exact Nat.lt_of_le_of_lt (Nat.div_le_self _ _) hEq
                        · decide
                      · split
                        · exact hEq
                        · decide
                    refine g_last (33 + k) q (ax_E (i := k) (by omega)) dX4_canKeepTo_67 rfl (by omega) ?_
                    obtain ⟨V_6, eV_6⟩ : ∃ V9 : Mem, V9 = up W (33 + k) q (e9 : Int) := ⟨_, rfl⟩
                    refine g_mem eV_6.symm ?_
                    refine g_iinc 3 [(3, .int (iN ((q : Int) + 1))), (0, .ref (a 27)), (1, .int (iN (lim : Int))), (2, .int (iN (k : Int)))] dX4_canKeepTo_68 rfl (by decide) rfl ?_
                    refine g_goto 46 dX4_canKeepTo_71 (by decide) ?_
                    refine g_lv [1, 2, 3, 0] rfl ?_
                    exact ih_46 (q + 1) V_6 (by omega) (by rw [eV_6]; exact offE_up hoff3 (by omega)) (fun j h1 h2 => by rw [eV_6, up_ne1 (by omega)]; exact hrows3 j h1 h2) (by rw [eV_6]; exact row_up (F := fun c b => iFin V lim t n (n - k) c b) hrow3 hel9 heb9) (by omega)
              refine g_lv [1, 2, 3, 0] rfl ?_
              exact lp_46 _ 0 U (Nat.zero_le _) hoff (fun _ _ _ => rfl) (fun c h => absurd h (Nat.not_lt_zero _)) (Nat.lt_succ_self _)
        refine g_lv [1, 2, 0] rfl ?_
        exact lp_40 _ n U (Nat.le_refl _) hoff (fun j h1 h2 => by rw [show j = n by omega]; exact fun c hc => hrow c (by omega)) (Nat.lt_succ_self _)
      · refine g_aload_n 0 dX4_canKeepTo_10 rfl rfl ?_
        refine g_getf 27 (.ref (a 32)) fX4_26 ox_27 dX4_canKeepTo_11 rfl ?_
        refine g_aload_n 0 dX4_canKeepTo_14 rfl rfl ?_
        refine g_getf 27 (.int (iN (U 27 5))) fX4_29 ox_27 dX4_canKeepTo_15 rfl ?_
        refine g_top (show U 27 5 = (n : Int) from un) ?_
        refine g_aald 32 n ax_32 dX4_canKeepTo_18 rfl (by omega) ?_
        refine g_iload_n 2 dX4_canKeepTo_19 rfl rfl ?_
        refine g_aload_n 0 dX4_canKeepTo_20 rfl rfl ?_
        refine g_iload_n 2 dX4_canKeepTo_21 rfl rfl ?_
        refine g_iload_n 1 dX4_canKeepTo_22 rfl rfl ?_
        refine g_callL (k := 27) [.int (iN (q : Int)), .int (iN (lim : Int))] (met_X4_lastLoads (V := U) ha q lim t ut ht40 (by omega) hlim) vX4_49 ox_27 rfl rfl ⟨rfl, rfl, Nat.le_of_ble_eq_true rfl, Nat.le_of_ble_eq_true rfl⟩ rfl (Nat.le_of_ble_eq_true rfl) dX4_canKeepTo_23 rfl ?_
        rintro z9 V9 ⟨⟨e9, hz9, hel9, heb9⟩, hV9⟩
        replace hV9 := hV9.symm
        subst hV9
        subst hz9
        refine g_last (33 + n) q (ax_E (i := n) (by omega)) dX4_canKeepTo_26 rfl (by omega) ?_
        obtain ⟨V_7, eV_7⟩ : ∃ V9 : Mem, V9 = up U (33 + n) q (e9 : Int) := ⟨_, rfl⟩
        refine g_mem eV_7.symm ?_
        refine g_iinc 2 [(2, .int (iN ((q : Int) + 1))), (0, .ref (a 27)), (1, .int (iN (lim : Int)))] dX4_canKeepTo_27 rfl (by decide) rfl ?_
        refine g_goto 2 dX4_canKeepTo_30 (by decide) ?_
        refine g_lv [1, 2, 0] rfl ?_
        exact ih_2 (q + 1) V_7 (by omega) (by rw [eV_7]; exact offE_up hoff (by omega)) (by rw [eV_7]; exact row_up (F := fun c b => iFin V lim t n (n - n) c b) hrow hel9 (fun b => by rw [heb9, Nat.sub_self, iFin_0])) (by omega)
  refine g_lv [1, 2, 0] rfl ?_
  exact lp_2 _ 0 V (Nat.zero_le _) (fun _ _ => rfl) (fun c h => absurd h (Nat.not_lt_zero _)) (Nat.lt_succ_self _)
