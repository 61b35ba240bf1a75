set_option maxHeartbeats 4000000 in
/-- mayGo(k, m) -/
theorem met_X7_mayGo {l : Launch} {D : va_G} {τ : Nat → ClassId} {a : Nat → Nat} (ha : Apart (LM τ) a) {V : Mem} (k m : Nat) (hok : okR V) (hk : k < 10) (hm : m < 3) : CI l D (tysL τ) (LM τ) a yX7_mayGo mX7_mayGo [.ref (a 0), .int (iN (k : Int)), .int (iN (m : Int))] V (fun z V' => ((z = 1 ∧ (V 11 m).toNat / 2 ^ (V 2 k).toNat % 2 = 1) ∨ (z = 0 ∧ ¬ (V 11 m).toNat / 2 ^ (V 2 k).toNat % 2 = 1)) ∧ V' = V) := by
  refine CI.of (by decide +kernel) rfl (Nat.le_of_ble_eq_true rfl) ha (fun x hq => ?_)
  show G l D (tysL τ) (LM τ) a mX7_mayGo x 0 [(0, .ref (a 0)), (1, .int (iN (k : Int))), (2, .int (iN (m : Int)))] [] V
  obtain ⟨r2, r3, r10, r15, r18, q1, q1k, q2, q3, q4, q5, q6, q7, q7k, q8, q9, q10, q11, q12, q14, qr, qf⟩ := id hok
  have q2k := q2 k hk
  have q11m := q11 m hm
  have hlt : (V 11 m).toNat / 2 ^ (V 2 k).toNat ≤ (V 11 m).toNat := Nat.div_le_self _ _
  refine g_aload_n 0 dX7_mayGo_0 rfl rfl ?_
  refine g_getf 0 (.ref (a 11)) fX7_41 om_0 dX7_mayGo_1 rfl ?_
  refine g_iload_n 2 dX7_mayGo_4 rfl rfl ?_
  refine g_iald 11 m am_11 dX7_mayGo_5 rfl (by omega) ?_
  refine g_top (show V 11 m = (((V 11 m).toNat : Nat) : Int) from by omega) ?_
  refine g_aload_n 0 dX7_mayGo_6 rfl rfl ?_
  refine g_getf 0 (.ref (a 2)) fX7_13 om_0 dX7_mayGo_7 rfl ?_
  refine g_iload_n 1 dX7_mayGo_10 rfl rfl ?_
  refine g_iald 2 k am_2 dX7_mayGo_11 rfl (by omega) ?_
  refine g_top (show V 2 k = (((V 2 k).toNat : Nat) : Int) from by omega) ?_
  refine g_ishr ((((V 11 m).toNat) / 2 ^ ((V 2 k).toNat) : Nat) : Int) dX7_mayGo_12 (iN_shr (by omega) (by omega)) ?_
  refine g_iconst dX7_mayGo_13 ?_
  refine g_iand (((((V 11 m).toNat) / 2 ^ ((V 2 k).toNat)) % 2 : Nat) : Int) dX7_mayGo_14 (iN_and1 _) ?_
  refine g_iconst dX7_mayGo_15 ?_
  refine g_icmp_ne 23 dX7_mayGo_16 (by decide) (fun c_1 => ?_) (fun c_1 => ?_)
  · refine g_iconst dX7_mayGo_23 ?_
    exact g_iret hq rfl rfl dX7_mayGo_24 (⟨Or.inr ⟨rfl, by omega⟩, rfl⟩)
  · refine g_iconst dX7_mayGo_19 ?_
    refine g_goto 24 dX7_mayGo_20 (by decide) ?_
    exact g_iret hq rfl rfl dX7_mayGo_24 (⟨Or.inl ⟨rfl, by omega⟩, rfl⟩)

set_option maxHeartbeats 4000000 in
/-- changesOf(m) -/
theorem met_X7_changesOf {l : Launch} {D : va_G} {τ : Nat → ClassId} {a : Nat → Nat} (ha : Apart (LM τ) a) {V : Mem} (m : Nat) (hok : okR V) (hm : m < 3) : CI l D (tysL τ) (LM τ) a yX7_changesOf mX7_changesOf [.ref (a 0), .int (iN (m : Int))] V (fun z V' => z = chg (fun i => V 2 (V 7 (V 15 (40 * m + i)).toNat).toNat) (V 14 m).toNat ∧ V' = V) := by
  refine CI.of (by decide +kernel) rfl (Nat.le_of_ble_eq_true rfl) ha (fun x hq => ?_)
  show G l D (tysL τ) (LM τ) a mX7_changesOf x 0 [(0, .ref (a 0)), (1, .int (iN (m : Int)))] [] V
  obtain ⟨r2, r3, r10, r15, r18, q1, q1k, q2, q3, q4, q5, q6, q7, q7k, q8, q9, q10, q11, q12, q14, qr, qf⟩ := id hok
  have q14m := q14 m hm
  have qrm := qr m hm
  refine g_iconst dX7_changesOf_0 ?_
  refine g_istore_n [(2, .int (iN 0)), (0, .ref (a 0)), (1, .int (iN (m : Int)))] dX7_changesOf_1 rfl (by decide) rfl ?_
  refine g_bipush dX7_changesOf_2 rfl ?_
  refine g_iload_n 2 dX7_changesOf_4 rfl rfl ?_
  refine g_imul dX7_changesOf_5 ?_
  refine g_iconst dX7_changesOf_6 ?_
  refine g_iadd dX7_changesOf_7 ?_
  refine g_istore_n [(3, .int (iN ((40 * (m : Int)) + 1))), (2, .int (iN 0)), (0, .ref (a 0)), (1, .int (iN (m : Int)))] dX7_changesOf_8 rfl (by decide) rfl ?_
  refine g_lve (show ([(3, .int (iN ((40 * (m : Int)) + 1))), (2, .int (iN 0)), (0, .ref (a 0)), (1, .int (iN (m : Int)))] : List (Nat × Value)) = ([(3, .int (iN ((40 * m + 1 : Nat) : Int))), (2, .int (iN 0)), (0, .ref (a 0)), (1, .int (iN (m : Int)))] : List (Nat × Value)) from by rw [show (40 * (m : Int)) + 1 = ((40 * m + 1 : Nat) : Int) from by omega]) ?_
  have lp_9 : ∀ (fuel : Nat) (i : Nat) (c : Int), ((i : Int) ≤ V 14 m ∨ (i = 1 ∧ V 14 m = 0)) → (1 ≤ i) → (c = chg (fun i => V 2 (V 7 (V 15 (40 * m + i)).toNat).toNat) i) → ((V 14 m).toNat - i) < fuel → G l D (tysL τ) (LM τ) a mX7_changesOf x 9 [(0, .ref (a 0)), (1, .int (iN (m : Int))), (2, .int (iN c)), (3, .int (iN ((40 * m + i : Nat) : Int)))] [] V := by
    intro fuel
    induction fuel with
    | zero => intro i c hi hi1 hcn hfu; exact absurd hfu (Nat.not_lt_zero _)
    | succ fuel ih_9 =>
      intro i c hi hi1 hcn hfu
      have h1 := qrm i
      have h2 := qrm (i - 1)
      have h3 := q7 (V 15 (40 * m + i)).toNat
      have h4 := q7 (V 15 (40 * m + (i - 1))).toNat
      have h5 := q2 (V 7 (V 15 (40 * m + i)).toNat).toNat
      have h6 := q2 (V 7 (V 15 (40 * m + (i - 1))).toNat).toNat
      refine g_iload_n 3 dX7_changesOf_9 rfl rfl ?_
      refine g_bipush dX7_changesOf_10 rfl ?_
      refine g_iload_n 1 dX7_changesOf_12 rfl rfl ?_
      refine g_imul dX7_changesOf_13 ?_
      refine g_aload_n 0 dX7_changesOf_14 rfl rfl ?_
      refine g_getf 0 (.ref (a 14)) fX7_50 om_0 dX7_changesOf_15 rfl ?_
      refine g_iload_n 1 dX7_changesOf_18 rfl rfl ?_
      refine g_iald 14 m am_14 dX7_changesOf_19 rfl (by omega) ?_
      refine g_iadd dX7_changesOf_20 ?_
      refine g_icmp_ge 75 dX7_changesOf_21 (by decide) (fun c_1 => ?_) (fun c_1 => ?_)
      · refine g_iload_n 2 dX7_changesOf_75 rfl rfl ?_
        exact g_iret hq rfl rfl dX7_changesOf_76 (⟨by rw [hcn]; rcases hi with h | ⟨h, h0⟩; (· rw [show i = (V 14 m).toNat by omega]); (· rw [h, h0]; rfl), rfl⟩)
      · refine g_iload_n 2 dX7_changesOf_24 rfl rfl ?_
        refine g_aload_n 0 dX7_changesOf_25 rfl rfl ?_
        refine g_getf 0 (.ref (a 2)) fX7_13 om_0 dX7_changesOf_26 rfl ?_
        refine g_aload_n 0 dX7_changesOf_29 rfl rfl ?_
        refine g_getf 0 (.ref (a 7)) fX7_29 om_0 dX7_changesOf_30 rfl ?_
        refine g_aload_n 0 dX7_changesOf_33 rfl rfl ?_
        refine g_getf 0 (.ref (a 15)) fX7_53 om_0 dX7_changesOf_34 rfl ?_
        refine g_iload_n 3 dX7_changesOf_37 rfl rfl ?_
        refine g_iald 15 (40 * m + i) am_15 dX7_changesOf_38 rfl (by omega) ?_
        refine g_top (show V 15 (40 * m + i) = (((V 15 (40 * m + i)).toNat : Nat) : Int) from by omega) ?_
        refine g_iald 7 ((V 15 (40 * m + i)).toNat) am_7 dX7_changesOf_39 rfl (by omega) ?_
        refine g_top (show V 7 ((V 15 (40 * m + i)).toNat) = (((V 7 ((V 15 (40 * m + i)).toNat)).toNat : Nat) : Int) from by omega) ?_
        refine g_iald 2 ((V 7 ((V 15 (40 * m + i)).toNat)).toNat) am_2 dX7_changesOf_40 rfl (by omega) ?_
        refine g_aload_n 0 dX7_changesOf_41 rfl rfl ?_
        refine g_getf 0 (.ref (a 2)) fX7_13 om_0 dX7_changesOf_42 rfl ?_
        refine g_aload_n 0 dX7_changesOf_45 rfl rfl ?_
        refine g_getf 0 (.ref (a 7)) fX7_29 om_0 dX7_changesOf_46 rfl ?_
        refine g_aload_n 0 dX7_changesOf_49 rfl rfl ?_
        refine g_getf 0 (.ref (a 15)) fX7_53 om_0 dX7_changesOf_50 rfl ?_
        refine g_iload_n 3 dX7_changesOf_53 rfl rfl ?_
        refine g_iconst dX7_changesOf_54 ?_
        refine g_isub dX7_changesOf_55 ?_
        refine g_iald 15 (40 * m + (i - 1)) am_15 dX7_changesOf_56 (by omega) (by omega) ?_
        refine g_top (show V 15 (40 * m + (i - 1)) = (((V 15 (40 * m + (i - 1))).toNat : Nat) : Int) from by omega) ?_
        refine g_iald 7 ((V 15 (40 * m + (i - 1))).toNat) am_7 dX7_changesOf_57 rfl (by omega) ?_
        refine g_top (show V 7 ((V 15 (40 * m + (i - 1))).toNat) = (((V 7 ((V 15 (40 * m + (i - 1))).toNat)).toNat : Nat) : Int) from by omega) ?_
        refine g_iald 2 ((V 7 ((V 15 (40 * m + (i - 1))).toNat)).toNat) am_2 dX7_changesOf_58 rfl (by omega) ?_
        refine g_icmp_eq 66 dX7_changesOf_59 (by decide) (fun c_2 => ?_) (fun c_2 => ?_)
        · refine g_iconst dX7_changesOf_66 ?_
          refine g_iadd dX7_changesOf_67 ?_
          refine g_istore_n [(2, .int (iN (c + 0))), (0, .ref (a 0)), (1, .int (iN (m : Int))), (3, .int (iN ((40 * m + i : Nat) : Int)))] dX7_changesOf_68 rfl (by decide) rfl ?_
          refine g_iinc 3 [(3, .int (iN (((40 * m + i : Nat) : Int) + 1))), (2, .int (iN (c + 0))), (0, .ref (a 0)), (1, .int (iN (m : Int)))] dX7_changesOf_69 rfl (by decide) rfl ?_
          refine g_goto 9 dX7_changesOf_72 (by decide) ?_
          refine g_lve (show ([(3, .int (iN (((40 * m + i : Nat) : Int) + 1))), (2, .int (iN (c + 0))), (0, .ref (a 0)), (1, .int (iN (m : Int)))] : List (Nat × Value)) = ([(3, .int (iN ((40 * m + (i + 1) : Nat) : Int))), (2, .int (iN (c + 0))), (0, .ref (a 0)), (1, .int (iN (m : Int)))] : List (Nat × Value)) from by rw [show ((40 * m + i : Nat) : Int) + 1 = ((40 * m + (i + 1) : Nat) : Int) from by omega]) ?_
          refine g_lv [2, 3, 1, 0] rfl ?_
          exact ih_9 (i + 1) (c + 0) (by omega) (by omega) (by rw [hcn]; simp only [chg]; rw [if_neg (fun z => z.2 (by omega))]) (by omega)
        · refine g_iconst dX7_changesOf_62 ?_
          refine g_goto 67 dX7_changesOf_63 (by decide) ?_
          refine g_iadd dX7_changesOf_67 ?_
          refine g_istore_n [(2, .int (iN (c + 1))), (0, .ref (a 0)), (1, .int (iN (m : Int))), (3, .int (iN ((40 * m + i : Nat) : Int)))] dX7_changesOf_68 rfl (by decide) rfl ?_
          refine g_iinc 3 [(3, .int (iN (((40 * m + i : Nat) : Int) + 1))), (2, .int (iN (c + 1))), (0, .ref (a 0)), (1, .int (iN (m : Int)))] dX7_changesOf_69 rfl (by decide) rfl ?_
          refine g_goto 9 dX7_changesOf_72 (by decide) ?_
          refine g_lve (show ([(3, .int (iN (((40 * m + i : Nat) : Int) + 1))), (2, .int (iN (c + 1))), (0, .ref (a 0)), (1, .int (iN (m : Int)))] : List (Nat × Value)) = ([(3, .int (iN ((40 * m + (i + 1) : Nat) : Int))), (2, .int (iN (c + 1))), (0, .ref (a 0)), (1, .int (iN (m : Int)))] : List (Nat × Value)) from by rw [show ((40 * m + i : Nat) : Int) + 1 = ((40 * m + (i + 1) : Nat) : Int) from by omega]) ?_
          refine g_lv [2, 3, 1, 0] rfl ?_
          exact ih_9 (i + 1) (c + 1) (by omega) (by omega) (by rw [hcn]; simp only [chg]; rw [if_pos ⟨by omega, by omega⟩]) (by omega)
  refine g_lv [2, 3, 1, 0] rfl ?_
  exact lp_9 _ 1 0 (by omega) (by omega) rfl (Nat.lt_succ_self _)

set_option maxHeartbeats 4000000 in
/-- changes(m) -/
theorem met_X7_changes {l : Launch} {D : va_G} {τ : Nat → ClassId} {a : Nat → Nat} (ha : Apart (LM τ) a) {V : Mem} (m : Nat) (hok : okR V) (hm : (m : Int) < V 0 15) : CI l D (tysL τ) (LM τ) a yX7_changes mX7_changes [.ref (a 0), .int (iN (m : Int))] V (fun z V' => z = chg (fun i => V 2 (V 7 (V 15 (40 * m + i)).toNat).toNat) (V 14 m).toNat ∧ V' = up V 0 0 0) := by
  refine CI.of (by decide +kernel) rfl (Nat.le_of_ble_eq_true rfl) ha (fun x hq => ?_)
  show G l D (tysL τ) (LM τ) a mX7_changes x 0 [(0, .ref (a 0)), (1, .int (iN (m : Int)))] [] V
  obtain ⟨r2, r3, r10, r15, r18, q1, q1k, q2, q3, q4, q5, q6, q7, q7k, q8, q9, q10, q11, q12, q14, qr, qf⟩ := id hok
  refine g_aload_n 0 dX7_changes_0 rfl rfl ?_
  refine g_aload_n 0 dX7_changes_1 rfl rfl ?_
  refine g_iload_n 1 dX7_changes_2 rfl rfl ?_
  refine g_callI (k := 0) [.int (iN (m : Int))] (met_X7_isMachine ha (m : Int) hok (by omega)) vX7_216 om_0 rfl rfl ⟨rfl, rfl, Nat.le_of_ble_eq_true rfl, Nat.le_of_ble_eq_true rfl⟩ rfl (Nat.le_of_ble_eq_true rfl) dX7_changes_3 rfl ?_
  rintro z9 V9 ⟨hp9, hV9⟩
  replace hV9 := hV9.symm
  subst hV9
  have hz9 : 1 = z9 := by omega
  subst hz9
  refine g_if_eq 13 dX7_changes_6 (by decide) (fun c_1 => absurd c_1 (by decide)) (fun _ => ?_)
  refine g_iconst dX7_changes_9 ?_
  refine g_goto 14 dX7_changes_10 (by decide) ?_
  refine g_putf 0 (v := 0) (.int (iN 0)) pX7_83 om_0 dX7_changes_14 rfl rfl (Nat.le_of_ble_eq_true rfl) rfl ?_
  obtain ⟨V_2, eV_2⟩ : ∃ V9 : Mem, V9 = up V 0 0 0 := ⟨_, rfl⟩
  refine g_mem eV_2.symm ?_
  have hok1 : okR V_2 := by rw [eV_2]; exact okR_thr _ hok
  have z14 : V_2 14 = V 14 := by rw [eV_2]; exact up_ne1 (by omega)
  have z15 : V_2 15 = V 15 := by rw [eV_2]; exact up_ne1 (by omega)
  have z2 : V_2 2 = V 2 := by rw [eV_2]; exact up_ne1 (by omega)
  have z7 : V_2 7 = V 7 := by rw [eV_2]; exact up_ne1 (by omega)
  have z11 : V_2 11 = V 11 := by rw [eV_2]; exact up_ne1 (by omega)
  have z12 : V_2 12 = V 12 := by rw [eV_2]; exact up_ne1 (by omega)
  have z13 : V_2 13 = V 13 := by rw [eV_2]; exact up_ne1 (by omega)
  have z1 : V_2 1 = V 1 := by rw [eV_2]; exact up_ne1 (by omega)
  have z3 : V_2 3 = V 3 := by rw [eV_2]; exact up_ne1 (by omega)
  have z018 : V_2 0 18 = V 0 18 := by rw [eV_2]; exact up_ne (by omega)
  have z03 : V_2 0 3 = V 0 3 := by rw [eV_2]; exact up_ne (by omega)
  refine g_aload_n 0 dX7_changes_17 rfl rfl ?_
  refine g_getf 0 (.int (iN (V_2 0 0))) fX7_83 om_0 dX7_changes_18 rfl ?_
  refine g_top (show _ = 0 from by rw [eV_2, up_eq]) ?_
  refine g_if_ne 32 dX7_changes_21 (by decide) (fun c_3 => absurd c_3 (by decide)) (fun _ => ?_)
  refine g_aload_n 0 dX7_changes_24 rfl rfl ?_
  refine g_iload_n 1 dX7_changes_25 rfl rfl ?_
  refine g_callI (k := 0) [.int (iN (m : Int))] (met_X7_changesOf (V := V_2) ha m hok1 (by omega)) vX7_180 om_0 rfl rfl ⟨rfl, rfl, Nat.le_of_ble_eq_true rfl, Nat.le_of_ble_eq_true rfl⟩ rfl (Nat.le_of_ble_eq_true rfl) dX7_changes_26 rfl ?_
  rintro z9 V9 ⟨hz9, hV9⟩
  replace hV9 := hV9.symm
  subst hV9
  rw [z14, z15, z2, z7] at hz9
  replace hz9 := hz9.symm
  subst hz9
  refine g_goto 33 dX7_changes_29 (by decide) ?_
  exact g_iret hq rfl rfl dX7_changes_33 (⟨rfl, by rw [eV_2]⟩)

set_option maxHeartbeats 4000000 in
theorem met_X7_changes_b1 {l : Launch} {D : va_G} {τ : Nat → ClassId} {a : Nat → Nat} (ha : Apart (LM τ) a) {V : Mem} (m : Int) (hok : okR V) (hm0 : -2147483648 ≤ m ∧ m ≤ 2147483647) (hb : ¬ (0 ≤ m ∧ m < V 0 15)) : CI l D (tysL τ) (LM τ) a yX7_changes mX7_changes [.ref (a 0), .int (iN m)] V (fun z V' => V' = up V 0 0 1) := by
  refine CI.of (by decide +kernel) rfl (Nat.le_of_ble_eq_true rfl) ha (fun x hq => ?_)
  show G l D (tysL τ) (LM τ) a mX7_changes x 0 [(0, .ref (a 0)), (1, .int (iN m))] [] V
  obtain ⟨r2, r3, r10, r15, r18, q1, q1k, q2, q3, q4, q5, q6, q7, q7k, q8, q9, q10, q11, q12, q14, qr, qf⟩ := id hok
  refine g_aload_n 0 dX7_changes_0 rfl rfl ?_
  refine g_aload_n 0 dX7_changes_1 rfl rfl ?_
  refine g_iload_n 1 dX7_changes_2 rfl rfl ?_
  refine g_callI (k := 0) [.int (iN m)] (met_X7_isMachine ha m hok (by omega)) vX7_216 om_0 rfl rfl ⟨rfl, rfl, Nat.le_of_ble_eq_true rfl, Nat.le_of_ble_eq_true rfl⟩ rfl (Nat.le_of_ble_eq_true rfl) dX7_changes_3 rfl ?_
  rintro z9 V9 ⟨hp9, hV9⟩
  replace hV9 := hV9.symm
  subst hV9
  rcases hp9 with ⟨hz9, b_1⟩ | ⟨hz9, b_1⟩
  · subst hz9
    refine g_if_eq 13 dX7_changes_6 (by decide) (fun c_2 => absurd c_2 (by decide)) (fun _ => ?_)
    omega
  · subst hz9
    refine g_if_eq 13 dX7_changes_6 (by decide) (fun _ => ?_) (fun c_3 => absurd c_3 (by decide))
    refine g_iconst dX7_changes_13 ?_
    refine g_putf 0 (v := 1) (.int (iN 1)) pX7_83 om_0 dX7_changes_14 rfl rfl (Nat.le_of_ble_eq_true rfl) rfl ?_
    obtain ⟨V_4, eV_4⟩ : ∃ V9 : Mem, V9 = up V 0 0 1 := ⟨_, rfl⟩
    refine g_mem eV_4.symm ?_
    refine g_aload_n 0 dX7_changes_17 rfl rfl ?_
    refine g_getf 0 (.int (iN (V_4 0 0))) fX7_83 om_0 dX7_changes_18 rfl ?_
    refine g_top (show _ = 1 from by rw [eV_4, up_eq]) ?_
    refine g_if_ne 32 dX7_changes_21 (by decide) (fun _ => ?_) (fun c_5 => absurd c_5 (by decide))
    refine g_iconst dX7_changes_32 ?_
    exact g_iret hq rfl rfl dX7_changes_33 (by rw [eV_4])

set_option maxHeartbeats 4000000 in
/-- trip(m, p) -/
theorem met_X7_trip {l : Launch} {D : va_G} {τ : Nat → ClassId} {a : Nat → Nat} (ha : Apart (LM τ) a) {V : Mem} (m : Nat) (p : Int) (hok : okR V) (hm : (m : Int) < V 0 15) (hp : 0 ≤ p ∧ p < V 0 10) : CI l D (tysL τ) (LM τ) a yX7_trip mX7_trip [.ref (a 0), .int (iN (m : Int)), .int (iN p)] V (fun z V' => z = (if plc (fun i => V 15 (40 * m + i)) p (V 14 m).toNat = -1 then -1 else plc (fun i => V 15 (40 * m + i)) p (V 14 m).toNat / V 12 m) ∧ V' = up V 0 0 0) := by
  refine CI.of (by decide +kernel) rfl (Nat.le_of_ble_eq_true rfl) ha (fun x hq => ?_)
  show G l D (tysL τ) (LM τ) a mX7_trip x 0 [(0, .ref (a 0)), (1, .int (iN (m : Int))), (2, .int (iN p))] [] V
  obtain ⟨r2, r3, r10, r15, r18, q1, q1k, q2, q3, q4, q5, q6, q7, q7k, q8, q9, q10, q11, q12, q14, qr, qf⟩ := id hok
  have hpi := plc_in (f := fun i => V 15 (40 * m + i)) (p := p) (V 14 m).toNat
  have q14m := q14 m (by omega)
  have q12m := q12 m hm
  refine g_aload_n 0 dX7_trip_0 rfl rfl ?_
  refine g_aload_n 0 dX7_trip_1 rfl rfl ?_
  refine g_iload_n 1 dX7_trip_2 rfl rfl ?_
  refine g_callI (k := 0) [.int (iN (m : Int))] (met_X7_isMachine ha (m : Int) hok (by omega)) vX7_216 om_0 rfl rfl ⟨rfl, rfl, Nat.le_of_ble_eq_true rfl, Nat.le_of_ble_eq_true rfl⟩ rfl (Nat.le_of_ble_eq_true rfl) dX7_trip_3 rfl ?_
  rintro z9 V9 ⟨hp9, hV9⟩
  replace hV9 := hV9.symm
  subst hV9
  have hz9 : 1 = z9 := by omega
  subst hz9
  refine g_if_eq 21 dX7_trip_6 (by decide) (fun c_1 => absurd c_1 (by decide)) (fun _ => ?_)
  refine g_aload_n 0 dX7_trip_9 rfl rfl ?_
  refine g_iload_n 2 dX7_trip_10 rfl rfl ?_
  refine g_callI (k := 0) [.int (iN p)] (met_X7_isPart ha p hok (by omega)) vX7_219 om_0 rfl rfl ⟨rfl, rfl, Nat.le_of_ble_eq_true rfl, Nat.le_of_ble_eq_true rfl⟩ rfl (Nat.le_of_ble_eq_true rfl) dX7_trip_11 rfl ?_
  rintro z9 V9 ⟨hp9, hV9⟩
  replace hV9 := hV9.symm
  subst hV9
  have hz9 : 1 = z9 := by omega
  subst hz9
  refine g_if_eq 21 dX7_trip_14 (by decide) (fun c_2 => absurd c_2 (by decide)) (fun _ => ?_)
  refine g_iconst dX7_trip_17 ?_
  refine g_goto 22 dX7_trip_18 (by decide) ?_
  refine g_putf 0 (v := 0) (.int (iN 0)) pX7_83 om_0 dX7_trip_22 rfl rfl (Nat.le_of_ble_eq_true rfl) rfl ?_
  obtain ⟨V_3, eV_3⟩ : ∃ V9 : Mem, V9 = up V 0 0 0 := ⟨_, rfl⟩
  refine g_mem eV_3.symm ?_
  have hok1 : okR V_3 := by rw [eV_3]; exact okR_thr _ hok
  have z14 : V_3 14 = V 14 := by rw [eV_3]; exact up_ne1 (by omega)
  have z15 : V_3 15 = V 15 := by rw [eV_3]; exact up_ne1 (by omega)
  have z2 : V_3 2 = V 2 := by rw [eV_3]; exact up_ne1 (by omega)
  have z7 : V_3 7 = V 7 := by rw [eV_3]; exact up_ne1 (by omega)
  have z11 : V_3 11 = V 11 := by rw [eV_3]; exact up_ne1 (by omega)
  have z12 : V_3 12 = V 12 := by rw [eV_3]; exact up_ne1 (by omega)
  have z13 : V_3 13 = V 13 := by rw [eV_3]; exact up_ne1 (by omega)
  have z1 : V_3 1 = V 1 := by rw [eV_3]; exact up_ne1 (by omega)
  have z3 : V_3 3 = V 3 := by rw [eV_3]; exact up_ne1 (by omega)
  have z018 : V_3 0 18 = V 0 18 := by rw [eV_3]; exact up_ne (by omega)
  have z03 : V_3 0 3 = V 0 3 := by rw [eV_3]; exact up_ne (by omega)
  refine g_aload_n 0 dX7_trip_25 rfl rfl ?_
  refine g_getf 0 (.int (iN (V_3 0 0))) fX7_83 om_0 dX7_trip_26 rfl ?_
  refine g_top (show _ = 0 from by rw [eV_3, up_eq]) ?_
  refine g_if_eq 34 dX7_trip_29 (by decide) (fun _ => ?_) (fun c_4 => absurd c_4 (by decide))
  refine g_aload_n 0 dX7_trip_34 rfl rfl ?_
  refine g_iload_n 1 dX7_trip_35 rfl rfl ?_
  refine g_iload_n 2 dX7_trip_36 rfl rfl ?_
  refine g_callI (k := 0) [.int (iN (m : Int)), .int (iN p)] (met_X7_placeOf (V := V_3) ha m p hok1 (by omega) (by omega)) vX7_222 om_0 rfl rfl ⟨rfl, rfl, Nat.le_of_ble_eq_true rfl, Nat.le_of_ble_eq_true rfl⟩ rfl (Nat.le_of_ble_eq_true rfl) dX7_trip_37 rfl ?_
  rintro z9 V9 ⟨hz9, hV9⟩
  replace hV9 := hV9.symm
  subst hV9
  rw [z14, z15] at hz9
  replace hz9 := hz9.symm
  subst hz9
  refine g_istore_n [(3, .int (iN (plc (fun i => V 15 (40 * m + i)) p (V 14 m).toNat))), (0, .ref (a 0)), (1, .int (iN (m : Int))), (2, .int (iN p))] dX7_trip_40 rfl (by decide) rfl ?_
  refine g_iload_n 0 dX7_trip_41 rfl rfl ?_
  refine g_iconst dX7_trip_42 ?_
  refine g_icmp_ne 50 dX7_trip_43 (by decide) (fun c_5 => ?_) (fun c_5 => ?_)
  · refine g_iload_n 0 dX7_trip_50 rfl rfl ?_
    refine g_aload_n 1 dX7_trip_51 rfl rfl ?_
    refine g_getf 0 (.ref (a 12)) fX7_44 om_0 dX7_trip_52 rfl ?_
    refine g_iload_n 2 dX7_trip_55 rfl rfl ?_
    refine g_iald 12 m am_12 dX7_trip_56 rfl (by omega) ?_
    refine g_top (show _ = V 12 m from by rw [eV_3, up_ne (by omega)]) ?_
    refine g_idiv dX7_trip_57 (by omega) (by omega) ?_
    exact g_iret hq rfl rfl dX7_trip_58 (⟨by rw [if_neg (by omega)], by rw [eV_3]⟩)
  · refine g_iconst dX7_trip_46 ?_
    refine g_goto 58 dX7_trip_47 (by decide) ?_
    exact g_iret hq rfl rfl dX7_trip_58 (⟨by rw [if_pos (by omega)], by rw [eV_3]⟩)

set_option maxHeartbeats 4000000 in
theorem met_X7_trip_b1 {l : Launch} {D : va_G} {τ : Nat → ClassId} {a : Nat → Nat} (ha : Apart (LM τ) a) {V : Mem} (m p : Int) (hok : okR V) (hm0 : -2147483648 ≤ m ∧ m ≤ 2147483647) (hp0 : -2147483648 ≤ p ∧ p ≤ 2147483647) (hb : ¬ (0 ≤ m ∧ m < V 0 15 ∧ 0 ≤ p ∧ p < V 0 10)) : CI l D (tysL τ) (LM τ) a yX7_trip mX7_trip [.ref (a 0), .int (iN m), .int (iN p)] V (fun z V' => V' = up V 0 0 1) := by
  refine CI.of (by decide +kernel) rfl (Nat.le_of_ble_eq_true rfl) ha (fun x hq => ?_)
  show G l D (tysL τ) (LM τ) a mX7_trip x 0 [(0, .ref (a 0)), (1, .int (iN m)), (2, .int (iN p))] [] V
  obtain ⟨r2, r3, r10, r15, r18, q1, q1k, q2, q3, q4, q5, q6, q7, q7k, q8, q9, q10, q11, q12, q14, qr, qf⟩ := id hok
  refine g_aload_n 0 dX7_trip_0 rfl rfl ?_
  refine g_aload_n 0 dX7_trip_1 rfl rfl ?_
  refine g_iload_n 1 dX7_trip_2 rfl rfl ?_
  refine g_callI (k := 0) [.int (iN m)] (met_X7_isMachine ha m hok (by omega)) vX7_216 om_0 rfl rfl ⟨rfl, rfl, Nat.le_of_ble_eq_true rfl, Nat.le_of_ble_eq_true rfl⟩ rfl (Nat.le_of_ble_eq_true rfl) dX7_trip_3 rfl ?_
  rintro z9 V9 ⟨hp9, hV9⟩
  replace hV9 := hV9.symm
  subst hV9
  rcases hp9 with ⟨hz9, b_1⟩ | ⟨hz9, b_1⟩
  · subst hz9
    refine g_if_eq 21 dX7_trip_6 (by decide) (fun c_2 => absurd c_2 (by decide)) (fun _ => ?_)
    refine g_aload_n 0 dX7_trip_9 rfl rfl ?_
    refine g_iload_n 2 dX7_trip_10 rfl rfl ?_
    refine g_callI (k := 0) [.int (iN p)] (met_X7_isPart ha p hok (by omega)) vX7_219 om_0 rfl rfl ⟨rfl, rfl, Nat.le_of_ble_eq_true rfl, Nat.le_of_ble_eq_true rfl⟩ rfl (Nat.le_of_ble_eq_true rfl) dX7_trip_11 rfl ?_
    rintro z9 V9 ⟨hp9, hV9⟩
    replace hV9 := hV9.symm
    subst hV9
    rcases hp9 with ⟨hz9, b_3⟩ | ⟨hz9, b_3⟩
    · subst hz9
      refine g_if_eq 21 dX7_trip_14 (by decide) (fun c_4 => absurd c_4 (by decide)) (fun _ => ?_)
      omega
    · subst hz9
      refine g_if_eq 21 dX7_trip_14 (by decide) (fun _ => ?_) (fun c_5 => absurd c_5 (by decide))
      refine g_iconst dX7_trip_21 ?_
      refine g_putf 0 (v := 1) (.int (iN 1)) pX7_83 om_0 dX7_trip_22 rfl rfl (Nat.le_of_ble_eq_true rfl) rfl ?_
      obtain ⟨V_6, eV_6⟩ : ∃ V9 : Mem, V9 = up V 0 0 1 := ⟨_, rfl⟩
      refine g_mem eV_6.symm ?_
      refine g_aload_n 0 dX7_trip_25 rfl rfl ?_
      refine g_getf 0 (.int (iN (V_6 0 0))) fX7_83 om_0 dX7_trip_26 rfl ?_
      refine g_top (show _ = 1 from by rw [eV_6, up_eq]) ?_
      refine g_if_eq 34 dX7_trip_29 (by decide) (fun c_7 => absurd c_7 (by decide)) (fun _ => ?_)
      refine g_iconst dX7_trip_32 ?_
      exact g_iret hq rfl rfl dX7_trip_33 (by rw [eV_6])
  · subst hz9
    refine g_if_eq 21 dX7_trip_6 (by decide) (fun _ => ?_) (fun c_8 => absurd c_8 (by decide))
    refine g_iconst dX7_trip_21 ?_
    refine g_putf 0 (v := 1) (.int (iN 1)) pX7_83 om_0 dX7_trip_22 rfl rfl (Nat.le_of_ble_eq_true rfl) rfl ?_
    obtain ⟨V_9, eV_9⟩ : ∃ V9 : Mem, V9 = up V 0 0 1 := ⟨_, rfl⟩
    refine g_mem eV_9.symm ?_
    refine g_aload_n 0 dX7_trip_25 rfl rfl ?_
    refine g_getf 0 (.int (iN (V_9 0 0))) fX7_83 om_0 dX7_trip_26 rfl ?_
    refine g_top (show _ = 1 from by rw [eV_9, up_eq]) ?_
    refine g_if_eq 34 dX7_trip_29 (by decide) (fun c_10 => absurd c_10 (by decide)) (fun _ => ?_)
    refine g_iconst dX7_trip_32 ?_
    exact g_iret hq rfl rfl dX7_trip_33 (by rw [eV_9])

set_option maxHeartbeats 4000000 in
/-- machineOf(p) -/
theorem met_X7_machineOf {l : Launch} {D : va_G} {τ : Nat → ClassId} {a : Nat → Nat} (ha : Apart (LM τ) a) {V : Mem} (p : Int) (us : Nat) (hok : okR V) (hus : V 0 18 = (us : Int)) (hp : 0 ≤ p ∧ p < V 0 10) : CI l D (tysL τ) (LM τ) a yX7_machineOf mX7_machineOf [.ref (a 0), .int (iN p)] V (fun z V' => z = hst (fun m => plc (fun i => V 15 (40 * m + i)) p (V 14 m).toNat) us ∧ V' = up V 0 0 0) := by
  refine CI.of (by decide +kernel) rfl (Nat.le_of_ble_eq_true rfl) ha (fun x hq => ?_)
  show G l D (tysL τ) (LM τ) a mX7_machineOf x 0 [(0, .ref (a 0)), (1, .int (iN p))] [] V
  obtain ⟨r2, r3, r10, r15, r18, q1, q1k, q2, q3, q4, q5, q6, q7, q7k, q8, q9, q10, q11, q12, q14, qr, qf⟩ := id hok
  refine g_aload_n 0 dX7_machineOf_0 rfl rfl ?_
  refine g_aload_n 0 dX7_machineOf_1 rfl rfl ?_
  refine g_iload_n 1 dX7_machineOf_2 rfl rfl ?_
  refine g_callI (k := 0) [.int (iN p)] (met_X7_isPart ha p hok (by omega)) vX7_219 om_0 rfl rfl ⟨rfl, rfl, Nat.le_of_ble_eq_true rfl, Nat.le_of_ble_eq_true rfl⟩ rfl (Nat.le_of_ble_eq_true rfl) dX7_machineOf_3 rfl ?_
  rintro z9 V9 ⟨hp9, hV9⟩
  replace hV9 := hV9.symm
  subst hV9
  have hz9 : 1 = z9 := by omega
  subst hz9
  refine g_if_eq 13 dX7_machineOf_6 (by decide) (fun c_1 => absurd c_1 (by decide)) (fun _ => ?_)
  refine g_iconst dX7_machineOf_9 ?_
  refine g_goto 14 dX7_machineOf_10 (by decide) ?_
  refine g_putf 0 (v := 0) (.int (iN 0)) pX7_83 om_0 dX7_machineOf_14 rfl rfl (Nat.le_of_ble_eq_true rfl) rfl ?_
  obtain ⟨V_2, eV_2⟩ : ∃ V9 : Mem, V9 = up V 0 0 0 := ⟨_, rfl⟩
  refine g_mem eV_2.symm ?_
  have hok1 : okR V_2 := by rw [eV_2]; exact okR_thr _ hok
  have z14 : V_2 14 = V 14 := by rw [eV_2]; exact up_ne1 (by omega)
  have z15 : V_2 15 = V 15 := by rw [eV_2]; exact up_ne1 (by omega)
  have z2 : V_2 2 = V 2 := by rw [eV_2]; exact up_ne1 (by omega)
  have z7 : V_2 7 = V 7 := by rw [eV_2]; exact up_ne1 (by omega)
  have z11 : V_2 11 = V 11 := by rw [eV_2]; exact up_ne1 (by omega)
  have z12 : V_2 12 = V 12 := by rw [eV_2]; exact up_ne1 (by omega)
  have z13 : V_2 13 = V 13 := by rw [eV_2]; exact up_ne1 (by omega)
  have z1 : V_2 1 = V 1 := by rw [eV_2]; exact up_ne1 (by omega)
  have z3 : V_2 3 = V 3 := by rw [eV_2]; exact up_ne1 (by omega)
  have z018 : V_2 0 18 = V 0 18 := by rw [eV_2]; exact up_ne (by omega)
  have z03 : V_2 0 3 = V 0 3 := by rw [eV_2]; exact up_ne (by omega)
  refine g_aload_n 0 dX7_machineOf_17 rfl rfl ?_
  refine g_getf 0 (.int (iN (V_2 0 0))) fX7_83 om_0 dX7_machineOf_18 rfl ?_
  refine g_top (show _ = 0 from by rw [eV_2, up_eq]) ?_
  refine g_if_ne 32 dX7_machineOf_21 (by decide) (fun c_3 => absurd c_3 (by decide)) (fun _ => ?_)
  refine g_aload_n 0 dX7_machineOf_24 rfl rfl ?_
  refine g_iload_n 1 dX7_machineOf_25 rfl rfl ?_
  refine g_callI (k := 0) [.int (iN p)] (met_X7_machineFor (V := V_2) ha p us hok1 (by omega) (by omega)) vX7_225 om_0 rfl rfl ⟨rfl, rfl, Nat.le_of_ble_eq_true rfl, Nat.le_of_ble_eq_true rfl⟩ rfl (Nat.le_of_ble_eq_true rfl) dX7_machineOf_26 rfl ?_
  rintro z9 V9 ⟨hz9, hV9⟩
  replace hV9 := hV9.symm
  subst hV9
  rw [z14, z15] at hz9
  replace hz9 := hz9.symm
  subst hz9
  refine g_goto 33 dX7_machineOf_29 (by decide) ?_
  exact g_iret hq rfl rfl dX7_machineOf_33 (⟨rfl, by rw [eV_2]⟩)

set_option maxHeartbeats 4000000 in
theorem met_X7_machineOf_b1 {l : Launch} {D : va_G} {τ : Nat → ClassId} {a : Nat → Nat} (ha : Apart (LM τ) a) {V : Mem} (p : Int) (hok : okR V) (hp0 : -2147483648 ≤ p ∧ p ≤ 2147483647) (hb : ¬ (0 ≤ p ∧ p < V 0 10)) : CI l D (tysL τ) (LM τ) a yX7_machineOf mX7_machineOf [.ref (a 0), .int (iN p)] V (fun z V' => V' = up V 0 0 1) := by
  refine CI.of (by decide +kernel) rfl (Nat.le_of_ble_eq_true rfl) ha (fun x hq => ?_)
  show G l D (tysL τ) (LM τ) a mX7_machineOf x 0 [(0, .ref (a 0)), (1, .int (iN p))] [] V
  obtain ⟨r2, r3, r10, r15, r18, q1, q1k, q2, q3, q4, q5, q6, q7, q7k, q8, q9, q10, q11, q12, q14, qr, qf⟩ := id hok
  refine g_aload_n 0 dX7_machineOf_0 rfl rfl ?_
  refine g_aload_n 0 dX7_machineOf_1 rfl rfl ?_
  refine g_iload_n 1 dX7_machineOf_2 rfl rfl ?_
  refine g_callI (k := 0) [.int (iN p)] (met_X7_isPart ha p hok (by omega)) vX7_219 om_0 rfl rfl ⟨rfl, rfl, Nat.le_of_ble_eq_true rfl, Nat.le_of_ble_eq_true rfl⟩ rfl (Nat.le_of_ble_eq_true rfl) dX7_machineOf_3 rfl ?_
  rintro z9 V9 ⟨hp9, hV9⟩
  replace hV9 := hV9.symm
  subst hV9
  rcases hp9 with ⟨hz9, b_1⟩ | ⟨hz9, b_1⟩
  · subst hz9
    refine g_if_eq 13 dX7_machineOf_6 (by decide) (fun c_2 => absurd c_2 (by decide)) (fun _ => ?_)
    omega
  · subst hz9
    refine g_if_eq 13 dX7_machineOf_6 (by decide) (fun _ => ?_) (fun c_3 => absurd c_3 (by decide))
    refine g_iconst dX7_machineOf_13 ?_
    refine g_putf 0 (v := 1) (.int (iN 1)) pX7_83 om_0 dX7_machineOf_14 rfl rfl (Nat.le_of_ble_eq_true rfl) rfl ?_
    obtain ⟨V_4, eV_4⟩ : ∃ V9 : Mem, V9 = up V 0 0 1 := ⟨_, rfl⟩
    refine g_mem eV_4.symm ?_
    refine g_aload_n 0 dX7_machineOf_17 rfl rfl ?_
    refine g_getf 0 (.int (iN (V_4 0 0))) fX7_83 om_0 dX7_machineOf_18 rfl ?_
    refine g_top (show _ = 1 from by rw [eV_4, up_eq]) ?_
    refine g_if_ne 32 dX7_machineOf_21 (by decide) (fun _ => ?_) (fun c_5 => absurd c_5 (by decide))
    refine g_iconst dX7_machineOf_32 ?_
    exact g_iret hq rfl rfl dX7_machineOf_33 (by rw [eV_4])

set_option maxHeartbeats 4000000 in
/-- lower(b1, b2) -/
theorem met_X7_lower {l : Launch} {D : va_G} {τ : Nat → ClassId} {a : Nat → Nat} (ha : Apart (LM τ) a) {V : Mem} (b1 b2 : Int) (us : Nat) (hok : okR V) (hus : V 0 18 = (us : Int)) (h1 : 0 ≤ b1 ∧ b1 < V 0 10) (h2 : 0 ≤ b2 ∧ b2 < V 0 10) : CI l D (tysL τ) (LM τ) a yX7_lower mX7_lower [.ref (a 0), .int (iN b1), .int (iN b2)] V (fun z V' => ((z = 1 ∧ (¬ hst (fun m => plc (fun i => V 15 (40 * m + i)) b1 (V 14 m).toNat) us = -1 ∧ ¬ hst (fun m => plc (fun i => V 15 (40 * m + i)) b2 (V 14 m).toNat) us = -1 ∧ ((hst (fun m => plc (fun i => V 15 (40 * m + i)) b1 (V 14 m).toNat) us ≠ hst (fun m => plc (fun i => V 15 (40 * m + i)) b2 (V 14 m).toNat) us ∧ hst (fun m => plc (fun i => V 15 (40 * m + i)) b1 (V 14 m).toNat) us < hst (fun m => plc (fun i => V 15 (40 * m + i)) b2 (V 14 m).toNat) us) ∨ (hst (fun m => plc (fun i => V 15 (40 * m + i)) b1 (V 14 m).toNat) us = hst (fun m => plc (fun i => V 15 (40 * m + i)) b2 (V 14 m).toNat) us ∧ plc (fun i => V 15 (40 * (hst (fun m => plc (fun i => V 15 (40 * m + i)) b1 (V 14 m).toNat) us).toNat + i)) b1 (V 14 (hst (fun m => plc (fun i => V 15 (40 * m + i)) b1 (V 14 m).toNat) us).toNat).toNat < plc (fun i => V 15 (40 * (hst (fun m => plc (fun i => V 15 (40 * m + i)) b1 (V 14 m).toNat) us).toNat + i)) b2 (V 14 (hst (fun m => plc (fun i => V 15 (40 * m + i)) b1 (V 14 m).toNat) us).toNat).toNat)))) ∨ (z = 0 ∧ ¬ (¬ hst (fun m => plc (fun i => V 15 (40 * m + i)) b1 (V 14 m).toNat) us = -1 ∧ ¬ hst (fun m => plc (fun i => V 15 (40 * m + i)) b2 (V 14 m).toNat) us = -1 ∧ ((hst (fun m => plc (fun i => V 15 (40 * m + i)) b1 (V 14 m).toNat) us ≠ hst (fun m => plc (fun i => V 15 (40 * m + i)) b2 (V 14 m).toNat) us ∧ hst (fun m => plc (fun i => V 15 (40 * m + i)) b1 (V 14 m).toNat) us < hst (fun m => plc (fun i => V 15 (40 * m + i)) b2 (V 14 m).toNat) us) ∨ (hst (fun m => plc (fun i => V 15 (40 * m + i)) b1 (V 14 m).toNat) us = hst (fun m => plc (fun i => V 15 (40 * m + i)) b2 (V 14 m).toNat) us ∧ plc (fun i => V 15 (40 * (hst (fun m => plc (fun i => V 15 (40 * m + i)) b1 (V 14 m).toNat) us).toNat + i)) b1 (V 14 (hst (fun m => plc (fun i => V 15 (40 * m + i)) b1 (V 14 m).toNat) us).toNat).toNat < plc (fun i => V 15 (40 * (hst (fun m => plc (fun i => V 15 (40 * m + i)) b1 (V 14 m).toNat) us).toNat + i)) b2 (V 14 (hst (fun m => plc (fun i => V 15 (40 * m + i)) b1 (V 14 m).toNat) us).toNat).toNat))))) ∧ V' = up V 0 0 0) := by
  refine CI.of (by decide +kernel) rfl (Nat.le_of_ble_eq_true rfl) ha (fun x hq => ?_)
  show G l D (tysL τ) (LM τ) a mX7_lower x 0 [(0, .ref (a 0)), (1, .int (iN b1)), (2, .int (iN b2))] [] V
  obtain ⟨r2, r3, r10, r15, r18, q1, q1k, q2, q3, q4, q5, q6, q7, q7k, q8, q9, q10, q11, q12, q14, qr, qf⟩ := id hok
  have hh1 := hst_in (pl := fun m => plc (fun i => V 15 (40 * m + i)) b1 (V 14 m).toNat) us
  have hh2 := hst_in (pl := fun m => plc (fun i => V 15 (40 * m + i)) b2 (V 14 m).toNat) us
  refine g_aload_n 0 dX7_lower_0 rfl rfl ?_
  refine g_aload_n 0 dX7_lower_1 rfl rfl ?_
  refine g_iload_n 1 dX7_lower_2 rfl rfl ?_
  refine g_callI (k := 0) [.int (iN b1)] (met_X7_isPart ha b1 hok (by omega)) vX7_219 om_0 rfl rfl ⟨rfl, rfl, Nat.le_of_ble_eq_true rfl, Nat.le_of_ble_eq_true rfl⟩ rfl (Nat.le_of_ble_eq_true rfl) dX7_lower_3 rfl ?_
  rintro z9 V9 ⟨hp9, hV9⟩
  replace hV9 := hV9.symm
  subst hV9
  have hz9 : 1 = z9 := by omega
  subst hz9
  refine g_if_eq 21 dX7_lower_6 (by decide) (fun c_1 => absurd c_1 (by decide)) (fun _ => ?_)
  refine g_aload_n 0 dX7_lower_9 rfl rfl ?_
  refine g_iload_n 2 dX7_lower_10 rfl rfl ?_
  refine g_callI (k := 0) [.int (iN b2)] (met_X7_isPart ha b2 hok (by omega)) vX7_219 om_0 rfl rfl ⟨rfl, rfl, Nat.le_of_ble_eq_true rfl, Nat.le_of_ble_eq_true rfl⟩ rfl (Nat.le_of_ble_eq_true rfl) dX7_lower_11 rfl ?_
  rintro z9 V9 ⟨hp9, hV9⟩
  replace hV9 := hV9.symm
  subst hV9
  have hz9 : 1 = z9 := by omega
  subst hz9
  refine g_if_eq 21 dX7_lower_14 (by decide) (fun c_2 => absurd c_2 (by decide)) (fun _ => ?_)
  refine g_iconst dX7_lower_17 ?_
  refine g_goto 22 dX7_lower_18 (by decide) ?_
  refine g_putf 0 (v := 0) (.int (iN 0)) pX7_83 om_0 dX7_lower_22 rfl rfl (Nat.le_of_ble_eq_true rfl) rfl ?_
  obtain ⟨V_3, eV_3⟩ : ∃ V9 : Mem, V9 = up V 0 0 0 := ⟨_, rfl⟩
  refine g_mem eV_3.symm ?_
  have hok1 : okR V_3 := by rw [eV_3]; exact okR_thr _ hok
  have z14 : V_3 14 = V 14 := by rw [eV_3]; exact up_ne1 (by omega)
  have z15 : V_3 15 = V 15 := by rw [eV_3]; exact up_ne1 (by omega)
  have z2 : V_3 2 = V 2 := by rw [eV_3]; exact up_ne1 (by omega)
  have z7 : V_3 7 = V 7 := by rw [eV_3]; exact up_ne1 (by omega)
  have z11 : V_3 11 = V 11 := by rw [eV_3]; exact up_ne1 (by omega)
  have z12 : V_3 12 = V 12 := by rw [eV_3]; exact up_ne1 (by omega)
  have z13 : V_3 13 = V 13 := by rw [eV_3]; exact up_ne1 (by omega)
  have z1 : V_3 1 = V 1 := by rw [eV_3]; exact up_ne1 (by omega)
  have z3 : V_3 3 = V 3 := by rw [eV_3]; exact up_ne1 (by omega)
  have z018 : V_3 0 18 = V 0 18 := by rw [eV_3]; exact up_ne (by omega)
  have z03 : V_3 0 3 = V 0 3 := by rw [eV_3]; exact up_ne (by omega)
  refine g_aload_n 0 dX7_lower_25 rfl rfl ?_
  refine g_getf 0 (.int (iN (V_3 0 0))) fX7_83 om_0 dX7_lower_26 rfl ?_
  refine g_top (show _ = 0 from by rw [eV_3, up_eq]) ?_
  refine g_if_eq 34 dX7_lower_29 (by decide) (fun _ => ?_) (fun c_4 => absurd c_4 (by decide))
  refine g_aload_n 0 dX7_lower_34 rfl rfl ?_
  refine g_iload_n 1 dX7_lower_35 rfl rfl ?_
  refine g_callI (k := 0) [.int (iN b1)] (met_X7_machineFor (V := V_3) ha b1 us hok1 (by omega) (by omega)) vX7_225 om_0 rfl rfl ⟨rfl, rfl, Nat.le_of_ble_eq_true rfl, Nat.le_of_ble_eq_true rfl⟩ rfl (Nat.le_of_ble_eq_true rfl) dX7_lower_36 rfl ?_
  rintro z9 V9 ⟨hz9, hV9⟩
  replace hV9 := hV9.symm
  subst hV9
  rw [z14, z15] at hz9
  replace hz9 := hz9.symm
  subst hz9
  refine g_istore_n [(3, .int (iN (hst (fun m => plc (fun i => V 15 (40 * m + i)) b1 (V 14 m).toNat) us))), (0, .ref (a 0)), (1, .int (iN b1)), (2, .int (iN b2))] dX7_lower_39 rfl (by decide) rfl ?_
  refine g_aload_n 1 dX7_lower_40 rfl rfl ?_
  refine g_iload_n 3 dX7_lower_41 rfl rfl ?_
  refine g_callI (k := 0) [.int (iN b2)] (met_X7_machineFor (V := V_3) ha b2 us hok1 (by omega) (by omega)) vX7_225 om_0 rfl rfl ⟨rfl, rfl, Nat.le_of_ble_eq_true rfl, Nat.le_of_ble_eq_true rfl⟩ rfl (Nat.le_of_ble_eq_true rfl) dX7_lower_42 rfl ?_
  rintro z9 V9 ⟨hz9, hV9⟩
  replace hV9 := hV9.symm
  subst hV9
  rw [z14, z15] at hz9
  replace hz9 := hz9.symm
  subst hz9
  refine g_istore [(4, .int (iN (hst (fun m => plc (fun i => V 15 (40 * m + i)) b2 (V 14 m).toNat) us))), (3, .int (iN (hst (fun m => plc (fun i => V 15 (40 * m + i)) b1 (V 14 m).toNat) us))), (0, .ref (a 0)), (1, .int (iN b1)), (2, .int (iN b2))] dX7_lower_45 (by decide) rfl ?_
  refine g_iload_n 1 dX7_lower_47 rfl rfl ?_
  refine g_iconst dX7_lower_48 ?_
  refine g_icmp_eq 58 dX7_lower_49 (by decide) (fun c_5 => ?_) (fun c_5 => ?_)
  · refine g_iconst dX7_lower_58 ?_
    exact g_iret hq rfl rfl dX7_lower_59 (⟨Or.inr ⟨rfl, by omega⟩, by rw [eV_3]⟩)
  · refine g_iload 0 dX7_lower_52 rfl ?_
    refine g_iconst dX7_lower_54 ?_
    refine g_icmp_ne 60 dX7_lower_55 (by decide) (fun c_6 => ?_) (fun c_6 => ?_)
    · refine g_iload_n 1 dX7_lower_60 rfl rfl ?_
      refine g_iload 0 dX7_lower_61 rfl ?_
      refine g_icmp_eq 80 dX7_lower_63 (by decide) (fun c_7 => ?_) (fun c_7 => ?_)
      · have hq1 := plc_in (f := fun i => V 15 (40 * (hst (fun m => plc (fun i => V 15 (40 * m + i)) b1 (V 14 m).toNat) us).toNat + i)) (p := b1) (V 14 (hst (fun m => plc (fun i => V 15 (40 * m + i)) b1 (V 14 m).toNat) us).toNat).toNat
        have hq2 := plc_in (f := fun i => V 15 (40 * (hst (fun m => plc (fun i => V 15 (40 * m + i)) b1 (V 14 m).toNat) us).toNat + i)) (p := b2) (V 14 (hst (fun m => plc (fun i => V 15 (40 * m + i)) b1 (V 14 m).toNat) us).toNat).toNat
        have qs := q14 (hst (fun m => plc (fun i => V 15 (40 * m + i)) b1 (V 14 m).toNat) us).toNat (by omega)
        refine g_aload_n 2 dX7_lower_80 rfl rfl ?_
        refine g_iload_n 1 dX7_lower_81 rfl rfl ?_
        refine g_top (show hst (fun m => plc (fun i => V 15 (40 * m + i)) b1 (V 14 m).toNat) us = (((hst (fun m => plc (fun i => V 15 (40 * m + i)) b1 (V 14 m).toNat) us).toNat : Nat) : Int) from by omega) ?_
        refine g_iload_n 3 dX7_lower_82 rfl rfl ?_
        refine g_callI (k := 0) [.int (iN (((hst (fun m => plc (fun i => V 15 (40 * m + i)) b1 (V 14 m).toNat) us).toNat : Nat) : Int)), .int (iN b1)] (met_X7_placeOf (V := V_3) ha (hst (fun m => plc (fun i => V 15 (40 * m + i)) b1 (V 14 m).toNat) us).toNat b1 hok1 (by omega) (by omega)) vX7_222 om_0 rfl rfl ⟨rfl, rfl, Nat.le_of_ble_eq_true rfl, Nat.le_of_ble_eq_true rfl⟩ rfl (Nat.le_of_ble_eq_true rfl) dX7_lower_83 rfl ?_
        rintro z9 V9 ⟨hz9, hV9⟩
        replace hV9 := hV9.symm
        subst hV9
        rw [z14, z15] at hz9
        replace hz9 := hz9.symm
        subst hz9
        refine g_aload_n 2 dX7_lower_86 rfl rfl ?_
        refine g_iload_n 1 dX7_lower_87 rfl rfl ?_
        refine g_top (show hst (fun m => plc (fun i => V 15 (40 * m + i)) b1 (V 14 m).toNat) us = (((hst (fun m => plc (fun i => V 15 (40 * m + i)) b1 (V 14 m).toNat) us).toNat : Nat) : Int) from by omega) ?_
        refine g_iload_n 4 dX7_lower_88 rfl rfl ?_
        refine g_callI (k := 0) [.int (iN (((hst (fun m => plc (fun i => V 15 (40 * m + i)) b1 (V 14 m).toNat) us).toNat : Nat) : Int)), .int (iN b2)] (met_X7_placeOf (V := V_3) ha (hst (fun m => plc (fun i => V 15 (40 * m + i)) b1 (V 14 m).toNat) us).toNat b2 hok1 (by omega) (by omega)) vX7_222 om_0 rfl rfl ⟨rfl, rfl, Nat.le_of_ble_eq_true rfl, Nat.le_of_ble_eq_true rfl⟩ rfl (Nat.le_of_ble_eq_true rfl) dX7_lower_89 rfl ?_
        rintro z9 V9 ⟨hz9, hV9⟩
        replace hV9 := hV9.symm
        subst hV9
        rw [z14, z15] at hz9
        replace hz9 := hz9.symm
        subst hz9
        refine g_icmp_ge 99 dX7_lower_92 (by decide) (fun c_8 => ?_) (fun c_8 => ?_)
        · refine g_iconst dX7_lower_99 ?_
          exact g_iret hq rfl rfl dX7_lower_100 (⟨Or.inr ⟨rfl, by omega⟩, by rw [eV_3]⟩)
        · refine g_iconst dX7_lower_95 ?_
          refine g_goto 100 dX7_lower_96 (by decide) ?_
          exact g_iret hq rfl rfl dX7_lower_100 (⟨Or.inl ⟨rfl, by omega⟩, by rw [eV_3]⟩)
      · refine g_iload_n 1 dX7_lower_66 rfl rfl ?_
        refine g_iload 0 dX7_lower_67 rfl ?_
        refine g_icmp_ge 76 dX7_lower_69 (by decide) (fun c_9 => ?_) (fun c_9 => ?_)
        · refine g_iconst dX7_lower_76 ?_
          refine g_goto 100 dX7_lower_77 (by decide) ?_
          exact g_iret hq rfl rfl dX7_lower_100 (⟨Or.inr ⟨rfl, by omega⟩, by rw [eV_3]⟩)
        · refine g_iconst dX7_lower_72 ?_
          refine g_goto 100 dX7_lower_73 (by decide) ?_
          exact g_iret hq rfl rfl dX7_lower_100 (⟨Or.inl ⟨rfl, by omega⟩, by rw [eV_3]⟩)
    · refine g_iconst dX7_lower_58 ?_
      exact g_iret hq rfl rfl dX7_lower_59 (⟨Or.inr ⟨rfl, by omega⟩, by rw [eV_3]⟩)

set_option maxHeartbeats 4000000 in
theorem met_X7_lower_b1 {l : Launch} {D : va_G} {τ : Nat → ClassId} {a : Nat → Nat} (ha : Apart (LM τ) a) {V : Mem} (b1 b2 : Int) (hok : okR V) (h10 : -2147483648 ≤ b1 ∧ b1 ≤ 2147483647) (h20 : -2147483648 ≤ b2 ∧ b2 ≤ 2147483647) (hb : ¬ (0 ≤ b1 ∧ b1 < V 0 10 ∧ 0 ≤ b2 ∧ b2 < V 0 10)) : CI l D (tysL τ) (LM τ) a yX7_lower mX7_lower [.ref (a 0), .int (iN b1), .int (iN b2)] V (fun z V' => V' = up V 0 0 1) := by
  refine CI.of (by decide +kernel) rfl (Nat.le_of_ble_eq_true rfl) ha (fun x hq => ?_)
  show G l D (tysL τ) (LM τ) a mX7_lower x 0 [(0, .ref (a 0)), (1, .int (iN b1)), (2, .int (iN b2))] [] V
  obtain ⟨r2, r3, r10, r15, r18, q1, q1k, q2, q3, q4, q5, q6, q7, q7k, q8, q9, q10, q11, q12, q14, qr, qf⟩ := id hok
  refine g_aload_n 0 dX7_lower_0 rfl rfl ?_
  refine g_aload_n 0 dX7_lower_1 rfl rfl ?_
  refine g_iload_n 1 dX7_lower_2 rfl rfl ?_
  refine g_callI (k := 0) [.int (iN b1)] (met_X7_isPart ha b1 hok (by omega)) vX7_219 om_0 rfl rfl ⟨rfl, rfl, Nat.le_of_ble_eq_true rfl, Nat.le_of_ble_eq_true rfl⟩ rfl (Nat.le_of_ble_eq_true rfl) dX7_lower_3 rfl ?_
  rintro z9 V9 ⟨hp9, hV9⟩
  replace hV9 := hV9.symm
  subst hV9
  rcases hp9 with ⟨hz9, b_1⟩ | ⟨hz9, b_1⟩
  · subst hz9
    refine g_if_eq 21 dX7_lower_6 (by decide) (fun c_2 => absurd c_2 (by decide)) (fun _ => ?_)
    refine g_aload_n 0 dX7_lower_9 rfl rfl ?_
    refine g_iload_n 2 dX7_lower_10 rfl rfl ?_
    refine g_callI (k := 0) [.int (iN b2)] (met_X7_isPart ha b2 hok (by omega)) vX7_219 om_0 rfl rfl ⟨rfl, rfl, Nat.le_of_ble_eq_true rfl, Nat.le_of_ble_eq_true rfl⟩ rfl (Nat.le_of_ble_eq_true rfl) dX7_lower_11 rfl ?_
    rintro z9 V9 ⟨hp9, hV9⟩
    replace hV9 := hV9.symm
    subst hV9
    rcases hp9 with ⟨hz9, b_3⟩ | ⟨hz9, b_3⟩
    · subst hz9
      refine g_if_eq 21 dX7_lower_14 (by decide) (fun c_4 => absurd c_4 (by decide)) (fun _ => ?_)
      omega
    · subst hz9
      refine g_if_eq 21 dX7_lower_14 (by decide) (fun _ => ?_) (fun c_5 => absurd c_5 (by decide))
      refine g_iconst dX7_lower_21 ?_
      refine g_putf 0 (v := 1) (.int (iN 1)) pX7_83 om_0 dX7_lower_22 rfl rfl (Nat.le_of_ble_eq_true rfl) rfl ?_
      obtain ⟨V_6, eV_6⟩ : ∃ V9 : Mem, V9 = up V 0 0 1 := ⟨_, rfl⟩
      refine g_mem eV_6.symm ?_
      refine g_aload_n 0 dX7_lower_25 rfl rfl ?_
      refine g_getf 0 (.int (iN (V_6 0 0))) fX7_83 om_0 dX7_lower_26 rfl ?_
      refine g_top (show _ = 1 from by rw [eV_6, up_eq]) ?_
      refine g_if_eq 34 dX7_lower_29 (by decide) (fun c_7 => absurd c_7 (by decide)) (fun _ => ?_)
      refine g_iconst dX7_lower_32 ?_
      exact g_iret hq rfl rfl dX7_lower_33 (by rw [eV_6])
  · subst hz9
    refine g_if_eq 21 dX7_lower_6 (by decide) (fun _ => ?_) (fun c_8 => absurd c_8 (by decide))
    refine g_iconst dX7_lower_21 ?_
    refine g_putf 0 (v := 1) (.int (iN 1)) pX7_83 om_0 dX7_lower_22 rfl rfl (Nat.le_of_ble_eq_true rfl) rfl ?_
    obtain ⟨V_9, eV_9⟩ : ∃ V9 : Mem, V9 = up V 0 0 1 := ⟨_, rfl⟩
    refine g_mem eV_9.symm ?_
    refine g_aload_n 0 dX7_lower_25 rfl rfl ?_
    refine g_getf 0 (.int (iN (V_9 0 0))) fX7_83 om_0 dX7_lower_26 rfl ?_
    refine g_top (show _ = 1 from by rw [eV_9, up_eq]) ?_
    refine g_if_eq 34 dX7_lower_29 (by decide) (fun c_10 => absurd c_10 (by decide)) (fun _ => ?_)
    refine g_iconst dX7_lower_32 ?_
    exact g_iret hq rfl rfl dX7_lower_33 (by rw [eV_9])

set_option maxHeartbeats 4000000 in
/-- proved() -/
theorem met_X7_proved {l : Launch} {D : va_G} {τ : Nat → ClassId} {a : Nat → Nat} (ha : Apart (LM τ) a) {V : Mem} (us : Nat) (hok : okR V) (hus : V 0 18 = (us : Int)) : CI l D (tysL τ) (LM τ) a yX7_proved mX7_proved [.ref (a 0)] V (fun z V' => ((z = 1 ∧ ∀ m, m < us → V 14 m ≤ V 12 m) ∨ (z = 0 ∧ ¬ (∀ m, m < us → V 14 m ≤ V 12 m))) ∧ V' = up V 0 0 0) := by
  refine CI.of (by decide +kernel) rfl (Nat.le_of_ble_eq_true rfl) ha (fun x hq => ?_)
  show G l D (tysL τ) (LM τ) a mX7_proved x 0 [(0, .ref (a 0))] [] V
  obtain ⟨r2, r3, r10, r15, r18, q1, q1k, q2, q3, q4, q5, q6, q7, q7k, q8, q9, q10, q11, q12, q14, qr, qf⟩ := id hok
  refine g_aload_n 0 dX7_proved_0 rfl rfl ?_
  refine g_iconst dX7_proved_1 ?_
  refine g_putf 0 (v := 0) (.int (iN 0)) pX7_83 om_0 dX7_proved_2 rfl rfl (Nat.le_of_ble_eq_true rfl) rfl ?_
  obtain ⟨V_1, eV_1⟩ : ∃ V9 : Mem, V9 = up V 0 0 0 := ⟨_, rfl⟩
  refine g_mem eV_1.symm ?_
  have hok1 : okR V_1 := by rw [eV_1]; exact okR_thr _ hok
  have z14 : V_1 14 = V 14 := by rw [eV_1]; exact up_ne1 (by omega)
  have z15 : V_1 15 = V 15 := by rw [eV_1]; exact up_ne1 (by omega)
  have z2 : V_1 2 = V 2 := by rw [eV_1]; exact up_ne1 (by omega)
  have z7 : V_1 7 = V 7 := by rw [eV_1]; exact up_ne1 (by omega)
  have z11 : V_1 11 = V 11 := by rw [eV_1]; exact up_ne1 (by omega)
  have z12 : V_1 12 = V 12 := by rw [eV_1]; exact up_ne1 (by omega)
  have z13 : V_1 13 = V 13 := by rw [eV_1]; exact up_ne1 (by omega)
  have z1 : V_1 1 = V 1 := by rw [eV_1]; exact up_ne1 (by omega)
  have z3 : V_1 3 = V 3 := by rw [eV_1]; exact up_ne1 (by omega)
  have z018 : V_1 0 18 = V 0 18 := by rw [eV_1]; exact up_ne (by omega)
  have z03 : V_1 0 3 = V 0 3 := by rw [eV_1]; exact up_ne (by omega)
  refine g_iconst dX7_proved_5 ?_
  refine g_istore_n [(1, .int (iN 1)), (0, .ref (a 0))] dX7_proved_6 rfl (by decide) rfl ?_
  refine g_iconst dX7_proved_7 ?_
  refine g_istore_n [(2, .int (iN 0)), (1, .int (iN 1)), (0, .ref (a 0))] dX7_proved_8 rfl (by decide) rfl ?_
  have lp_9 : ∀ (fuel : Nat) (m : Nat) (b : Int), (m ≤ us) → ((b = 1 ∧ ∀ j, j < m → V 14 j ≤ V 12 j) ∨ (b = 0 ∧ ¬ ∀ j, j < m → V 14 j ≤ V 12 j)) → (us - m) < fuel → G l D (tysL τ) (LM τ) a mX7_proved x 9 [(0, .ref (a 0)), (1, .int (iN b)), (2, .int (iN (m : Int)))] [] V_1 := by
    intro fuel
    induction fuel with
    | zero => intro m b hm0 hh hfu; exact absurd hfu (Nat.not_lt_zero _)
    | succ fuel ih_9 =>
      intro m b hm0 hh hfu
      have q14m := q14 m
      have q12m := q12 m
      refine g_iload_n 2 dX7_proved_9 rfl rfl ?_
      refine g_aload_n 0 dX7_proved_10 rfl rfl ?_
      refine g_getf 0 (.int (iN (V_1 0 18))) fX7_109 om_0 dX7_proved_11 rfl ?_
      refine g_top (show _ = V 0 18 from by rw [eV_1, up_ne (by omega)]) ?_
      refine g_top (show V 0 18 = (us : Int) from by omega) ?_
      refine g_icmp_ge 48 dX7_proved_14 (by decide) (fun c_2 => ?_) (fun c_2 => ?_)
      · refine g_iload_n 1 dX7_proved_48 rfl rfl ?_
        rcases (show b = 1 ∨ b = 0 by rcases hh with h | h <;> omega) with hb9 | hb9
        · subst hb9
          exact g_iret hq rfl rfl dX7_proved_49 (⟨by rw [show us = m by omega]; exact hh, by rw [eV_1]⟩)
        · subst hb9
          exact g_iret hq rfl rfl dX7_proved_49 (⟨by rw [show us = m by omega]; exact hh, by rw [eV_1]⟩)
      · refine g_iload_n 1 dX7_proved_17 rfl rfl ?_
        refine g_if_eq 40 dX7_proved_18 (by decide) (fun c_3 => ?_) (fun c_3 => ?_)
        · refine g_iconst dX7_proved_40 ?_
          refine g_istore_n [(1, .int (iN 0)), (0, .ref (a 0)), (2, .int (iN (m : Int)))] dX7_proved_41 rfl (by decide) rfl ?_
          refine g_iinc 2 [(2, .int (iN ((m : Int) + 1))), (1, .int (iN 0)), (0, .ref (a 0))] dX7_proved_42 rfl (by decide) rfl ?_
          refine g_goto 9 dX7_proved_45 (by decide) ?_
          refine g_lv [2, 1, 0] rfl ?_
          exact ih_9 (m + 1) 0 (by omega) (Or.inr ⟨rfl, fun h => by
              rcases hh with q | q
              · have := h m (by omega); omega
              · exact q.2 (fun j hj => h j (by omega))⟩) (by omega)
        · refine g_aload_n 0 dX7_proved_21 rfl rfl ?_
          refine g_getf 0 (.ref (a 14)) fX7_50 om_0 dX7_proved_22 rfl ?_
          refine g_iload_n 2 dX7_proved_25 rfl rfl ?_
          refine g_iald 14 m am_14 dX7_proved_26 rfl (by omega) ?_
          refine g_top (show _ = V 14 m from by rw [eV_1, up_ne (by omega)]) ?_
          refine g_aload_n 0 dX7_proved_27 rfl rfl ?_
          refine g_getf 0 (.ref (a 12)) fX7_44 om_0 dX7_proved_28 rfl ?_
          refine g_iload_n 2 dX7_proved_31 rfl rfl ?_
          refine g_iald 12 m am_12 dX7_proved_32 rfl (by omega) ?_
          refine g_top (show _ = V 12 m from by rw [eV_1, up_ne (by omega)]) ?_
          refine g_icmp_gt 40 dX7_proved_33 (by decide) (fun c_4 => ?_) (fun c_4 => ?_)
          · refine g_iconst dX7_proved_40 ?_
            refine g_istore_n [(1, .int (iN 0)), (0, .ref (a 0)), (2, .int (iN (m : Int)))] dX7_proved_41 rfl (by decide) rfl ?_
            refine g_iinc 2 [(2, .int (iN ((m : Int) + 1))), (1, .int (iN 0)), (0, .ref (a 0))] dX7_proved_42 rfl (by decide) rfl ?_
            refine g_goto 9 dX7_proved_45 (by decide) ?_
            refine g_lv [2, 1, 0] rfl ?_
            exact ih_9 (m + 1) 0 (by omega) (Or.inr ⟨rfl, fun h => by
                rcases hh with q | q
                · have := h m (by omega); omega
                · exact q.2 (fun j hj => h j (by omega))⟩) (by omega)
          · refine g_iconst dX7_proved_36 ?_
            refine g_goto 41 dX7_proved_37 (by decide) ?_
            refine g_istore_n [(1, .int (iN 1)), (0, .ref (a 0)), (2, .int (iN (m : Int)))] dX7_proved_41 rfl (by decide) rfl ?_
            refine g_iinc 2 [(2, .int (iN ((m : Int) + 1))), (1, .int (iN 1)), (0, .ref (a 0))] dX7_proved_42 rfl (by decide) rfl ?_
            refine g_goto 9 dX7_proved_45 (by decide) ?_
            refine g_lv [2, 1, 0] rfl ?_
            exact ih_9 (m + 1) 1 (by omega) (Or.inl ⟨rfl, fun j hj => by
                by_cases e : j = m
                · subst e; omega
                · rcases hh with h | h; (· exact h.2 j (by omega)); (· omega)⟩) (by omega)
  refine g_lv [2, 1, 0] rfl ?_
  exact lp_9 _ 0 1 (Nat.zero_le _) (Or.inl ⟨rfl, fun j h => absurd h (Nat.not_lt_zero _)⟩) (Nat.lt_succ_self _)

set_option maxHeartbeats 4000000 in
/-- common(m, n) -/
theorem met_X7_common {l : Launch} {D : va_G} {τ : Nat → ClassId} {a : Nat → Nat} (ha : Apart (LM τ) a) {V : Mem} (m n kc : Nat) (hok : okR V) (hkc : V 0 3 = (kc : Int)) (hm : (m : Int) < V 0 15) (hn : (n : Int) < V 0 15) : CI l D (tysL τ) (LM τ) a yX7_common mX7_common [.ref (a 0), .int (iN (m : Int)), .int (iN (n : Int))] V (fun z V' => ((z = 1 ∧ ∀ k, k < kc → (V 13 (10 * m + k) ≠ -1 ∨ V 13 (10 * n + k) ≠ -1) → ((V 11 m).toNat / 2 ^ (V 2 k).toNat % 2 = 1 ∧ (V 11 n).toNat / 2 ^ (V 2 k).toNat % 2 = 1)) ∨ (z = 0 ∧ ¬ (∀ k, k < kc → (V 13 (10 * m + k) ≠ -1 ∨ V 13 (10 * n + k) ≠ -1) → ((V 11 m).toNat / 2 ^ (V 2 k).toNat % 2 = 1 ∧ (V 11 n).toNat / 2 ^ (V 2 k).toNat % 2 = 1)))) ∧ V' = up V 0 0 0) := by
  refine CI.of (by decide +kernel) rfl (Nat.le_of_ble_eq_true rfl) ha (fun x hq => ?_)
  show G l D (tysL τ) (LM τ) a mX7_common x 0 [(0, .ref (a 0)), (1, .int (iN (m : Int))), (2, .int (iN (n : Int)))] [] V
  obtain ⟨r2, r3, r10, r15, r18, q1, q1k, q2, q3, q4, q5, q6, q7, q7k, q8, q9, q10, q11, q12, q14, qr, qf⟩ := id hok
  refine g_aload_n 0 dX7_common_0 rfl rfl ?_
  refine g_aload_n 0 dX7_common_1 rfl rfl ?_
  refine g_iload_n 1 dX7_common_2 rfl rfl ?_
  refine g_callI (k := 0) [.int (iN (m : Int))] (met_X7_isMachine ha (m : Int) hok (by omega)) vX7_216 om_0 rfl rfl ⟨rfl, rfl, Nat.le_of_ble_eq_true rfl, Nat.le_of_ble_eq_true rfl⟩ rfl (Nat.le_of_ble_eq_true rfl) dX7_common_3 rfl ?_
  rintro z9 V9 ⟨hp9, hV9⟩
  replace hV9 := hV9.symm
  subst hV9
  have hz9 : 1 = z9 := by omega
  subst hz9
  refine g_if_eq 21 dX7_common_6 (by decide) (fun c_1 => absurd c_1 (by decide)) (fun _ => ?_)
  refine g_aload_n 0 dX7_common_9 rfl rfl ?_
  refine g_iload_n 2 dX7_common_10 rfl rfl ?_
  refine g_callI (k := 0) [.int (iN (n : Int))] (met_X7_isMachine ha (n : Int) hok (by omega)) vX7_216 om_0 rfl rfl ⟨rfl, rfl, Nat.le_of_ble_eq_true rfl, Nat.le_of_ble_eq_true rfl⟩ rfl (Nat.le_of_ble_eq_true rfl) dX7_common_11 rfl ?_
  rintro z9 V9 ⟨hp9, hV9⟩
  replace hV9 := hV9.symm
  subst hV9
  have hz9 : 1 = z9 := by omega
  subst hz9
  refine g_if_eq 21 dX7_common_14 (by decide) (fun c_2 => absurd c_2 (by decide)) (fun _ => ?_)
  refine g_iconst dX7_common_17 ?_
  refine g_goto 22 dX7_common_18 (by decide) ?_
  refine g_putf 0 (v := 0) (.int (iN 0)) pX7_83 om_0 dX7_common_22 rfl rfl (Nat.le_of_ble_eq_true rfl) rfl ?_
  obtain ⟨V_3, eV_3⟩ : ∃ V9 : Mem, V9 = up V 0 0 0 := ⟨_, rfl⟩
  refine g_mem eV_3.symm ?_
  have hok1 : okR V_3 := by rw [eV_3]; exact okR_thr _ hok
  have z14 : V_3 14 = V 14 := by rw [eV_3]; exact up_ne1 (by omega)
  have z15 : V_3 15 = V 15 := by rw [eV_3]; exact up_ne1 (by omega)
  have z2 : V_3 2 = V 2 := by rw [eV_3]; exact up_ne1 (by omega)
  have z7 : V_3 7 = V 7 := by rw [eV_3]; exact up_ne1 (by omega)
  have z11 : V_3 11 = V 11 := by rw [eV_3]; exact up_ne1 (by omega)
  have z12 : V_3 12 = V 12 := by rw [eV_3]; exact up_ne1 (by omega)
  have z13 : V_3 13 = V 13 := by rw [eV_3]; exact up_ne1 (by omega)
  have z1 : V_3 1 = V 1 := by rw [eV_3]; exact up_ne1 (by omega)
  have z3 : V_3 3 = V 3 := by rw [eV_3]; exact up_ne1 (by omega)
  have z018 : V_3 0 18 = V 0 18 := by rw [eV_3]; exact up_ne (by omega)
  have z03 : V_3 0 3 = V 0 3 := by rw [eV_3]; exact up_ne (by omega)
  refine g_aload_n 0 dX7_common_25 rfl rfl ?_
  refine g_getf 0 (.int (iN (V_3 0 0))) fX7_83 om_0 dX7_common_26 rfl ?_
  refine g_top (show _ = 0 from by rw [eV_3, up_eq]) ?_
  refine g_if_eq 34 dX7_common_29 (by decide) (fun _ => ?_) (fun c_4 => absurd c_4 (by decide))
  refine g_iconst dX7_common_34 ?_
  refine g_istore_n [(3, .int (iN 1)), (0, .ref (a 0)), (1, .int (iN (m : Int))), (2, .int (iN (n : Int)))] dX7_common_35 rfl (by decide) rfl ?_
  refine g_iconst dX7_common_36 ?_
  refine g_istore [(4, .int (iN 0)), (3, .int (iN 1)), (0, .ref (a 0)), (1, .int (iN (m : Int))), (2, .int (iN (n : Int)))] dX7_common_37 (by decide) rfl ?_
  have lp_39 : ∀ (fuel : Nat) (k : Nat) (b : Int), (k ≤ kc) → ((b = 1 ∧ ∀ j, j < k → (V 13 (10 * m + j) ≠ -1 ∨ V 13 (10 * n + j) ≠ -1) → ((V 11 m).toNat / 2 ^ (V 2 j).toNat % 2 = 1 ∧ (V 11 n).toNat / 2 ^ (V 2 j).toNat % 2 = 1)) ∨ (b = 0 ∧ ¬ ∀ j, j < k → (V 13 (10 * m + j) ≠ -1 ∨ V 13 (10 * n + j) ≠ -1) → ((V 11 m).toNat / 2 ^ (V 2 j).toNat % 2 = 1 ∧ (V 11 n).toNat / 2 ^ (V 2 j).toNat % 2 = 1))) → (kc - k) < fuel → G l D (tysL τ) (LM τ) a mX7_common x 39 [(0, .ref (a 0)), (1, .int (iN (m : Int))), (2, .int (iN (n : Int))), (3, .int (iN b)), (4, .int (iN (k : Int)))] [] V_3 := by
    intro fuel
    induction fuel with
    | zero => intro k b hk hh hfu; exact absurd hfu (Nat.not_lt_zero _)
    | succ fuel ih_39 =>
      intro k b hk hh hfu
      have qfm := qf m (by omega) k
      have qfn := qf n (by omega) k
      refine g_iload 4 dX7_common_39 rfl ?_
      refine g_aload_n 0 dX7_common_41 rfl rfl ?_
      refine g_getf 0 (.int (iN (V_3 0 3))) fX7_86 om_0 dX7_common_42 rfl ?_
      refine g_top (show _ = V 0 3 from by rw [eV_3, up_ne (by omega)]) ?_
      refine g_top (show V 0 3 = (kc : Int) from by omega) ?_
      refine g_icmp_ge 128 dX7_common_45 (by decide) (fun c_5 => ?_) (fun c_5 => ?_)
      · refine g_iload_n 3 dX7_common_128 rfl rfl ?_
        rcases (show b = 1 ∨ b = 0 by rcases hh with h | h <;> omega) with hb9 | hb9
        · subst hb9
          exact g_iret hq rfl rfl dX7_common_129 (⟨by rw [show kc = k by omega]; exact hh, by rw [eV_3]⟩)
        · subst hb9
          exact g_iret hq rfl rfl dX7_common_129 (⟨by rw [show kc = k by omega]; exact hh, by rw [eV_3]⟩)
      · refine g_aload_n 0 dX7_common_48 rfl rfl ?_
        refine g_getf 0 (.ref (a 13)) fX7_47 om_0 dX7_common_49 rfl ?_
        refine g_bipush dX7_common_52 rfl ?_
        refine g_iload_n 1 dX7_common_54 rfl rfl ?_
        refine g_imul dX7_common_55 ?_
        refine g_iload 4 dX7_common_56 rfl ?_
        refine g_iadd dX7_common_58 ?_
        refine g_iald 13 (10 * m + k) am_13 dX7_common_59 (by omega) (by omega) ?_
        refine g_top (show _ = V 13 (10 * m + k) from by rw [eV_3, up_ne (by omega)]) ?_
        refine g_iconst dX7_common_60 ?_
        refine g_icmp_ne 80 dX7_common_61 (by decide) (fun c_6 => ?_) (fun c_6 => ?_)
        · refine g_iconst dX7_common_80 ?_
          refine g_goto 85 dX7_common_81 (by decide) ?_
          refine g_istore [(5, .int (iN 1)), (0, .ref (a 0)), (1, .int (iN (m : Int))), (2, .int (iN (n : Int))), (3, .int (iN b)), (4, .int (iN (k : Int)))] dX7_common_85 (by decide) rfl ?_
          refine g_iload_n 4 dX7_common_87 rfl rfl ?_
          refine g_if_eq 120 dX7_common_88 (by decide) (fun c_7 => ?_) (fun c_7 => ?_)
          · refine g_iconst dX7_common_120 ?_
            refine g_istore_n [(3, .int (iN 0)), (5, .int (iN 1)), (0, .ref (a 0)), (1, .int (iN (m : Int))), (2, .int (iN (n : Int))), (4, .int (iN (k : Int)))] dX7_common_121 rfl (by decide) rfl ?_
            refine g_iinc 5 [(4, .int (iN ((k : Int) + 1))), (3, .int (iN 0)), (5, .int (iN 1)), (0, .ref (a 0)), (1, .int (iN (m : Int))), (2, .int (iN (n : Int)))] dX7_common_122 rfl (by decide) rfl ?_
            refine g_goto 39 dX7_common_125 (by decide) ?_
            refine g_lv [3, 4, 5, 1, 0] rfl ?_
            exact ih_39 (k + 1) 0 (by omega) (Or.inr ⟨rfl, fun h => by
                rcases hh with q | q
                · have h9 := h k (by omega) (by omega)
                  first | omega | exact absurd h9.1 (by assumption) | exact absurd h9.2 (by assumption)
                · exact q.2 (fun j hj => h j (by omega))⟩) (by omega)
          · refine g_iload 0 dX7_common_91 rfl ?_
            refine g_if_eq 116 dX7_common_93 (by decide) (fun c_8 => absurd c_8 (by decide)) (fun _ => ?_)
            refine g_aload_n 1 dX7_common_96 rfl rfl ?_
            refine g_iload 5 dX7_common_97 rfl ?_
            refine g_iload_n 2 dX7_common_99 rfl rfl ?_
            refine g_callI (k := 0) [.int (iN (k : Int)), .int (iN (m : Int))] (met_X7_mayGo (V := V_3) ha k m hok1 (by omega) (by omega)) vX7_112 om_0 rfl rfl ⟨rfl, rfl, Nat.le_of_ble_eq_true rfl, Nat.le_of_ble_eq_true rfl⟩ rfl (Nat.le_of_ble_eq_true rfl) dX7_common_100 rfl ?_
            rintro z9 V9 ⟨hp9, hV9⟩
            replace hV9 := hV9.symm
            subst hV9
            rw [z11, z2] at hp9
            rcases hp9 with ⟨hz9, b_9⟩ | ⟨hz9, b_9⟩
            · subst hz9
              refine g_if_eq 120 dX7_common_103 (by decide) (fun c_10 => absurd c_10 (by decide)) (fun _ => ?_)
              refine g_aload_n 1 dX7_common_106 rfl rfl ?_
              refine g_iload 5 dX7_common_107 rfl ?_
              refine g_iload_n 3 dX7_common_109 rfl rfl ?_
              refine g_callI (k := 0) [.int (iN (k : Int)), .int (iN (n : Int))] (met_X7_mayGo (V := V_3) ha k n hok1 (by omega) (by omega)) vX7_112 om_0 rfl rfl ⟨rfl, rfl, Nat.le_of_ble_eq_true rfl, Nat.le_of_ble_eq_true rfl⟩ rfl (Nat.le_of_ble_eq_true rfl) dX7_common_110 rfl ?_
              rintro z9 V9 ⟨hp9, hV9⟩
              replace hV9 := hV9.symm
              subst hV9
              rw [z11, z2] at hp9
              rcases hp9 with ⟨hz9, b_11⟩ | ⟨hz9, b_11⟩
              · subst hz9
                refine g_if_eq 120 dX7_common_113 (by decide) (fun c_12 => absurd c_12 (by decide)) (fun _ => ?_)
                refine g_iconst dX7_common_116 ?_
                refine g_goto 121 dX7_common_117 (by decide) ?_
                refine g_istore_n [(3, .int (iN 1)), (5, .int (iN 1)), (0, .ref (a 0)), (1, .int (iN (m : Int))), (2, .int (iN (n : Int))), (4, .int (iN (k : Int)))] dX7_common_121 rfl (by decide) rfl ?_
                refine g_iinc 5 [(4, .int (iN ((k : Int) + 1))), (3, .int (iN 1)), (5, .int (iN 1)), (0, .ref (a 0)), (1, .int (iN (m : Int))), (2, .int (iN (n : Int)))] dX7_common_122 rfl (by decide) rfl ?_
                refine g_goto 39 dX7_common_125 (by decide) ?_
                refine g_lv [3, 4, 5, 1, 0] rfl ?_
                exact ih_39 (k + 1) 1 (by omega) (Or.inl ⟨rfl, fun j hj => by
                    by_cases e : j = k
                    · subst e; intro hf; first | exact ⟨by assumption, by assumption⟩ | omega
                    · rcases hh with h | h; (· exact h.2 j (by omega)); (· omega)⟩) (by omega)
              · subst hz9
                refine g_if_eq 120 dX7_common_113 (by decide) (fun _ => ?_) (fun c_13 => absurd c_13 (by decide))
                refine g_iconst dX7_common_120 ?_
                refine g_istore_n [(3, .int (iN 0)), (5, .int (iN 1)), (0, .ref (a 0)), (1, .int (iN (m : Int))), (2, .int (iN (n : Int))), (4, .int (iN (k : Int)))] dX7_common_121 rfl (by decide) rfl ?_
                refine g_iinc 5 [(4, .int (iN ((k : Int) + 1))), (3, .int (iN 0)), (5, .int (iN 1)), (0, .ref (a 0)), (1, .int (iN (m : Int))), (2, .int (iN (n : Int)))] dX7_common_122 rfl (by decide) rfl ?_
                refine g_goto 39 dX7_common_125 (by decide) ?_
                refine g_lv [3, 4, 5, 1, 0] rfl ?_
                exact ih_39 (k + 1) 0 (by omega) (Or.inr ⟨rfl, fun h => by
                    rcases hh with q | q
                    · have h9 := h k (by omega) (by omega)
                      first | omega | exact absurd h9.1 (by assumption) | exact absurd h9.2 (by assumption)
                    · exact q.2 (fun j hj => h j (by omega))⟩) (by omega)
            · subst hz9
              refine g_if_eq 120 dX7_common_103 (by decide) (fun _ => ?_) (fun c_14 => absurd c_14 (by decide))
              refine g_iconst dX7_common_120 ?_
              refine g_istore_n [(3, .int (iN 0)), (5, .int (iN 1)), (0, .ref (a 0)), (1, .int (iN (m : Int))), (2, .int (iN (n : Int))), (4, .int (iN (k : Int)))] dX7_common_121 rfl (by decide) rfl ?_
              refine g_iinc 5 [(4, .int (iN ((k : Int) + 1))), (3, .int (iN 0)), (5, .int (iN 1)), (0, .ref (a 0)), (1, .int (iN (m : Int))), (2, .int (iN (n : Int)))] dX7_common_122 rfl (by decide) rfl ?_
              refine g_goto 39 dX7_common_125 (by decide) ?_
              refine g_lv [3, 4, 5, 1, 0] rfl ?_
              exact ih_39 (k + 1) 0 (by omega) (Or.inr ⟨rfl, fun h => by
                  rcases hh with q | q
                  · have h9 := h k (by omega) (by omega)
                    first | omega | exact absurd h9.1 (by assumption) | exact absurd h9.2 (by assumption)
                  · exact q.2 (fun j hj => h j (by omega))⟩) (by omega)
        · refine g_aload_n 0 dX7_common_64 rfl rfl ?_
          refine g_getf 0 (.ref (a 13)) fX7_47 om_0 dX7_common_65 rfl ?_
          refine g_bipush dX7_common_68 rfl ?_
          refine g_iload_n 2 dX7_common_70 rfl rfl ?_
          refine g_imul dX7_common_71 ?_
          refine g_iload 4 dX7_common_72 rfl ?_
          refine g_iadd dX7_common_74 ?_
          refine g_iald 13 (10 * n + k) am_13 dX7_common_75 (by omega) (by omega) ?_
          refine g_top (show _ = V 13 (10 * n + k) from by rw [eV_3, up_ne (by omega)]) ?_
          refine g_iconst dX7_common_76 ?_
          refine g_icmp_eq 84 dX7_common_77 (by decide) (fun c_15 => ?_) (fun c_15 => ?_)
          · refine g_iconst dX7_common_84 ?_
            refine g_istore [(5, .int (iN 0)), (0, .ref (a 0)), (1, .int (iN (m : Int))), (2, .int (iN (n : Int))), (3, .int (iN b)), (4, .int (iN (k : Int)))] dX7_common_85 (by decide) rfl ?_
            refine g_iload_n 4 dX7_common_87 rfl rfl ?_
            refine g_if_eq 120 dX7_common_88 (by decide) (fun c_16 => ?_) (fun c_16 => ?_)
            · refine g_iconst dX7_common_120 ?_
              refine g_istore_n [(3, .int (iN 0)), (5, .int (iN 0)), (0, .ref (a 0)), (1, .int (iN (m : Int))), (2, .int (iN (n : Int))), (4, .int (iN (k : Int)))] dX7_common_121 rfl (by decide) rfl ?_
              refine g_iinc 5 [(4, .int (iN ((k : Int) + 1))), (3, .int (iN 0)), (5, .int (iN 0)), (0, .ref (a 0)), (1, .int (iN (m : Int))), (2, .int (iN (n : Int)))] dX7_common_122 rfl (by decide) rfl ?_
              refine g_goto 39 dX7_common_125 (by decide) ?_
              refine g_lv [3, 4, 5, 1, 0] rfl ?_
              exact ih_39 (k + 1) 0 (by omega) (Or.inr ⟨rfl, fun h => by
                  rcases hh with q | q
                  · have h9 := h k (by omega) (by omega)
                    first | omega | exact absurd h9.1 (by assumption) | exact absurd h9.2 (by assumption)
                  · exact q.2 (fun j hj => h j (by omega))⟩) (by omega)
            · refine g_iload 0 dX7_common_91 rfl ?_
              refine g_if_eq 116 dX7_common_93 (by decide) (fun _ => ?_) (fun c_17 => absurd c_17 (by decide))
              refine g_iconst dX7_common_116 ?_
              refine g_goto 121 dX7_common_117 (by decide) ?_
              refine g_istore_n [(3, .int (iN 1)), (5, .int (iN 0)), (0, .ref (a 0)), (1, .int (iN (m : Int))), (2, .int (iN (n : Int))), (4, .int (iN (k : Int)))] dX7_common_121 rfl (by decide) rfl ?_
              refine g_iinc 5 [(4, .int (iN ((k : Int) + 1))), (3, .int (iN 1)), (5, .int (iN 0)), (0, .ref (a 0)), (1, .int (iN (m : Int))), (2, .int (iN (n : Int)))] dX7_common_122 rfl (by decide) rfl ?_
              refine g_goto 39 dX7_common_125 (by decide) ?_
              refine g_lv [3, 4, 5, 1, 0] rfl ?_
              exact ih_39 (k + 1) 1 (by omega) (Or.inl ⟨rfl, fun j hj => by
                  by_cases e : j = k
                  · subst e; intro hf; first | exact ⟨by assumption, by assumption⟩ | omega
                  · rcases hh with h | h; (· exact h.2 j (by omega)); (· omega)⟩) (by omega)
          · refine g_iconst dX7_common_80 ?_
            refine g_goto 85 dX7_common_81 (by decide) ?_
            refine g_istore [(5, .int (iN 1)), (0, .ref (a 0)), (1, .int (iN (m : Int))), (2, .int (iN (n : Int))), (3, .int (iN b)), (4, .int (iN (k : Int)))] dX7_common_85 (by decide) rfl ?_
            refine g_iload_n 4 dX7_common_87 rfl rfl ?_
            refine g_if_eq 120 dX7_common_88 (by decide) (fun c_18 => ?_) (fun c_18 => ?_)
            · refine g_iconst dX7_common_120 ?_
              refine g_istore_n [(3, .int (iN 0)), (5, .int (iN 1)), (0, .ref (a 0)), (1, .int (iN (m : Int))), (2, .int (iN (n : Int))), (4, .int (iN (k : Int)))] dX7_common_121 rfl (by decide) rfl ?_
              refine g_iinc 5 [(4, .int (iN ((k : Int) + 1))), (3, .int (iN 0)), (5, .int (iN 1)), (0, .ref (a 0)), (1, .int (iN (m : Int))), (2, .int (iN (n : Int)))] dX7_common_122 rfl (by decide) rfl ?_
              refine g_goto 39 dX7_common_125 (by decide) ?_
              refine g_lv [3, 4, 5, 1, 0] rfl ?_
              exact ih_39 (k + 1) 0 (by omega) (Or.inr ⟨rfl, fun h => by
                  rcases hh with q | q
                  · have h9 := h k (by omega) (by omega)
                    first | omega | exact absurd h9.1 (by assumption) | exact absurd h9.2 (by assumption)
                  · exact q.2 (fun j hj => h j (by omega))⟩) (by omega)
            · refine g_iload 0 dX7_common_91 rfl ?_
              refine g_if_eq 116 dX7_common_93 (by decide) (fun c_19 => absurd c_19 (by decide)) (fun _ => ?_)
              refine g_aload_n 1 dX7_common_96 rfl rfl ?_
              refine g_iload 5 dX7_common_97 rfl ?_
              refine g_iload_n 2 dX7_common_99 rfl rfl ?_
              refine g_callI (k := 0) [.int (iN (k : Int)), .int (iN (m : Int))] (met_X7_mayGo (V := V_3) ha k m hok1 (by omega) (by omega)) vX7_112 om_0 rfl rfl ⟨rfl, rfl, Nat.le_of_ble_eq_true rfl, Nat.le_of_ble_eq_true rfl⟩ rfl (Nat.le_of_ble_eq_true rfl) dX7_common_100 rfl ?_
              rintro z9 V9 ⟨hp9, hV9⟩
              replace hV9 := hV9.symm
              subst hV9
              rw [z11, z2] at hp9
              rcases hp9 with ⟨hz9, b_20⟩ | ⟨hz9, b_20⟩
              · subst hz9
                refine g_if_eq 120 dX7_common_103 (by decide) (fun c_21 => absurd c_21 (by decide)) (fun _ => ?_)
                refine g_aload_n 1 dX7_common_106 rfl rfl ?_
                refine g_iload 5 dX7_common_107 rfl ?_
                refine g_iload_n 3 dX7_common_109 rfl rfl ?_
                refine g_callI (k := 0) [.int (iN (k : Int)), .int (iN (n : Int))] (met_X7_mayGo (V := V_3) ha k n hok1 (by omega) (by omega)) vX7_112 om_0 rfl rfl ⟨rfl, rfl, Nat.le_of_ble_eq_true rfl, Nat.le_of_ble_eq_true rfl⟩ rfl (Nat.le_of_ble_eq_true rfl) dX7_common_110 rfl ?_
                rintro z9 V9 ⟨hp9, hV9⟩
                replace hV9 := hV9.symm
                subst hV9
                rw [z11, z2] at hp9
                rcases hp9 with ⟨hz9, b_22⟩ | ⟨hz9, b_22⟩
                · subst hz9
                  refine g_if_eq 120 dX7_common_113 (by decide) (fun c_23 => absurd c_23 (by decide)) (fun _ => ?_)
                  refine g_iconst dX7_common_116 ?_
                  refine g_goto 121 dX7_common_117 (by decide) ?_
                  refine g_istore_n [(3, .int (iN 1)), (5, .int (iN 1)), (0, .ref (a 0)), (1, .int (iN (m : Int))), (2, .int (iN (n : Int))), (4, .int (iN (k : Int)))] dX7_common_121 rfl (by decide) rfl ?_
                  refine g_iinc 5 [(4, .int (iN ((k : Int) + 1))), (3, .int (iN 1)), (5, .int (iN 1)), (0, .ref (a 0)), (1, .int (iN (m : Int))), (2, .int (iN (n : Int)))] dX7_common_122 rfl (by decide) rfl ?_
                  refine g_goto 39 dX7_common_125 (by decide) ?_
                  refine g_lv [3, 4, 5, 1, 0] rfl ?_
                  exact ih_39 (k + 1) 1 (by omega) (Or.inl ⟨rfl, fun j hj => by
                      by_cases e : j = k
                      · subst e; intro hf; first | exact ⟨by assumption, by assumption⟩ | omega
                      · rcases hh with h | h; (· exact h.2 j (by omega)); (· omega)⟩) (by omega)
                · subst hz9
                  refine g_if_eq 120 dX7_common_113 (by decide) (fun _ => ?_) (fun c_24 => absurd c_24 (by decide))
                  refine g_iconst dX7_common_120 ?_
                  refine g_istore_n [(3, .int (iN 0)), (5, .int (iN 1)), (0, .ref (a 0)), (1, .int (iN (m : Int))), (2, .int (iN (n : Int))), (4, .int (iN (k : Int)))] dX7_common_121 rfl (by decide) rfl ?_
                  refine g_iinc 5 [(4, .int (iN ((k : Int) + 1))), (3, .int (iN 0)), (5, .int (iN 1)), (0, .ref (a 0)), (1, .int (iN (m : Int))), (2, .int (iN (n : Int)))] dX7_common_122 rfl (by decide) rfl ?_
                  refine g_goto 39 dX7_common_125 (by decide) ?_
                  refine g_lv [3, 4, 5, 1, 0] rfl ?_
                  exact ih_39 (k + 1) 0 (by omega) (Or.inr ⟨rfl, fun h => by
                      rcases hh with q | q
                      · have h9 := h k (by omega) (by omega)
                        first | omega | exact absurd h9.1 (by assumption) | exact absurd h9.2 (by assumption)
                      · exact q.2 (fun j hj => h j (by omega))⟩) (by omega)
              · subst hz9
                refine g_if_eq 120 dX7_common_103 (by decide) (fun _ => ?_) (fun c_25 => absurd c_25 (by decide))
                refine g_iconst dX7_common_120 ?_
                refine g_istore_n [(3, .int (iN 0)), (5, .int (iN 1)), (0, .ref (a 0)), (1, .int (iN (m : Int))), (2, .int (iN (n : Int))), (4, .int (iN (k : Int)))] dX7_common_121 rfl (by decide) rfl ?_
                refine g_iinc 5 [(4, .int (iN ((k : Int) + 1))), (3, .int (iN 0)), (5, .int (iN 1)), (0, .ref (a 0)), (1, .int (iN (m : Int))), (2, .int (iN (n : Int)))] dX7_common_122 rfl (by decide) rfl ?_
                refine g_goto 39 dX7_common_125 (by decide) ?_
                refine g_lv [3, 4, 5, 1, 0] rfl ?_
                exact ih_39 (k + 1) 0 (by omega) (Or.inr ⟨rfl, fun h => by
                    rcases hh with q | q
                    · have h9 := h k (by omega) (by omega)
                      first | omega | exact absurd h9.1 (by assumption) | exact absurd h9.2 (by assumption)
                    · exact q.2 (fun j hj => h j (by omega))⟩) (by omega)
  refine g_lv [2, 3, 4, 1, 0] rfl ?_
  exact lp_39 _ 0 1 (Nat.zero_le _) (Or.inl ⟨rfl, fun j h => absurd h (Nat.not_lt_zero _)⟩) (Nat.lt_succ_self _)

set_option maxHeartbeats 4000000 in
theorem met_X7_common_b1 {l : Launch} {D : va_G} {τ : Nat → ClassId} {a : Nat → Nat} (ha : Apart (LM τ) a) {V : Mem} (m n : Int) (hok : okR V) (hm0 : -2147483648 ≤ m ∧ m ≤ 2147483647) (hn0 : -2147483648 ≤ n ∧ n ≤ 2147483647) (hb : ¬ (0 ≤ m ∧ m < V 0 15 ∧ 0 ≤ n ∧ n < V 0 15)) : CI l D (tysL τ) (LM τ) a yX7_common mX7_common [.ref (a 0), .int (iN m), .int (iN n)] V (fun z V' => V' = up V 0 0 1) := by
  refine CI.of (by decide +kernel) rfl (Nat.le_of_ble_eq_true rfl) ha (fun x hq => ?_)
  show G l D (tysL τ) (LM τ) a mX7_common x 0 [(0, .ref (a 0)), (1, .int (iN m)), (2, .int (iN n))] [] V
  obtain ⟨r2, r3, r10, r15, r18, q1, q1k, q2, q3, q4, q5, q6, q7, q7k, q8, q9, q10, q11, q12, q14, qr, qf⟩ := id hok
  refine g_aload_n 0 dX7_common_0 rfl rfl ?_
  refine g_aload_n 0 dX7_common_1 rfl rfl ?_
  refine g_iload_n 1 dX7_common_2 rfl rfl ?_
  refine g_callI (k := 0) [.int (iN m)] (met_X7_isMachine ha m hok (by omega)) vX7_216 om_0 rfl rfl ⟨rfl, rfl, Nat.le_of_ble_eq_true rfl, Nat.le_of_ble_eq_true rfl⟩ rfl (Nat.le_of_ble_eq_true rfl) dX7_common_3 rfl ?_
  rintro z9 V9 ⟨hp9, hV9⟩
  replace hV9 := hV9.symm
  subst hV9
  rcases hp9 with ⟨hz9, b_1⟩ | ⟨hz9, b_1⟩
  · subst hz9
    refine g_if_eq 21 dX7_common_6 (by decide) (fun c_2 => absurd c_2 (by decide)) (fun _ => ?_)
    refine g_aload_n 0 dX7_common_9 rfl rfl ?_
    refine g_iload_n 2 dX7_common_10 rfl rfl ?_
    refine g_callI (k := 0) [.int (iN n)] (met_X7_isMachine ha n hok (by omega)) vX7_216 om_0 rfl rfl ⟨rfl, rfl, Nat.le_of_ble_eq_true rfl, Nat.le_of_ble_eq_true rfl⟩ rfl (Nat.le_of_ble_eq_true rfl) dX7_common_11 rfl ?_
    rintro z9 V9 ⟨hp9, hV9⟩
    replace hV9 := hV9.symm
    subst hV9
    rcases hp9 with ⟨hz9, b_3⟩ | ⟨hz9, b_3⟩
    · subst hz9
      refine g_if_eq 21 dX7_common_14 (by decide) (fun c_4 => absurd c_4 (by decide)) (fun _ => ?_)
      omega
    · subst hz9
      refine g_if_eq 21 dX7_common_14 (by decide) (fun _ => ?_) (fun c_5 => absurd c_5 (by decide))
      refine g_iconst dX7_common_21 ?_
      refine g_putf 0 (v := 1) (.int (iN 1)) pX7_83 om_0 dX7_common_22 rfl rfl (Nat.le_of_ble_eq_true rfl) rfl ?_
      obtain ⟨V_6, eV_6⟩ : ∃ V9 : Mem, V9 = up V 0 0 1 := ⟨_, rfl⟩
      refine g_mem eV_6.symm ?_
      refine g_aload_n 0 dX7_common_25 rfl rfl ?_
      refine g_getf 0 (.int (iN (V_6 0 0))) fX7_83 om_0 dX7_common_26 rfl ?_
      refine g_top (show _ = 1 from by rw [eV_6, up_eq]) ?_
      refine g_if_eq 34 dX7_common_29 (by decide) (fun c_7 => absurd c_7 (by decide)) (fun _ => ?_)
      refine g_iconst dX7_common_32 ?_
      exact g_iret hq rfl rfl dX7_common_33 (by rw [eV_6])
  · subst hz9
    refine g_if_eq 21 dX7_common_6 (by decide) (fun _ => ?_) (fun c_8 => absurd c_8 (by decide))
    refine g_iconst dX7_common_21 ?_
    refine g_putf 0 (v := 1) (.int (iN 1)) pX7_83 om_0 dX7_common_22 rfl rfl (Nat.le_of_ble_eq_true rfl) rfl ?_
    obtain ⟨V_9, eV_9⟩ : ∃ V9 : Mem, V9 = up V 0 0 1 := ⟨_, rfl⟩
    refine g_mem eV_9.symm ?_
    refine g_aload_n 0 dX7_common_25 rfl rfl ?_
    refine g_getf 0 (.int (iN (V_9 0 0))) fX7_83 om_0 dX7_common_26 rfl ?_
    refine g_top (show _ = 1 from by rw [eV_9, up_eq]) ?_
    refine g_if_eq 34 dX7_common_29 (by decide) (fun c_10 => absurd c_10 (by decide)) (fun _ => ?_)
    refine g_iconst dX7_common_32 ?_
    exact g_iret hq rfl rfl dX7_common_33 (by rw [eV_9])

set_option maxHeartbeats 4000000 in
/-- fixed(k, s) -/
theorem met_X7_fixed {l : Launch} {D : va_G} {τ : Nat → ClassId} {a : Nat → Nat} (ha : Apart (LM τ) a) {V : Mem} (k : Nat) (s0 : Int) (hok : okR V) (hk : (k : Int) < V 0 3) (hs : 0 ≤ s0 ∧ s0 < V 0 2) : CI l D (tysL τ) (LM τ) a yX7_fixed mX7_fixed [.ref (a 0), .int (iN (k : Int)), .int (iN s0)] V (fun z V' => (z = 1 ∧ (V 3 k = -1 ∧ s0 + V 1 k ≤ V 0 2 ∧ free (V 3) (V 1) (V 0 3).toNat s0 (V 1 k)) ∧ V' = up (up V 0 0 0) 3 k s0) ∨ (z = 0 ∧ ¬ (V 3 k = -1 ∧ s0 + V 1 k ≤ V 0 2 ∧ free (V 3) (V 1) (V 0 3).toNat s0 (V 1 k)) ∧ V' = up V 0 0 0)) := by
  refine CI.of (by decide +kernel) rfl (Nat.le_of_ble_eq_true rfl) ha (fun x hq => ?_)
  show G l D (tysL τ) (LM τ) a mX7_fixed x 0 [(0, .ref (a 0)), (1, .int (iN (k : Int))), (2, .int (iN s0))] [] V
  obtain ⟨r2, r3, r10, r15, r18, q1, q1k, q2, q3, q4, q5, q6, q7, q7k, q8, q9, q10, q11, q12, q14, qr, qf⟩ := id hok
  have q1k0 := q1 k (by omega)
  have q3k := q3 k (by omega)
  refine g_aload_n 0 dX7_fixed_0 rfl rfl ?_
  refine g_aload_n 0 dX7_fixed_1 rfl rfl ?_
  refine g_iload_n 1 dX7_fixed_2 rfl rfl ?_
  refine g_callI (k := 0) [.int (iN (k : Int))] (met_X7_isKind ha (k : Int) hok (by omega)) vX7_97 om_0 rfl rfl ⟨rfl, rfl, Nat.le_of_ble_eq_true rfl, Nat.le_of_ble_eq_true rfl⟩ rfl (Nat.le_of_ble_eq_true rfl) dX7_fixed_3 rfl ?_
  rintro z9 V9 ⟨hp9, hV9⟩
  replace hV9 := hV9.symm
  subst hV9
  have hz9 : 1 = z9 := by omega
  subst hz9
  refine g_if_eq 25 dX7_fixed_6 (by decide) (fun c_1 => absurd c_1 (by decide)) (fun _ => ?_)
  refine g_iload_n 2 dX7_fixed_9 rfl rfl ?_
  refine g_if_lt 25 dX7_fixed_10 (by decide) (fun c_2 => ?_) (fun c_2 => ?_)
  · omega
  · refine g_iload_n 2 dX7_fixed_13 rfl rfl ?_
    refine g_aload_n 0 dX7_fixed_14 rfl rfl ?_
    refine g_getf 0 (.int (iN (V 0 2))) fX7_79 om_0 dX7_fixed_15 rfl ?_
    refine g_icmp_ge 25 dX7_fixed_18 (by decide) (fun c_3 => ?_) (fun c_3 => ?_)
    · omega
    · refine g_iconst dX7_fixed_21 ?_
      refine g_goto 26 dX7_fixed_22 (by decide) ?_
      refine g_putf 0 (v := 0) (.int (iN 0)) pX7_83 om_0 dX7_fixed_26 rfl rfl (Nat.le_of_ble_eq_true rfl) rfl ?_
      obtain ⟨V_4, eV_4⟩ : ∃ V9 : Mem, V9 = up V 0 0 0 := ⟨_, rfl⟩
      refine g_mem eV_4.symm ?_
      refine g_aload_n 0 dX7_fixed_29 rfl rfl ?_
      refine g_getf 0 (.int (iN (V_4 0 0))) fX7_83 om_0 dX7_fixed_30 rfl ?_
      refine g_top (show _ = 0 from by rw [eV_4, up_eq]) ?_
      refine g_if_ne 61 dX7_fixed_33 (by decide) (fun c_5 => absurd c_5 (by decide)) (fun _ => ?_)
      refine g_aload_n 0 dX7_fixed_36 rfl rfl ?_
      refine g_getf 0 (.ref (a 3)) fX7_16 om_0 dX7_fixed_37 rfl ?_
      refine g_iload_n 1 dX7_fixed_40 rfl rfl ?_
      refine g_iald 3 k am_3 dX7_fixed_41 rfl (by omega) ?_
      refine g_top (show _ = V 3 k from by rw [eV_4, up_ne (by omega)]) ?_
      refine g_iconst dX7_fixed_42 ?_
      refine g_icmp_ne 61 dX7_fixed_43 (by decide) (fun c_6 => ?_) (fun c_6 => ?_)
      · refine g_iconst dX7_fixed_61 ?_
        exact g_iret hq rfl rfl dX7_fixed_62 (Or.inr ⟨rfl, fun h => by first | omega | exact h.2.2 j (by omega) (by omega), by rw [eV_4]⟩)
      · refine g_iload_n 2 dX7_fixed_46 rfl rfl ?_
        refine g_aload_n 0 dX7_fixed_47 rfl rfl ?_
        refine g_getf 0 (.ref (a 1)) fX7_7 om_0 dX7_fixed_48 rfl ?_
        refine g_iload_n 1 dX7_fixed_51 rfl rfl ?_
        refine g_iald 1 k am_1 dX7_fixed_52 rfl (by omega) ?_
        refine g_top (show _ = V 1 k from by rw [eV_4, up_ne (by omega)]) ?_
        refine g_iadd dX7_fixed_53 ?_
        refine g_aload_n 0 dX7_fixed_54 rfl rfl ?_
        refine g_getf 0 (.int (iN (V_4 0 2))) fX7_79 om_0 dX7_fixed_55 rfl ?_
        refine g_top (show _ = V 0 2 from by rw [eV_4, up_ne (by omega)]) ?_
        refine g_icmp_le 63 dX7_fixed_58 (by decide) (fun c_7 => ?_) (fun c_7 => ?_)
        · refine g_iconst dX7_fixed_63 ?_
          refine g_istore_n [(3, .int (iN 0)), (0, .ref (a 0)), (1, .int (iN (k : Int))), (2, .int (iN s0))] dX7_fixed_64 rfl (by decide) rfl ?_
          have lp_65 : ∀ (fuel : Nat) (j : Nat), ((j : Int) ≤ V 0 3) → (free (V 3) (V 1) j s0 (V 1 k)) → ((V 0 3).toNat - j) < fuel → G l D (tysL τ) (LM τ) a mX7_fixed x 65 [(0, .ref (a 0)), (1, .int (iN (k : Int))), (2, .int (iN s0)), (3, .int (iN (j : Int)))] [] V_4 := by
            intro fuel
            induction fuel with
            | zero => intro j hj hfr hfu; exact absurd hfu (Nat.not_lt_zero _)
            | succ fuel ih_65 =>
              intro j hj hfr hfu
              have q1j := q1 j
              have q3j := q3 j
              refine g_iload_n 3 dX7_fixed_65 rfl rfl ?_
              refine g_aload_n 0 dX7_fixed_66 rfl rfl ?_
              refine g_getf 0 (.int (iN (V_4 0 3))) fX7_86 om_0 dX7_fixed_67 rfl ?_
              refine g_top (show _ = V 0 3 from by rw [eV_4, up_ne (by omega)]) ?_
              refine g_icmp_ge 137 dX7_fixed_70 (by decide) (fun c_8 => ?_) (fun c_8 => ?_)
              · refine g_aload_n 0 dX7_fixed_137 rfl rfl ?_
                refine g_getf 0 (.ref (a 3)) fX7_16 om_0 dX7_fixed_138 rfl ?_
                refine g_iload_n 1 dX7_fixed_141 rfl rfl ?_
                refine g_iload_n 2 dX7_fixed_142 rfl rfl ?_
                refine g_iast 3 k am_3 dX7_fixed_143 rfl (by omega) ?_
                obtain ⟨V_9, eV_9⟩ : ∃ V9 : Mem, V9 = up V_4 3 k s0 := ⟨_, rfl⟩
                refine g_mem eV_9.symm ?_
                refine g_iconst dX7_fixed_144 ?_
                exact g_iret hq rfl rfl dX7_fixed_145 (Or.inl ⟨rfl, ⟨by omega, by omega, by rw [show (V 0 3).toNat = j by omega]; exact hfr⟩, by rw [eV_9, eV_4]⟩)
              · refine g_aload_n 0 dX7_fixed_73 rfl rfl ?_
                refine g_getf 0 (.ref (a 3)) fX7_16 om_0 dX7_fixed_74 rfl ?_
                refine g_iload_n 3 dX7_fixed_77 rfl rfl ?_
                refine g_iald 3 j am_3 dX7_fixed_78 rfl (by omega) ?_
                refine g_top (show _ = V 3 j from by rw [eV_4, up_ne (by omega)]) ?_
                refine g_iconst dX7_fixed_79 ?_
                refine g_icmp_eq 121 dX7_fixed_80 (by decide) (fun c_10 => ?_) (fun c_10 => ?_)
                · refine g_iconst dX7_fixed_121 ?_
                  refine g_istore [(4, .int (iN 0)), (0, .ref (a 0)), (1, .int (iN (k : Int))), (2, .int (iN s0)), (3, .int (iN (j : Int)))] dX7_fixed_122 (by decide) rfl ?_
                  refine g_iload 0 dX7_fixed_124 rfl ?_
                  refine g_if_eq 131 dX7_fixed_126 (by decide) (fun _ => ?_) (fun c_11 => absurd c_11 (by decide))
                  refine g_iinc 4 [(3, .int (iN ((j : Int) + 1))), (4, .int (iN 0)), (0, .ref (a 0)), (1, .int (iN (k : Int))), (2, .int (iN s0))] dX7_fixed_131 rfl (by decide) rfl ?_
                  refine g_goto 65 dX7_fixed_134 (by decide) ?_
                  refine g_lv [2, 3, 4, 0] rfl ?_
                  exact ih_65 (j + 1) (by omega) (free_s hfr (by omega)) (by omega)
                · refine g_aload_n 0 dX7_fixed_83 rfl rfl ?_
                  refine g_getf 0 (.ref (a 3)) fX7_16 om_0 dX7_fixed_84 rfl ?_
                  refine g_iload_n 3 dX7_fixed_87 rfl rfl ?_
                  refine g_iald 3 j am_3 dX7_fixed_88 rfl (by omega) ?_
                  refine g_top (show _ = V 3 j from by rw [eV_4, up_ne (by omega)]) ?_
                  refine g_iload_n 2 dX7_fixed_89 rfl rfl ?_
                  refine g_aload_n 0 dX7_fixed_90 rfl rfl ?_
                  refine g_getf 0 (.ref (a 1)) fX7_7 om_0 dX7_fixed_91 rfl ?_
                  refine g_iload_n 1 dX7_fixed_94 rfl rfl ?_
                  refine g_iald 1 k am_1 dX7_fixed_95 rfl (by omega) ?_
                  refine g_top (show _ = V 1 k from by rw [eV_4, up_ne (by omega)]) ?_
                  refine g_iadd dX7_fixed_96 ?_
                  refine g_icmp_ge 121 dX7_fixed_97 (by decide) (fun c_12 => ?_) (fun c_12 => ?_)
                  · refine g_iconst dX7_fixed_121 ?_
                    refine g_istore [(4, .int (iN 0)), (0, .ref (a 0)), (1, .int (iN (k : Int))), (2, .int (iN s0)), (3, .int (iN (j : Int)))] dX7_fixed_122 (by decide) rfl ?_
                    refine g_iload 0 dX7_fixed_124 rfl ?_
                    refine g_if_eq 131 dX7_fixed_126 (by decide) (fun _ => ?_) (fun c_13 => absurd c_13 (by decide))
                    refine g_iinc 4 [(3, .int (iN ((j : Int) + 1))), (4, .int (iN 0)), (0, .ref (a 0)), (1, .int (iN (k : Int))), (2, .int (iN s0))] dX7_fixed_131 rfl (by decide) rfl ?_
                    refine g_goto 65 dX7_fixed_134 (by decide) ?_
                    refine g_lv [2, 3, 4, 0] rfl ?_
                    exact ih_65 (j + 1) (by omega) (free_s hfr (by omega)) (by omega)
                  · refine g_iload_n 2 dX7_fixed_100 rfl rfl ?_
                    refine g_aload_n 0 dX7_fixed_101 rfl rfl ?_
                    refine g_getf 0 (.ref (a 3)) fX7_16 om_0 dX7_fixed_102 rfl ?_
                    refine g_iload_n 3 dX7_fixed_105 rfl rfl ?_
                    refine g_iald 3 j am_3 dX7_fixed_106 rfl (by omega) ?_
                    refine g_top (show _ = V 3 j from by rw [eV_4, up_ne (by omega)]) ?_
                    refine g_aload_n 0 dX7_fixed_107 rfl rfl ?_
                    refine g_getf 0 (.ref (a 1)) fX7_7 om_0 dX7_fixed_108 rfl ?_
                    refine g_iload_n 3 dX7_fixed_111 rfl rfl ?_
                    refine g_iald 1 j am_1 dX7_fixed_112 rfl (by omega) ?_
                    refine g_top (show _ = V 1 j from by rw [eV_4, up_ne (by omega)]) ?_
                    refine g_iadd dX7_fixed_113 ?_
                    refine g_icmp_ge 121 dX7_fixed_114 (by decide) (fun c_14 => ?_) (fun c_14 => ?_)
                    · refine g_iconst dX7_fixed_121 ?_
                      refine g_istore [(4, .int (iN 0)), (0, .ref (a 0)), (1, .int (iN (k : Int))), (2, .int (iN s0)), (3, .int (iN (j : Int)))] dX7_fixed_122 (by decide) rfl ?_
                      refine g_iload 0 dX7_fixed_124 rfl ?_
                      refine g_if_eq 131 dX7_fixed_126 (by decide) (fun _ => ?_) (fun c_15 => absurd c_15 (by decide))
                      refine g_iinc 4 [(3, .int (iN ((j : Int) + 1))), (4, .int (iN 0)), (0, .ref (a 0)), (1, .int (iN (k : Int))), (2, .int (iN s0))] dX7_fixed_131 rfl (by decide) rfl ?_
                      refine g_goto 65 dX7_fixed_134 (by decide) ?_
                      refine g_lv [2, 3, 4, 0] rfl ?_
                      exact ih_65 (j + 1) (by omega) (free_s hfr (by omega)) (by omega)
                    · refine g_iconst dX7_fixed_117 ?_
                      refine g_goto 122 dX7_fixed_118 (by decide) ?_
                      refine g_istore [(4, .int (iN 1)), (0, .ref (a 0)), (1, .int (iN (k : Int))), (2, .int (iN s0)), (3, .int (iN (j : Int)))] dX7_fixed_122 (by decide) rfl ?_
                      refine g_iload 0 dX7_fixed_124 rfl ?_
                      refine g_if_eq 131 dX7_fixed_126 (by decide) (fun c_16 => absurd c_16 (by decide)) (fun _ => ?_)
                      refine g_iconst dX7_fixed_129 ?_
                      exact g_iret hq rfl rfl dX7_fixed_130 (Or.inr ⟨rfl, fun h => by first | omega | exact h.2.2 j (by omega) (by omega), by rw [eV_4]⟩)
          refine g_lv [1, 2, 3, 0] rfl ?_
          exact lp_65 _ 0 (by omega) (fun j h => absurd h (Nat.not_lt_zero _)) (Nat.lt_succ_self _)
        · refine g_iconst dX7_fixed_61 ?_
          exact g_iret hq rfl rfl dX7_fixed_62 (Or.inr ⟨rfl, fun h => by first | omega | exact h.2.2 j (by omega) (by omega), by rw [eV_4]⟩)

set_option maxHeartbeats 4000000 in
theorem met_X7_fixed_b1 {l : Launch} {D : va_G} {τ : Nat → ClassId} {a : Nat → Nat} (ha : Apart (LM τ) a) {V : Mem} (k s0 : Int) (hok : okR V) (hk0 : -2147483648 ≤ k ∧ k ≤ 2147483647) (hs0 : -2147483648 ≤ s0 ∧ s0 ≤ 2147483647) (hb : ¬ (0 ≤ k ∧ k < V 0 3 ∧ 0 ≤ s0 ∧ s0 < V 0 2)) : CI l D (tysL τ) (LM τ) a yX7_fixed mX7_fixed [.ref (a 0), .int (iN k), .int (iN s0)] V (fun z V' => V' = up V 0 0 1) := by
  refine CI.of (by decide +kernel) rfl (Nat.le_of_ble_eq_true rfl) ha (fun x hq => ?_)
  show G l D (tysL τ) (LM τ) a mX7_fixed x 0 [(0, .ref (a 0)), (1, .int (iN k)), (2, .int (iN s0))] [] V
  obtain ⟨r2, r3, r10, r15, r18, q1, q1k, q2, q3, q4, q5, q6, q7, q7k, q8, q9, q10, q11, q12, q14, qr, qf⟩ := id hok
  refine g_aload_n 0 dX7_fixed_0 rfl rfl ?_
  refine g_aload_n 0 dX7_fixed_1 rfl rfl ?_
  refine g_iload_n 1 dX7_fixed_2 rfl rfl ?_
  refine g_callI (k := 0) [.int (iN k)] (met_X7_isKind ha k hok (by omega)) vX7_97 om_0 rfl rfl ⟨rfl, rfl, Nat.le_of_ble_eq_true rfl, Nat.le_of_ble_eq_true rfl⟩ rfl (Nat.le_of_ble_eq_true rfl) dX7_fixed_3 rfl ?_
  rintro z9 V9 ⟨hp9, hV9⟩
  replace hV9 := hV9.symm
  subst hV9
  rcases hp9 with ⟨hz9, b_1⟩ | ⟨hz9, b_1⟩
  · subst hz9
    refine g_if_eq 25 dX7_fixed_6 (by decide) (fun c_2 => absurd c_2 (by decide)) (fun _ => ?_)
    refine g_iload_n 2 dX7_fixed_9 rfl rfl ?_
    refine g_if_lt 25 dX7_fixed_10 (by decide) (fun c_3 => ?_) (fun c_3 => ?_)
    · refine g_iconst dX7_fixed_25 ?_
      refine g_putf 0 (v := 1) (.int (iN 1)) pX7_83 om_0 dX7_fixed_26 rfl rfl (Nat.le_of_ble_eq_true rfl) rfl ?_
      obtain ⟨V_4, eV_4⟩ : ∃ V9 : Mem, V9 = up V 0 0 1 := ⟨_, rfl⟩
      refine g_mem eV_4.symm ?_
      refine g_aload_n 0 dX7_fixed_29 rfl rfl ?_
      refine g_getf 0 (.int (iN (V_4 0 0))) fX7_83 om_0 dX7_fixed_30 rfl ?_
      refine g_top (show _ = 1 from by rw [eV_4, up_eq]) ?_
      refine g_if_ne 61 dX7_fixed_33 (by decide) (fun _ => ?_) (fun c_5 => absurd c_5 (by decide))
      refine g_iconst dX7_fixed_61 ?_
      exact g_iret hq rfl rfl dX7_fixed_62 (by rw [eV_4])
    · refine g_iload_n 2 dX7_fixed_13 rfl rfl ?_
      refine g_aload_n 0 dX7_fixed_14 rfl rfl ?_
      refine g_getf 0 (.int (iN (V 0 2))) fX7_79 om_0 dX7_fixed_15 rfl ?_
      refine g_icmp_ge 25 dX7_fixed_18 (by decide) (fun c_6 => ?_) (fun c_6 => ?_)
      · refine g_iconst dX7_fixed_25 ?_
        refine g_putf 0 (v := 1) (.int (iN 1)) pX7_83 om_0 dX7_fixed_26 rfl rfl (Nat.le_of_ble_eq_true rfl) rfl ?_
        obtain ⟨V_7, eV_7⟩ : ∃ V9 : Mem, V9 = up V 0 0 1 := ⟨_, rfl⟩
        refine g_mem eV_7.symm ?_
        refine g_aload_n 0 dX7_fixed_29 rfl rfl ?_
        refine g_getf 0 (.int (iN (V_7 0 0))) fX7_83 om_0 dX7_fixed_30 rfl ?_
        refine g_top (show _ = 1 from by rw [eV_7, up_eq]) ?_
        refine g_if_ne 61 dX7_fixed_33 (by decide) (fun _ => ?_) (fun c_8 => absurd c_8 (by decide))
        refine g_iconst dX7_fixed_61 ?_
        exact g_iret hq rfl rfl dX7_fixed_62 (by rw [eV_7])
      · omega
  · subst hz9
    refine g_if_eq 25 dX7_fixed_6 (by decide) (fun _ => ?_) (fun c_9 => absurd c_9 (by decide))
    refine g_iconst dX7_fixed_25 ?_
    refine g_putf 0 (v := 1) (.int (iN 1)) pX7_83 om_0 dX7_fixed_26 rfl rfl (Nat.le_of_ble_eq_true rfl) rfl ?_
    obtain ⟨V_10, eV_10⟩ : ∃ V9 : Mem, V9 = up V 0 0 1 := ⟨_, rfl⟩
    refine g_mem eV_10.symm ?_
    refine g_aload_n 0 dX7_fixed_29 rfl rfl ?_
    refine g_getf 0 (.int (iN (V_10 0 0))) fX7_83 om_0 dX7_fixed_30 rfl ?_
    refine g_top (show _ = 1 from by rw [eV_10, up_eq]) ?_
    refine g_if_ne 61 dX7_fixed_33 (by decide) (fun _ => ?_) (fun c_11 => absurd c_11 (by decide))
    refine g_iconst dX7_fixed_61 ?_
    exact g_iret hq rfl rfl dX7_fixed_62 (by rw [eV_10])
