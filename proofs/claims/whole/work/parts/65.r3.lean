set_option maxHeartbeats 4000000 in
/-- partsOf(k) -/
theorem met_X7_partsOf {l : Launch} {D : va_G} {τ : Nat → ClassId} {a : Nat → Nat} (ha : Apart (LM τ) a) {V : Mem} (k : Int) (np : Nat) (hnp : V 0 10 = (np : Int)) (hok : okR V) (hk : -2147483648 ≤ k ∧ k ≤ 2147483647) : CI l D (tysL τ) (LM τ) a yX7_partsOf mX7_partsOf [.ref (a 0), .int (iN k)] V (fun z V' => z = cnt (V 7) k np ∧ V' = V) := by
  refine CI.of (by decide +kernel) rfl (Nat.le_of_ble_eq_true rfl) ha (fun x hq => ?_)
  show G l D (tysL τ) (LM τ) a mX7_partsOf x 0 [(0, .ref (a 0)), (1, .int (iN k))] [] V
  obtain ⟨r2, r3, r10, r15, r18, q1, q1k, q2, q3, q4, q5, q6, q7, q7k, q8, q9, q10, q11, q12, q14, qr, qf⟩ := id hok
  refine g_iconst dX7_partsOf_0 ?_
  refine g_istore_n [(2, .int (iN 0)), (0, .ref (a 0)), (1, .int (iN k))] dX7_partsOf_1 rfl (by decide) rfl ?_
  refine g_iconst dX7_partsOf_2 ?_
  refine g_istore_n [(3, .int (iN 0)), (2, .int (iN 0)), (0, .ref (a 0)), (1, .int (iN k))] dX7_partsOf_3 rfl (by decide) rfl ?_
  have lp_4 : ∀ (fuel : Nat) (p : Nat) (r : Int), (p ≤ np) → (r = cnt (V 7) k p) → (np - p) < fuel → G l D (tysL τ) (LM τ) a mX7_partsOf x 4 [(0, .ref (a 0)), (1, .int (iN k)), (2, .int (iN r)), (3, .int (iN (p : Int)))] [] V := by
    intro fuel
    induction fuel with
    | zero => intro p r hp hr hfu; exact absurd hfu (Nat.not_lt_zero _)
    | succ fuel ih_4 =>
      intro p r hp hr hfu
      have hvp := q7 p
      refine g_iload_n 3 dX7_partsOf_4 rfl rfl ?_
      refine g_aload_n 0 dX7_partsOf_5 rfl rfl ?_
      refine g_getf 0 (.int (iN (V 0 10))) fX7_89 om_0 dX7_partsOf_6 rfl ?_
      refine g_top (show V 0 10 = (np : Int) from hnp) ?_
      refine g_icmp_ge 36 dX7_partsOf_9 (by decide) (fun c_1 => ?_) (fun c_1 => ?_)
      · refine g_iload_n 2 dX7_partsOf_36 rfl rfl ?_
        exact g_iret hq rfl rfl dX7_partsOf_37 (⟨by rw [hr, show p = np by omega], rfl⟩)
      · refine g_iload_n 2 dX7_partsOf_12 rfl rfl ?_
        refine g_aload_n 0 dX7_partsOf_13 rfl rfl ?_
        refine g_getf 0 (.ref (a 7)) fX7_29 om_0 dX7_partsOf_14 rfl ?_
        refine g_iload_n 3 dX7_partsOf_17 rfl rfl ?_
        refine g_iald 7 p am_7 dX7_partsOf_18 rfl (by omega) ?_
        refine g_iload_n 1 dX7_partsOf_19 rfl rfl ?_
        refine g_icmp_ne 27 dX7_partsOf_20 (by decide) (fun c_2 => ?_) (fun c_2 => ?_)
        · refine g_iconst dX7_partsOf_27 ?_
          refine g_iadd dX7_partsOf_28 ?_
          refine g_istore_n [(2, .int (iN (r + 0))), (0, .ref (a 0)), (1, .int (iN k)), (3, .int (iN (p : Int)))] dX7_partsOf_29 rfl (by decide) rfl ?_
          refine g_iinc 3 [(3, .int (iN ((p : Int) + 1))), (2, .int (iN (r + 0))), (0, .ref (a 0)), (1, .int (iN k))] dX7_partsOf_30 rfl (by decide) rfl ?_
          refine g_goto 4 dX7_partsOf_33 (by decide) ?_
          refine g_lv [2, 3, 1, 0] rfl ?_
          exact ih_4 (p + 1) (r + 0) (by omega) (by rw [hr]; simp [cnt, *]) (by omega)
        · refine g_iconst dX7_partsOf_23 ?_
          refine g_goto 28 dX7_partsOf_24 (by decide) ?_
          refine g_iadd dX7_partsOf_28 ?_
          refine g_istore_n [(2, .int (iN (r + 1))), (0, .ref (a 0)), (1, .int (iN k)), (3, .int (iN (p : Int)))] dX7_partsOf_29 rfl (by decide) rfl ?_
          refine g_iinc 3 [(3, .int (iN ((p : Int) + 1))), (2, .int (iN (r + 1))), (0, .ref (a 0)), (1, .int (iN k))] dX7_partsOf_30 rfl (by decide) rfl ?_
          refine g_goto 4 dX7_partsOf_33 (by decide) ?_
          refine g_lv [2, 3, 1, 0] rfl ?_
          exact ih_4 (p + 1) (r + 1) (by omega) (by rw [hr]; simp [cnt, *]) (by omega)
  refine g_lv [2, 3, 1, 0] rfl ?_
  exact lp_4 _ 0 0 (by omega) rfl (Nat.lt_succ_self _)

set_option maxHeartbeats 4000000 in
/-- nextMachine(k, fr) -/
theorem met_X7_nextMachine {l : Launch} {D : va_G} {τ : Nat → ClassId} {a : Nat → Nat} (ha : Apart (LM τ) a) {V : Mem} (k fr us : Nat) (hus : V 0 18 = (us : Int)) (hok : okR V) (hk : k < 10) (hfr : fr ≤ 3) : CI l D (tysL τ) (LM τ) a yX7_nextMachine mX7_nextMachine [.ref (a 0), .int (iN (k : Int)), .int (iN (fr : Int))] V (fun z V' => isNx (rHas V k) us fr z ∧ V' = V) := by
  refine CI.of (by decide +kernel) rfl (Nat.le_of_ble_eq_true rfl) ha (fun x hq => ?_)
  show G l D (tysL τ) (LM τ) a mX7_nextMachine x 0 [(0, .ref (a 0)), (1, .int (iN (k : Int))), (2, .int (iN (fr : Int)))] [] V
  obtain ⟨r2, r3, r10, r15, r18, q1, q1k, q2, q3, q4, q5, q6, q7, q7k, q8, q9, q10, q11, q12, q14, qr, qf⟩ := id hok
  refine g_iload_n 2 dX7_nextMachine_0 rfl rfl ?_
  refine g_istore_n [(3, .int (iN (fr : Int))), (0, .ref (a 0)), (1, .int (iN (k : Int))), (2, .int (iN (fr : Int)))] dX7_nextMachine_1 rfl (by decide) rfl ?_
  have lp_2 : ∀ (fuel : Nat) (m : Nat), (fr ≤ m ∧ m ≤ 3) → (∀ j, fr ≤ j → j < m → rHas V k j = false) → (3 - m) < fuel → G l D (tysL τ) (LM τ) a mX7_nextMachine x 2 [(0, .ref (a 0)), (1, .int (iN (k : Int))), (2, .int (iN (fr : Int))), (3, .int (iN (m : Int)))] [] V := by
    intro fuel
    induction fuel with
    | zero => intro m hm hno hfu; exact absurd hfu (Nat.not_lt_zero _)
    | succ fuel ih_2 =>
      intro m hm hno hfu
      refine g_iload_n 3 dX7_nextMachine_2 rfl rfl ?_
      refine g_aload_n 0 dX7_nextMachine_3 rfl rfl ?_
      refine g_getf 0 (.int (iN (V 0 18))) fX7_109 om_0 dX7_nextMachine_4 rfl ?_
      refine g_top (show V 0 18 = (us : Int) from hus) ?_
      refine g_icmp_ge 27 dX7_nextMachine_7 (by decide) (fun c_1 => ?_) (fun c_1 => ?_)
      · refine g_iconst dX7_nextMachine_27 ?_
        exact g_iret hq rfl rfl dX7_nextMachine_28 (⟨Or.inl ⟨rfl, fun j h1 h2 => hno j h1 (by omega)⟩, rfl⟩)
      · refine g_aload_n 0 dX7_nextMachine_10 rfl rfl ?_
        refine g_iload_n 1 dX7_nextMachine_11 rfl rfl ?_
        refine g_iload_n 3 dX7_nextMachine_12 rfl rfl ?_
        refine g_callI (k := 0) [.int (iN (k : Int)), .int (iN (m : Int))] (met_X7_mayGo ha k m hok (by omega) (by omega)) vX7_112 om_0 rfl rfl ⟨rfl, rfl, Nat.le_of_ble_eq_true rfl, Nat.le_of_ble_eq_true rfl⟩ rfl (Nat.le_of_ble_eq_true rfl) dX7_nextMachine_13 rfl ?_
        rintro z9 V9 ⟨hp9, hV9⟩
        replace hV9 := hV9.symm
        subst hV9
        rcases hp9 with ⟨hz9, b_2⟩ | ⟨hz9, b_2⟩
        · subst hz9
          refine g_if_eq 21 dX7_nextMachine_16 (by decide) (fun c_3 => absurd c_3 (by decide)) (fun _ => ?_)
          refine g_iload_n 3 dX7_nextMachine_19 rfl rfl ?_
          exact g_iret hq rfl rfl dX7_nextMachine_20 (⟨Or.inr ⟨m, rfl, hm.1, by omega, decide_eq_true b_2, hno⟩, rfl⟩)
        · subst hz9
          refine g_if_eq 21 dX7_nextMachine_16 (by decide) (fun _ => ?_) (fun c_4 => absurd c_4 (by decide))
          refine g_iinc 3 [(3, .int (iN ((m : Int) + 1))), (0, .ref (a 0)), (1, .int (iN (k : Int))), (2, .int (iN (fr : Int)))] dX7_nextMachine_21 rfl (by decide) rfl ?_
          refine g_goto 2 dX7_nextMachine_24 (by decide) ?_
          refine g_lv [1, 2, 3, 0] rfl ?_
          exact ih_2 (m + 1) (by omega) (fun j h1 h2 => by
              by_cases e : j = m
              · subst e; exact decide_eq_false b_2
              · exact hno j h1 (by omega)) (by omega)
  refine g_lv [1, 2, 3, 0] rfl ?_
  exact lp_2 _ fr (by omega) (fun j h1 h2 => by omega) (Nat.lt_succ_self _)

theorem ldS_in {s : Nat → Int} {ct : Nat → Nat} {m : Nat} (h : ∀ k, ct k ≤ 40) : ∀ n : Nat, 0 ≤ ldS s ct m n ∧ ldS s ct m n ≤ 40 * (n : Int)
  | 0 => by simp [ldS]
  | n + 1 => by
    have := ldS_in (s := s) (m := m) h n
    have := h n
    simp only [ldS]
    split <;> omega
theorem rCt_le (W : Mem) (np : Nat) (h : np ≤ 40) (k : Nat) : rCt W np k ≤ 40 := by
  have := cnt_in (W 7) (k : Int) np
  unfold rCt
  omega
set_option maxHeartbeats 4000000 in
/-- greatest() -/
theorem met_X7_greatest {l : Launch} {D : va_G} {τ : Nat → ClassId} {a : Nat → Nat} (ha : Apart (LM τ) a) {V : Mem} (np us kc : Nat) (hnp : V 0 10 = (np : Int)) (hus : V 0 18 = (us : Int)) (hkc : V 0 3 = (kc : Int)) (hok : okR V) (hsh : ∀ k, k < kc → -1 ≤ V 16 k ∧ V 16 k ≤ 2) : CI l D (tysL τ) (LM τ) a yX7_greatest mX7_greatest [.ref (a 0)] V (fun z V' => z = mxF (fun m => ldS (V 16) (rCt V np) m kc) us ∧ V' = V) := by
  refine CI.of (by decide +kernel) rfl (Nat.le_of_ble_eq_true rfl) ha (fun x hq => ?_)
  show G l D (tysL τ) (LM τ) a mX7_greatest x 0 [(0, .ref (a 0))] [] V
  obtain ⟨r2, r3, r10, r15, r18, q1, q1k, q2, q3, q4, q5, q6, q7, q7k, q8, q9, q10, q11, q12, q14, qr, qf⟩ := id hok
  have hld : ∀ m n, 0 ≤ ldS (V 16) (rCt V np) m n ∧ ldS (V 16) (rCt V np) m n ≤ 40 * (n : Int) := fun m n => ldS_in (rCt_le V np (by omega)) n
  refine g_iconst dX7_greatest_0 ?_
  refine g_istore_n [(1, .int (iN 0)), (0, .ref (a 0))] dX7_greatest_1 rfl (by decide) rfl ?_
  refine g_iconst dX7_greatest_2 ?_
  refine g_istore_n [(2, .int (iN 0)), (1, .int (iN 0)), (0, .ref (a 0))] dX7_greatest_3 rfl (by decide) rfl ?_
  have lp_4 : ∀ (fuel : Nat) (m : Nat) (t0 : Int), (m ≤ us) → (t0 = mxF (fun m => ldS (V 16) (rCt V np) m kc) m) → (0 ≤ t0 ∧ t0 ≤ 400) → (us - m) < fuel → G l D (tysL τ) (LM τ) a mX7_greatest x 4 [(0, .ref (a 0)), (1, .int (iN t0)), (2, .int (iN (m : Int)))] [] V := by
    intro fuel
    induction fuel with
    | zero => intro m t0 hm ht0 htb hfu; exact absurd hfu (Nat.not_lt_zero _)
    | succ fuel ih_4 =>
      intro m t0 hm ht0 htb hfu
      refine g_iload_n 2 dX7_greatest_4 rfl rfl ?_
      refine g_aload_n 0 dX7_greatest_5 rfl rfl ?_
      refine g_getf 0 (.int (iN (V 0 18))) fX7_109 om_0 dX7_greatest_6 rfl ?_
      refine g_top (show V 0 18 = (us : Int) from hus) ?_
      refine g_icmp_ge 73 dX7_greatest_9 (by decide) (fun c_1 => ?_) (fun c_1 => ?_)
      · refine g_iload_n 1 dX7_greatest_73 rfl rfl ?_
        exact g_iret hq rfl rfl dX7_greatest_74 (⟨by rw [ht0, show m = us by omega], rfl⟩)
      · refine g_iconst dX7_greatest_12 ?_
        refine g_istore_n [(3, .int (iN 0)), (0, .ref (a 0)), (1, .int (iN t0)), (2, .int (iN (m : Int)))] dX7_greatest_13 rfl (by decide) rfl ?_
        refine g_iconst dX7_greatest_14 ?_
        refine g_istore [(4, .int (iN 0)), (3, .int (iN 0)), (0, .ref (a 0)), (1, .int (iN t0)), (2, .int (iN (m : Int)))] dX7_greatest_15 (by decide) rfl ?_
        have lp_17 : ∀ (fuel : Nat) (k : Nat) (n0 : Int), (k ≤ kc) → (n0 = ldS (V 16) (rCt V np) m k) → (kc - k) < fuel → G l D (tysL τ) (LM τ) a mX7_greatest x 17 [(0, .ref (a 0)), (1, .int (iN t0)), (2, .int (iN (m : Int))), (3, .int (iN n0)), (4, .int (iN (k : Int)))] [] V := by
          intro fuel
          induction fuel with
          | zero => intro k n0 hk hn0 hfu; exact absurd hfu (Nat.not_lt_zero _)
          | succ fuel ih_17 =>
            intro k n0 hk hn0 hfu
            have hldk := hld m k
            have hshk := hsh k
            refine g_iload 4 dX7_greatest_17 rfl ?_
            refine g_aload_n 0 dX7_greatest_19 rfl rfl ?_
            refine g_getf 0 (.int (iN (V 0 3))) fX7_86 om_0 dX7_greatest_20 rfl ?_
            refine g_top (show V 0 3 = (kc : Int) from hkc) ?_
            refine g_icmp_ge 56 dX7_greatest_23 (by decide) (fun c_2 => ?_) (fun c_2 => ?_)
            · obtain rfl : k = kc := by omega
              refine g_iload_n 3 dX7_greatest_56 rfl rfl ?_
              refine g_iload_n 1 dX7_greatest_57 rfl rfl ?_
              refine g_icmp_le 65 dX7_greatest_58 (by decide) (fun c_3 => ?_) (fun c_3 => ?_)
              · refine g_iload_n 1 dX7_greatest_65 rfl rfl ?_
                refine g_istore_n [(1, .int (iN t0)), (0, .ref (a 0)), (2, .int (iN (m : Int))), (3, .int (iN n0)), (4, .int (iN (k : Int)))] dX7_greatest_66 rfl (by decide) rfl ?_
                refine g_iinc 2 [(2, .int (iN ((m : Int) + 1))), (1, .int (iN t0)), (0, .ref (a 0)), (3, .int (iN n0)), (4, .int (iN (k : Int)))] dX7_greatest_67 rfl (by decide) rfl ?_
                refine g_goto 4 dX7_greatest_70 (by decide) ?_
                refine g_lv [2, 1, 0] rfl ?_
                exact ih_4 (m + 1) t0 (by omega) (by rw [mxF]; omega) (by omega) (by omega)
              · refine g_iload_n 3 dX7_greatest_61 rfl rfl ?_
                refine g_goto 66 dX7_greatest_62 (by decide) ?_
                refine g_istore_n [(1, .int (iN n0)), (0, .ref (a 0)), (2, .int (iN (m : Int))), (3, .int (iN n0)), (4, .int (iN (k : Int)))] dX7_greatest_66 rfl (by decide) rfl ?_
                refine g_iinc 2 [(2, .int (iN ((m : Int) + 1))), (1, .int (iN n0)), (0, .ref (a 0)), (3, .int (iN n0)), (4, .int (iN (k : Int)))] dX7_greatest_67 rfl (by decide) rfl ?_
                refine g_goto 4 dX7_greatest_70 (by decide) ?_
                refine g_lv [2, 1, 0] rfl ?_
                exact ih_4 (m + 1) n0 (by omega) (by rw [mxF]; omega) (by omega) (by omega)
            · refine g_iload_n 3 dX7_greatest_26 rfl rfl ?_
              refine g_aload_n 0 dX7_greatest_27 rfl rfl ?_
              refine g_getf 0 (.ref (a 16)) fX7_56 om_0 dX7_greatest_28 rfl ?_
              refine g_iload 4 dX7_greatest_31 rfl ?_
              refine g_iald 16 k am_16 dX7_greatest_33 rfl (by omega) ?_
              refine g_iload_n 2 dX7_greatest_34 rfl rfl ?_
              refine g_icmp_ne 47 dX7_greatest_35 (by decide) (fun c_4 => ?_) (fun c_4 => ?_)
              · refine g_iconst dX7_greatest_47 ?_
                refine g_iadd dX7_greatest_48 ?_
                refine g_istore_n [(3, .int (iN (n0 + 0))), (0, .ref (a 0)), (1, .int (iN t0)), (2, .int (iN (m : Int))), (4, .int (iN (k : Int)))] dX7_greatest_49 rfl (by decide) rfl ?_
                refine g_iinc 4 [(4, .int (iN ((k : Int) + 1))), (3, .int (iN (n0 + 0))), (0, .ref (a 0)), (1, .int (iN t0)), (2, .int (iN (m : Int)))] dX7_greatest_50 rfl (by decide) rfl ?_
                refine g_goto 17 dX7_greatest_53 (by decide) ?_
                refine g_lv [2, 3, 4, 1, 0] rfl ?_
                exact ih_17 (k + 1) (n0 + 0) (by omega) (by rw [hn0]; simp only [ldS]; rw [if_neg (by omega)]) (by omega)
              · refine g_aload_n 0 dX7_greatest_38 rfl rfl ?_
                refine g_iload 4 dX7_greatest_39 rfl ?_
                have hcn := cnt_in (V 7) (k : Int) np
                have hct : (rCt V np k : Int) = cnt (V 7) (k : Int) np := by unfold rCt; omega
                refine g_callI (k := 0) [.int (iN (k : Int))] (met_X7_partsOf ha (k : Int) np hnp hok (by omega)) vX7_116 om_0 rfl rfl ⟨rfl, rfl, Nat.le_of_ble_eq_true rfl, Nat.le_of_ble_eq_true rfl⟩ rfl (Nat.le_of_ble_eq_true rfl) dX7_greatest_41 rfl ?_
                rintro z9 V9 ⟨hz9, hV9⟩
                replace hz9 := hz9.symm
                replace hV9 := hV9.symm
                subst hz9
                subst hV9
                refine g_goto 48 dX7_greatest_44 (by decide) ?_
                refine g_iadd dX7_greatest_48 ?_
                refine g_istore_n [(3, .int (iN (n0 + (cnt (V 7) (k : Int) np)))), (0, .ref (a 0)), (1, .int (iN t0)), (2, .int (iN (m : Int))), (4, .int (iN (k : Int)))] dX7_greatest_49 rfl (by decide) rfl ?_
                refine g_iinc 4 [(4, .int (iN ((k : Int) + 1))), (3, .int (iN (n0 + (cnt (V 7) (k : Int) np)))), (0, .ref (a 0)), (1, .int (iN t0)), (2, .int (iN (m : Int)))] dX7_greatest_50 rfl (by decide) rfl ?_
                refine g_goto 17 dX7_greatest_53 (by decide) ?_
                refine g_lv [2, 3, 4, 1, 0] rfl ?_
                exact ih_17 (k + 1) (n0 + (cnt (V 7) (k : Int) np)) (by omega) (by rw [hn0]; simp only [ldS]; rw [if_pos (by omega), hct]) (by omega)
        refine g_lv [2, 3, 4, 1, 0] rfl ?_
        exact lp_17 _ 0 0 (by omega) rfl (Nat.lt_succ_self _)
  refine g_lv [2, 1, 0] rfl ?_
  exact lp_4 _ 0 0 (by omega) rfl (by omega) (Nat.lt_succ_self _)
