set_option maxHeartbeats 4000000 in
/-- hasRoom(s, d) -/
theorem met_X7_hasRoom {l : Launch} {D : va_G} {τ : Nat → ClassId} {a : Nat → Nat} (ha : Apart (LM τ) a) {V : Mem} (s : Nat) (d : Int) (hok : okR V) (hs : s ≤ 120) (hd : 1 ≤ d ∧ d ≤ 4) (ht : ∀ i, i < 120 → 0 ≤ V 18 i ∧ V 18 i ≤ 1) : CI l D (tysL τ) (LM τ) a yX7_hasRoom mX7_hasRoom [.ref (a 0), .int (iN (s : Int)), .int (iN d)] V (fun z V' => ((z = 1 ∧ ((s : Int) + d ≤ V 0 2 ∧ ∀ i : Nat, s ≤ i → (i : Int) < s + d → V 18 i = 0)) ∨ (z = 0 ∧ ¬ ((s : Int) + d ≤ V 0 2 ∧ ∀ i : Nat, s ≤ i → (i : Int) < s + d → V 18 i = 0))) ∧ V' = V) := by
  refine CI.of (by decide +kernel) rfl (Nat.le_of_ble_eq_true rfl) ha (fun x hq => ?_)
  show G l D (tysL τ) (LM τ) a mX7_hasRoom x 0 [(0, .ref (a 0)), (1, .int (iN (s : Int))), (2, .int (iN d))] [] V
  obtain ⟨r2, r3, r10, r15, r18, q1, q1k, q2, q3, q4, q5, q6, q7, q7k, q8, q9, q10, q11, q12, q14, qr, qf⟩ := id hok
  refine g_iload_n 1 dX7_hasRoom_0 rfl rfl ?_
  refine g_iload_n 2 dX7_hasRoom_1 rfl rfl ?_
  refine g_iadd dX7_hasRoom_2 ?_
  refine g_aload_n 0 dX7_hasRoom_3 rfl rfl ?_
  refine g_getf 0 (.int (iN (V 0 2))) fX7_79 om_0 dX7_hasRoom_4 rfl ?_
  refine g_icmp_gt 14 dX7_hasRoom_7 (by decide) (fun c_1 => ?_) (fun c_1 => ?_)
  · refine g_iconst dX7_hasRoom_14 ?_
    refine g_istore_n [(3, .int (iN 0)), (0, .ref (a 0)), (1, .int (iN (s : Int))), (2, .int (iN d))] dX7_hasRoom_15 rfl (by decide) rfl ?_
    refine g_iload_n 2 dX7_hasRoom_16 rfl rfl ?_
    refine g_istore [(4, .int (iN (s : Int))), (3, .int (iN 0)), (0, .ref (a 0)), (1, .int (iN (s : Int))), (2, .int (iN d))] dX7_hasRoom_17 (by decide) rfl ?_
    have lp_19 : ∀ (fuel : Nat) (i : Nat) (b : Int), (s ≤ i ∧ (i : Int) ≤ s + d) → ((b = 1 ∧ (s : Int) + d ≤ V 0 2 ∧ ∀ j : Nat, s ≤ j → j < i → V 18 j = 0) ∨ (b = 0 ∧ ¬ ((s : Int) + d ≤ V 0 2 ∧ ∀ i : Nat, s ≤ i → (i : Int) < s + d → V 18 i = 0))) → ((s + d - i).toNat) < fuel → G l D (tysL τ) (LM τ) a mX7_hasRoom x 19 [(0, .ref (a 0)), (1, .int (iN (s : Int))), (2, .int (iN d)), (3, .int (iN b)), (4, .int (iN (i : Int)))] [] V := by
      intro fuel
      induction fuel with
      | zero => intro i b hi hb hfu; exact absurd hfu (Nat.not_lt_zero _)
      | succ fuel ih_19 =>
        intro i b hi hb hfu
        have hti := ht i
        refine g_iload 4 dX7_hasRoom_19 rfl ?_
        refine g_iload_n 1 dX7_hasRoom_21 rfl rfl ?_
        refine g_iload_n 2 dX7_hasRoom_22 rfl rfl ?_
        refine g_iadd dX7_hasRoom_23 ?_
        refine g_icmp_ge 53 dX7_hasRoom_24 (by decide) (fun c_2 => ?_) (fun c_2 => ?_)
        · refine g_iload_n 3 dX7_hasRoom_53 rfl rfl ?_
          replace hb : (b = 1 ∧ ((s : Int) + d ≤ V 0 2 ∧ ∀ i : Nat, s ≤ i → (i : Int) < s + d → V 18 i = 0)) ∨ (b = 0 ∧ ¬ ((s : Int) + d ≤ V 0 2 ∧ ∀ i : Nat, s ≤ i → (i : Int) < s + d → V 18 i = 0)) := by
            rcases hb with q | q
            · refine Or.inl ⟨q.1, q.2.1, fun j h1 h2 => q.2.2 j h1 (by omega)⟩
            · exact Or.inr q
          have hh := hb
          rcases (show b = 1 ∨ b = 0 by rcases hh with h | h <;> omega) with hb9 | hb9
          · subst hb9
            exact g_iret hq rfl rfl dX7_hasRoom_54 (⟨hh, rfl⟩)
          · subst hb9
            exact g_iret hq rfl rfl dX7_hasRoom_54 (⟨hh, rfl⟩)
        · refine g_iload_n 3 dX7_hasRoom_27 rfl rfl ?_
          refine g_if_eq 53 dX7_hasRoom_28 (by decide) (fun c_3 => ?_) (fun c_3 => ?_)
          · refine g_iload_n 3 dX7_hasRoom_53 rfl rfl ?_
            replace hb : (b = 1 ∧ ((s : Int) + d ≤ V 0 2 ∧ ∀ i : Nat, s ≤ i → (i : Int) < s + d → V 18 i = 0)) ∨ (b = 0 ∧ ¬ ((s : Int) + d ≤ V 0 2 ∧ ∀ i : Nat, s ≤ i → (i : Int) < s + d → V 18 i = 0)) := by
              rcases hb with q | q
              · refine Or.inl ⟨q.1, q.2.1, fun j h1 h2 => q.2.2 j h1 (by omega)⟩
              · exact Or.inr q
            have hh := hb
            rcases (show b = 1 ∨ b = 0 by rcases hh with h | h <;> omega) with hb9 | hb9
            · subst hb9
              exact g_iret hq rfl rfl dX7_hasRoom_54 (⟨hh, rfl⟩)
            · subst hb9
              exact g_iret hq rfl rfl dX7_hasRoom_54 (⟨hh, rfl⟩)
          · refine g_aload_n 0 dX7_hasRoom_31 rfl rfl ?_
            refine g_getf 0 (.ref (a 18)) fX7_62 om_0 dX7_hasRoom_32 rfl ?_
            refine g_iload 4 dX7_hasRoom_35 rfl ?_
            refine g_zald 18 i am_18 dX7_hasRoom_37 rfl (by omega) ?_
            refine g_if_ne 45 dX7_hasRoom_38 (by decide) (fun c_4 => ?_) (fun c_4 => ?_)
            · refine g_iconst dX7_hasRoom_45 ?_
              refine g_istore_n [(3, .int (iN 0)), (0, .ref (a 0)), (1, .int (iN (s : Int))), (2, .int (iN d)), (4, .int (iN (i : Int)))] dX7_hasRoom_46 rfl (by decide) rfl ?_
              refine g_iinc 4 [(4, .int (iN ((i : Int) + 1))), (3, .int (iN 0)), (0, .ref (a 0)), (1, .int (iN (s : Int))), (2, .int (iN d))] dX7_hasRoom_47 rfl (by decide) rfl ?_
              refine g_goto 19 dX7_hasRoom_50 (by decide) ?_
              refine g_lv [2, 3, 4, 1, 0] rfl ?_
              exact ih_19 (i + 1) 0 (by omega) (Or.inr ⟨rfl, fun q => by
                  have := q.2 i (by omega) (by omega)
                  omega⟩) (by omega)
            · refine g_iconst dX7_hasRoom_41 ?_
              refine g_goto 46 dX7_hasRoom_42 (by decide) ?_
              refine g_istore_n [(3, .int (iN 1)), (0, .ref (a 0)), (1, .int (iN (s : Int))), (2, .int (iN d)), (4, .int (iN (i : Int)))] dX7_hasRoom_46 rfl (by decide) rfl ?_
              refine g_iinc 4 [(4, .int (iN ((i : Int) + 1))), (3, .int (iN 1)), (0, .ref (a 0)), (1, .int (iN (s : Int))), (2, .int (iN d))] dX7_hasRoom_47 rfl (by decide) rfl ?_
              refine g_goto 19 dX7_hasRoom_50 (by decide) ?_
              refine g_lv [2, 3, 4, 1, 0] rfl ?_
              exact ih_19 (i + 1) 1 (by omega) (Or.inl ⟨rfl, by omega, fun j h1 h2 => by
                  by_cases e : j = i
                  · subst e; omega
                  · rcases hb with q | q; (· exact q.2.2 j h1 (by omega)); (· omega)⟩) (by omega)
    refine g_lv [2, 3, 4, 1, 0] rfl ?_
    exact lp_19 _ s 0 (by omega) (Or.inr ⟨rfl, fun q => by omega⟩) (Nat.lt_succ_self _)
  · refine g_iconst dX7_hasRoom_10 ?_
    refine g_goto 15 dX7_hasRoom_11 (by decide) ?_
    refine g_istore_n [(3, .int (iN 1)), (0, .ref (a 0)), (1, .int (iN (s : Int))), (2, .int (iN d))] dX7_hasRoom_15 rfl (by decide) rfl ?_
    refine g_iload_n 2 dX7_hasRoom_16 rfl rfl ?_
    refine g_istore [(4, .int (iN (s : Int))), (3, .int (iN 1)), (0, .ref (a 0)), (1, .int (iN (s : Int))), (2, .int (iN d))] dX7_hasRoom_17 (by decide) rfl ?_
    have lp_19 : ∀ (fuel : Nat) (i : Nat) (b : Int), (s ≤ i ∧ (i : Int) ≤ s + d) → ((b = 1 ∧ (s : Int) + d ≤ V 0 2 ∧ ∀ j : Nat, s ≤ j → j < i → V 18 j = 0) ∨ (b = 0 ∧ ¬ ((s : Int) + d ≤ V 0 2 ∧ ∀ i : Nat, s ≤ i → (i : Int) < s + d → V 18 i = 0))) → ((s + d - i).toNat) < fuel → G l D (tysL τ) (LM τ) a mX7_hasRoom x 19 [(0, .ref (a 0)), (1, .int (iN (s : Int))), (2, .int (iN d)), (3, .int (iN b)), (4, .int (iN (i : Int)))] [] V := by
      intro fuel
      induction fuel with
      | zero => intro i b hi hb hfu; exact absurd hfu (Nat.not_lt_zero _)
      | succ fuel ih_19 =>
        intro i b hi hb hfu
        have hti := ht i
        refine g_iload 4 dX7_hasRoom_19 rfl ?_
        refine g_iload_n 1 dX7_hasRoom_21 rfl rfl ?_
        refine g_iload_n 2 dX7_hasRoom_22 rfl rfl ?_
        refine g_iadd dX7_hasRoom_23 ?_
        refine g_icmp_ge 53 dX7_hasRoom_24 (by decide) (fun c_5 => ?_) (fun c_5 => ?_)
        · refine g_iload_n 3 dX7_hasRoom_53 rfl rfl ?_
          replace hb : (b = 1 ∧ ((s : Int) + d ≤ V 0 2 ∧ ∀ i : Nat, s ≤ i → (i : Int) < s + d → V 18 i = 0)) ∨ (b = 0 ∧ ¬ ((s : Int) + d ≤ V 0 2 ∧ ∀ i : Nat, s ≤ i → (i : Int) < s + d → V 18 i = 0)) := by
            rcases hb with q | q
            · refine Or.inl ⟨q.1, q.2.1, fun j h1 h2 => q.2.2 j h1 (by omega)⟩
            · exact Or.inr q
          have hh := hb
          rcases (show b = 1 ∨ b = 0 by rcases hh with h | h <;> omega) with hb9 | hb9
          · subst hb9
            exact g_iret hq rfl rfl dX7_hasRoom_54 (⟨hh, rfl⟩)
          · subst hb9
            exact g_iret hq rfl rfl dX7_hasRoom_54 (⟨hh, rfl⟩)
        · refine g_iload_n 3 dX7_hasRoom_27 rfl rfl ?_
          refine g_if_eq 53 dX7_hasRoom_28 (by decide) (fun c_6 => ?_) (fun c_6 => ?_)
          · refine g_iload_n 3 dX7_hasRoom_53 rfl rfl ?_
            replace hb : (b = 1 ∧ ((s : Int) + d ≤ V 0 2 ∧ ∀ i : Nat, s ≤ i → (i : Int) < s + d → V 18 i = 0)) ∨ (b = 0 ∧ ¬ ((s : Int) + d ≤ V 0 2 ∧ ∀ i : Nat, s ≤ i → (i : Int) < s + d → V 18 i = 0)) := by
              rcases hb with q | q
              · refine Or.inl ⟨q.1, q.2.1, fun j h1 h2 => q.2.2 j h1 (by omega)⟩
              · exact Or.inr q
            have hh := hb
            rcases (show b = 1 ∨ b = 0 by rcases hh with h | h <;> omega) with hb9 | hb9
            · subst hb9
              exact g_iret hq rfl rfl dX7_hasRoom_54 (⟨hh, rfl⟩)
            · subst hb9
              exact g_iret hq rfl rfl dX7_hasRoom_54 (⟨hh, rfl⟩)
          · refine g_aload_n 0 dX7_hasRoom_31 rfl rfl ?_
            refine g_getf 0 (.ref (a 18)) fX7_62 om_0 dX7_hasRoom_32 rfl ?_
            refine g_iload 4 dX7_hasRoom_35 rfl ?_
            refine g_zald 18 i am_18 dX7_hasRoom_37 rfl (by omega) ?_
            refine g_if_ne 45 dX7_hasRoom_38 (by decide) (fun c_7 => ?_) (fun c_7 => ?_)
            · refine g_iconst dX7_hasRoom_45 ?_
              refine g_istore_n [(3, .int (iN 0)), (0, .ref (a 0)), (1, .int (iN (s : Int))), (2, .int (iN d)), (4, .int (iN (i : Int)))] dX7_hasRoom_46 rfl (by decide) rfl ?_
              refine g_iinc 4 [(4, .int (iN ((i : Int) + 1))), (3, .int (iN 0)), (0, .ref (a 0)), (1, .int (iN (s : Int))), (2, .int (iN d))] dX7_hasRoom_47 rfl (by decide) rfl ?_
              refine g_goto 19 dX7_hasRoom_50 (by decide) ?_
              refine g_lv [2, 3, 4, 1, 0] rfl ?_
              exact ih_19 (i + 1) 0 (by omega) (Or.inr ⟨rfl, fun q => by
                  have := q.2 i (by omega) (by omega)
                  omega⟩) (by omega)
            · refine g_iconst dX7_hasRoom_41 ?_
              refine g_goto 46 dX7_hasRoom_42 (by decide) ?_
              refine g_istore_n [(3, .int (iN 1)), (0, .ref (a 0)), (1, .int (iN (s : Int))), (2, .int (iN d)), (4, .int (iN (i : Int)))] dX7_hasRoom_46 rfl (by decide) rfl ?_
              refine g_iinc 4 [(4, .int (iN ((i : Int) + 1))), (3, .int (iN 1)), (0, .ref (a 0)), (1, .int (iN (s : Int))), (2, .int (iN d))] dX7_hasRoom_47 rfl (by decide) rfl ?_
              refine g_goto 19 dX7_hasRoom_50 (by decide) ?_
              refine g_lv [2, 3, 4, 1, 0] rfl ?_
              exact ih_19 (i + 1) 1 (by omega) (Or.inl ⟨rfl, by omega, fun j h1 h2 => by
                  by_cases e : j = i
                  · subst e; omega
                  · rcases hb with q | q; (· exact q.2.2 j h1 (by omega)); (· omega)⟩) (by omega)
    refine g_lv [2, 3, 4, 1, 0] rfl ?_
    exact lp_19 _ s 1 (by omega) (Or.inl ⟨rfl, by omega, fun j h1 h2 => by omega⟩) (Nat.lt_succ_self _)

set_option maxHeartbeats 4000000 in
/-- stand(m, k, s) -/
theorem met_X7_stand {l : Launch} {D : va_G} {τ : Nat → ClassId} {a : Nat → Nat} (ha : Apart (LM τ) a) {V : Mem} (m k s : Nat) (hok : okR V) (hm : m < 3) (hk : k < 10) (hs : (s : Int) + V 1 k ≤ 120) : CV l D (tysL τ) (LM τ) a yX7_stand mX7_stand [.ref (a 0), .int (iN (m : Int)), .int (iN (k : Int)), .int (iN (s : Int))] V (fun V' => V' = stM V (10 * m + k) s (V 1 k)) := by
  refine CV.of (by decide +kernel) rfl (Nat.le_of_ble_eq_true rfl) ha (fun x hq => ?_)
  show G l D (tysL τ) (LM τ) a mX7_stand x 0 [(0, .ref (a 0)), (1, .int (iN (m : Int))), (2, .int (iN (k : Int))), (3, .int (iN (s : Int)))] [] V
  obtain ⟨r2, r3, r10, r15, r18, q1, q1k, q2, q3, q4, q5, q6, q7, q7k, q8, q9, q10, q11, q12, q14, qr, qf⟩ := id hok
  have q1k0 := q1 k hk
  refine g_aload_n 0 dX7_stand_0 rfl rfl ?_
  refine g_getf 0 (.ref (a 13)) fX7_47 om_0 dX7_stand_1 rfl ?_
  refine g_bipush dX7_stand_4 rfl ?_
  refine g_iload_n 1 dX7_stand_6 rfl rfl ?_
  refine g_imul dX7_stand_7 ?_
  refine g_iload_n 2 dX7_stand_8 rfl rfl ?_
  refine g_iadd dX7_stand_9 ?_
  refine g_iload_n 3 dX7_stand_10 rfl rfl ?_
  refine g_iast 13 (10 * m + k) am_13 dX7_stand_11 (by omega) (by omega) ?_
  obtain ⟨V_1, eV_1⟩ : ∃ V9 : Mem, V9 = up V 13 (10 * m + k) (s : Int) := ⟨_, rfl⟩
  refine g_mem eV_1.symm ?_
  refine g_iload_n 3 dX7_stand_12 rfl rfl ?_
  refine g_istore [(4, .int (iN (s : Int))), (0, .ref (a 0)), (1, .int (iN (m : Int))), (2, .int (iN (k : Int))), (3, .int (iN (s : Int)))] dX7_stand_13 (by decide) rfl ?_
  have lp_15 : ∀ (fuel : Nat) (i : Nat) (U : Mem), (s ≤ i ∧ (i : Int) ≤ s + V 1 k) → (U = stI V (10 * m + k) s i) → ((s + V 1 k - i).toNat) < fuel → G l D (tysL τ) (LM τ) a mX7_stand x 15 [(0, .ref (a 0)), (1, .int (iN (m : Int))), (2, .int (iN (k : Int))), (3, .int (iN (s : Int))), (4, .int (iN (i : Int)))] [] U := by
    intro fuel
    induction fuel with
    | zero => intro i U hi hU hfu; exact absurd hfu (Nat.not_lt_zero _)
    | succ fuel ih_15 =>
      intro i U hi hU hfu
      refine g_iload 4 dX7_stand_15 rfl ?_
      refine g_iload_n 3 dX7_stand_17 rfl rfl ?_
      refine g_aload_n 0 dX7_stand_18 rfl rfl ?_
      refine g_getf 0 (.ref (a 1)) fX7_7 om_0 dX7_stand_19 rfl ?_
      refine g_iload_n 2 dX7_stand_22 rfl rfl ?_
      refine g_iald 1 k am_1 dX7_stand_23 rfl (by omega) ?_
      refine g_top (show U 1 k = V 1 k from by rw [hU]; unfold stI; rw [if_neg (by omega), up_ne (by omega)]) ?_
      refine g_iadd dX7_stand_24 ?_
      refine g_icmp_ge 42 dX7_stand_25 (by decide) (fun c_2 => ?_) (fun c_2 => ?_)
      · exact g_vret hq rfl dX7_stand_42 (by rw [hU]; exact stI_end (by omega))
      · refine g_aload_n 0 dX7_stand_28 rfl rfl ?_
        refine g_getf 0 (.ref (a 18)) fX7_62 om_0 dX7_stand_29 rfl ?_
        refine g_iload 4 dX7_stand_32 rfl ?_
        refine g_iconst dX7_stand_34 ?_
        refine g_zast 18 i am_18 dX7_stand_35 rfl (by omega) (by decide) ?_
        obtain ⟨V_3, eV_3⟩ : ∃ V9 : Mem, V9 = up U 18 i 1 := ⟨_, rfl⟩
        refine g_mem eV_3.symm ?_
        refine g_iinc 4 [(4, .int (iN ((i : Int) + 1))), (0, .ref (a 0)), (1, .int (iN (m : Int))), (2, .int (iN (k : Int))), (3, .int (iN (s : Int)))] dX7_stand_36 rfl (by decide) rfl ?_
        refine g_goto 15 dX7_stand_39 (by decide) ?_
        refine g_lv [1, 2, 3, 4, 0] rfl ?_
        exact ih_15 (i + 1) V_3 (by omega) (by rw [eV_3, hU]; exact stI_s hi.1) (by omega)
  refine g_lv [1, 2, 3, 4, 0] rfl ?_
  exact lp_15 _ s V_1 (by omega) (by rw [eV_1]; exact stI_0) (Nat.lt_succ_self _)

theorem okR_off13 {V U : Mem} {m kc : Nat} {g : Nat → Int} (hok : okR V) (hfd : fdI V U m kc g) (hg : ∀ j, j < 10 → -1 ≤ g j ∧ g j ≤ 120 := by omega) : okR U := by
  obtain ⟨r2, r3, r10, r15, r18, q1, q1k, q2, q3, q4, q5, q6, q7, q7k, q8, q9, q10, q11, q12, q14, qr, qf⟩ := hok
  have e : ∀ c, c ≠ 13 → c ≠ 18 → U c = V c := hfd.2.2.2
  unfold okR
  rw [e 0 (by omega) (by omega), e 1 (by omega) (by omega), e 2 (by omega) (by omega), e 3 (by omega) (by omega), e 4 (by omega) (by omega), e 5 (by omega) (by omega), e 6 (by omega) (by omega), e 7 (by omega) (by omega), e 8 (by omega) (by omega), e 9 (by omega) (by omega), e 10 (by omega) (by omega), e 11 (by omega) (by omega), e 12 (by omega) (by omega), e 14 (by omega) (by omega), e 15 (by omega) (by omega)]
  refine ⟨r2, r3, r10, r15, r18, q1, q1k, q2, q3, q4, q5, q6, q7, q7k, q8, q9, q10, q11, q12, q14, qr, fun m' hm' k hk => ?_⟩
  by_cases q : 10 * m ≤ 10 * m' + k ∧ 10 * m' + k < 10 * m + 10
  · have : m' = m := by omega
    subst this
    rw [hfd.1 k hk]
    exact hg k hk
  · rw [hfd.2.1 _ q]
    exact qf m' hm' k hk
theorem fixF_in {fx hm : Nat → Int} {num : Int} {k : Nat} (h : ∀ j, j < 10 → -1 ≤ fx j ∧ fx j ≤ 120) : ∀ j, j < 10 → -1 ≤ fixF fx hm num (fun _ => -1) k j ∧ fixF fx hm num (fun _ => -1) k j ≤ 120 := fun j hj => by
  unfold fixF
  split
  · exact h j hj
  · show -1 ≤ (-1 : Int) ∧ (-1 : Int) ≤ 120
    omega
theorem fixF_at {fx hm f : Nat → Int} {num : Int} {k : Nat} : fixF fx hm num f k k = f k := by unfold fixF; rw [if_neg (fun q => Nat.lt_irrefl _ q.1)]
/-- cleared so far -/
def ckI (V U : Mem) (i : Nat) : Prop := (∀ j, j < i → U 18 j = 0) ∧ ∀ c, c ≠ 18 → U c = V c
theorem ckI_s {V U : Mem} {i : Nat} (h : ckI V U i) : ckI V (up U 18 i 0) (i + 1) := ⟨fun j hj => by
  by_cases e : j = i
  · subst e; rw [up_eq]
  · rw [up_ne (by omega)]; exact h.1 j (by omega), fun c hc => by rw [up_ne1 hc]; exact h.2 c hc⟩
set_option maxHeartbeats 4000000 in
/-- findFeeders(m) -/
theorem met_X7_findFeeders {l : Launch} {D : va_G} {τ : Nat → ClassId} {a : Nat → Nat} (ha : Apart (LM τ) a) {V : Mem} (m kc sl : Nat) (hkc : V 0 3 = (kc : Int)) (hsl : V 0 2 = (sl : Int)) (hok : okR V) (hm : m < 3) (hhm : ∀ k, k < kc → -1 ≤ V 17 k ∧ V 17 k ≤ 2) (hfw : ∀ k, k < kc → V 3 k ≠ -1 → V 3 k + V 1 k ≤ V 0 2) (h13 : ∀ k, k < 10 → V 13 (10 * m + k) = -1) : CV l D (tysL τ) (LM τ) a yX7_findFeeders mX7_findFeeders [.ref (a 0), .int (iN (m : Int))] V (fun V' => ∃ g, othR (V 1) (V 3) (V 17) kc sl (m : Int) (fixF (V 3) (V 17) (m : Int) (fun _ => -1) kc) kc g ∧ (∀ j, j < 10 → V' 13 (10 * m + j) = g j) ∧ (∀ j, ¬ (10 * m ≤ j ∧ j < 10 * m + 10) → V' 13 j = V 13 j) ∧ ∀ c, c ≠ 13 → c ≠ 18 → V' c = V c) := by
  refine CV.of (by decide +kernel) rfl (Nat.le_of_ble_eq_true rfl) ha (fun x hq => ?_)
  show G l D (tysL τ) (LM τ) a mX7_findFeeders x 0 [(0, .ref (a 0)), (1, .int (iN (m : Int)))] [] V
  obtain ⟨r2, r3, r10, r15, r18, q1, q1k, q2, q3, q4, q5, q6, q7, q7k, q8, q9, q10, q11, q12, q14, qr, qf⟩ := id hok
  refine g_iconst dX7_findFeeders_0 ?_
  refine g_istore_n [(2, .int (iN 0)), (0, .ref (a 0)), (1, .int (iN (m : Int)))] dX7_findFeeders_1 rfl (by decide) rfl ?_
  have lp_2 : ∀ (fuel : Nat) (i : Nat) (U : Mem), (i ≤ 120) → (ckI V U i) → (120 - i) < fuel → G l D (tysL τ) (LM τ) a mX7_findFeeders x 2 [(0, .ref (a 0)), (1, .int (iN (m : Int))), (2, .int (iN (i : Int)))] [] U := by
    intro fuel
    induction fuel with
    | zero => intro i U hi hck hfu; exact absurd hfu (Nat.not_lt_zero _)
    | succ fuel ih_2 =>
      intro i U hi hck hfu
      refine g_iload_n 2 dX7_findFeeders_2 rfl rfl ?_
      refine g_bipush dX7_findFeeders_3 rfl ?_
      refine g_icmp_ge 21 dX7_findFeeders_5 (by decide) (fun c_1 => ?_) (fun c_1 => ?_)
      · refine g_iconst dX7_findFeeders_21 ?_
        refine g_istore_n [(2, .int (iN 0)), (0, .ref (a 0)), (1, .int (iN (m : Int)))] dX7_findFeeders_22 rfl (by decide) rfl ?_
        have lp_23 : ∀ (fuel : Nat) (k : Nat) (U : Mem), (k ≤ kc) → (fdI V U m kc (fixF (V 3) (V 17) (m : Int) (fun _ => -1) k)) → (kc - k) < fuel → G l D (tysL τ) (LM τ) a mX7_findFeeders x 23 [(0, .ref (a 0)), (1, .int (iN (m : Int))), (2, .int (iN (k : Int)))] [] U := by
          intro fuel
          induction fuel with
          | zero => intro k U hk hfd hfu; exact absurd hfu (Nat.not_lt_zero _)
          | succ fuel ih_23 =>
            intro k U hk hfd hfu
            have hokU : okR U := okR_off13 hok hfd (fixF_in q3)
            have u1 : U 1 = V 1 := hfd.2.2.2 1 (by omega) (by omega)
            have u3 : U 3 = V 3 := hfd.2.2.2 3 (by omega) (by omega)
            have u17 : U 17 = V 17 := hfd.2.2.2 17 (by omega) (by omega)
            have u0 : U 0 = V 0 := hfd.2.2.2 0 (by omega) (by omega)
            have hhk := hhm k
            have hfwk := hfw k
            have q3k := q3 k
            have q1k0 := q1 k
            have q1k1 := q1k k
            refine g_iload_n 2 dX7_findFeeders_23 rfl rfl ?_
            refine g_aload_n 0 dX7_findFeeders_24 rfl rfl ?_
            refine g_getf 0 (.int (iN (U 0 3))) fX7_86 om_0 dX7_findFeeders_25 rfl ?_
            refine g_top (show U 0 3 = (kc : Int) from by rw [u0]; exact hkc) ?_
            refine g_icmp_ge 69 dX7_findFeeders_28 (by decide) (fun c_2 => ?_) (fun c_2 => ?_)
            · refine g_iconst dX7_findFeeders_69 ?_
              refine g_istore_n [(2, .int (iN 0)), (0, .ref (a 0)), (1, .int (iN (m : Int)))] dX7_findFeeders_70 rfl (by decide) rfl ?_
              have lp_71 : ∀ (fuel : Nat) (k : Nat) (U : Mem) (g : Nat → Int), (k ≤ kc) → (othR (V 1) (V 3) (V 17) kc sl (m : Int) (fixF (V 3) (V 17) (m : Int) (fun _ => -1) kc) k g) → (fdI V U m kc g) → (kc - k) < fuel → G l D (tysL τ) (LM τ) a mX7_findFeeders x 71 [(0, .ref (a 0)), (1, .int (iN (m : Int))), (2, .int (iN (k : Int)))] [] U := by
                intro fuel
                induction fuel with
                | zero => intro k U g hk hg hfd hfu; exact absurd hfu (Nat.not_lt_zero _)
                | succ fuel ih_71 =>
                  intro k U g hk hg hfd hfu
                  have hgin := othR_in (show sl ≤ 120 by omega) (fun k hk => (q1 k hk).1) (fixF_in q3) (show k ≤ 10 by omega) hg
                  have hokU : okR U := okR_off13 hok hfd hgin
                  have u1 : U 1 = V 1 := hfd.2.2.2 1 (by omega) (by omega)
                  have u3 : U 3 = V 3 := hfd.2.2.2 3 (by omega) (by omega)
                  have u17 : U 17 = V 17 := hfd.2.2.2 17 (by omega) (by omega)
                  have u0 : U 0 = V 0 := hfd.2.2.2 0 (by omega) (by omega)
                  have hhk := hhm k
                  have hfwk := hfw k
                  have q3k := q3 k
                  have q1k0 := q1 k
                  have q1k1 := q1k k
                  have hglo := othR_lo (show ∀ j, j < kc → 0 ≤ V 1 j from fun j hj => (q1 j (by omega)).1) (show ∀ j, -1 ≤ fixF (V 3) (V 17) (m : Int) (fun _ => -1) kc j from fun j => by unfold fixF; split; (· rename_i q; exact (q3 j (by omega)).1); (· show (-1 : Int) ≤ -1; omega)) (show k ≤ kc by omega) hg
                  have hwj : ∀ j, j < kc → 1 ≤ V 1 j := fun j hj => q1k j (by omega)
                  have hti := tkI_in hfd.2.2.1
                  refine g_iload_n 2 dX7_findFeeders_71 rfl rfl ?_
                  refine g_aload_n 0 dX7_findFeeders_72 rfl rfl ?_
                  refine g_getf 0 (.int (iN (U 0 3))) fX7_86 om_0 dX7_findFeeders_73 rfl ?_
                  refine g_top (show U 0 3 = (kc : Int) from by rw [u0]; exact hkc) ?_
                  refine g_icmp_ge 153 dX7_findFeeders_76 (by decide) (fun c_3 => ?_) (fun c_3 => ?_)
                  · exact g_vret hq rfl dX7_findFeeders_153 (⟨g, by rw [show k = kc by omega] at hg; exact hg, hfd.1, hfd.2.1, hfd.2.2.2⟩)
                  · refine g_aload_n 0 dX7_findFeeders_79 rfl rfl ?_
                    refine g_getf 0 (.ref (a 17)) fX7_59 om_0 dX7_findFeeders_80 rfl ?_
                    refine g_iload_n 2 dX7_findFeeders_83 rfl rfl ?_
                    refine g_iald 17 k am_17 dX7_findFeeders_84 rfl (by omega) ?_
                    refine g_top (show U 17 k = V 17 k from by rw [u17]) ?_
                    refine g_iload_n 1 dX7_findFeeders_85 rfl rfl ?_
                    refine g_icmp_ne 147 dX7_findFeeders_86 (by decide) (fun c_4 => ?_) (fun c_4 => ?_)
                    · refine g_iinc 2 [(2, .int (iN ((k : Int) + 1))), (0, .ref (a 0)), (1, .int (iN (m : Int)))] dX7_findFeeders_147 rfl (by decide) rfl ?_
                      refine g_goto 71 dX7_findFeeders_150 (by decide) ?_
                      refine g_lv [1, 2, 0] rfl ?_
                      exact ih_71 (k + 1) U g (by omega) (⟨g, hg, Or.inr ⟨by omega, rfl⟩⟩) hfd (by omega)
                    · refine g_aload_n 0 dX7_findFeeders_89 rfl rfl ?_
                      refine g_getf 0 (.ref (a 3)) fX7_16 om_0 dX7_findFeeders_90 rfl ?_
                      refine g_iload_n 2 dX7_findFeeders_93 rfl rfl ?_
                      refine g_iald 3 k am_3 dX7_findFeeders_94 rfl (by omega) ?_
                      refine g_top (show U 3 k = V 3 k from by rw [u3]) ?_
                      refine g_iconst dX7_findFeeders_95 ?_
                      refine g_icmp_eq 102 dX7_findFeeders_96 (by decide) (fun c_5 => ?_) (fun c_5 => ?_)
                      · have hgk : g k = -1 := othR_left (fun j hj => by unfold fixF; split; (· exact hj); (· rfl)) hg k (Nat.le_refl _) (by omega)
                        refine g_iconst dX7_findFeeders_102 ?_
                        refine g_istore_n [(3, .int (iN 0)), (0, .ref (a 0)), (1, .int (iN (m : Int))), (2, .int (iN (k : Int)))] dX7_findFeeders_103 rfl (by decide) rfl ?_
                        have lp_104 : ∀ (fuel : Nat) (s : Nat), (s ≤ sl) → (∀ r : Nat, r < s → (r : Int) + V 1 k ≤ sl → ¬ free g (V 1) kc r (V 1 k)) → (sl - s) < fuel → G l D (tysL τ) (LM τ) a mX7_findFeeders x 104 [(0, .ref (a 0)), (1, .int (iN (m : Int))), (2, .int (iN (k : Int))), (3, .int (iN (s : Int)))] [] U := by
                          intro fuel
                          induction fuel with
                          | zero => intro s hs hno hfu; exact absurd hfu (Nat.not_lt_zero _)
                          | succ fuel ih_104 =>
                            intro s hs hno hfu
                            refine g_iload_n 3 dX7_findFeeders_104 rfl rfl ?_
                            refine g_aload_n 0 dX7_findFeeders_105 rfl rfl ?_
                            refine g_getf 0 (.int (iN (U 0 2))) fX7_79 om_0 dX7_findFeeders_106 rfl ?_
                            refine g_top (show U 0 2 = (sl : Int) from by rw [u0]; exact hsl) ?_
                            refine g_icmp_ge 132 dX7_findFeeders_109 (by decide) (fun c_6 => ?_) (fun c_6 => ?_)
                            · refine g_iload_n 3 dX7_findFeeders_132 rfl rfl ?_
                              refine g_aload_n 0 dX7_findFeeders_133 rfl rfl ?_
                              refine g_getf 0 (.int (iN (U 0 2))) fX7_79 om_0 dX7_findFeeders_134 rfl ?_
                              refine g_top (show U 0 2 = (sl : Int) from by rw [u0]; exact hsl) ?_
                              refine g_icmp_ge 147 dX7_findFeeders_137 (by decide) (fun c_7 => ?_) (fun c_7 => ?_)
                              · have hno9 : ∀ r : Nat, (r : Int) + V 1 k ≤ sl → ¬ free g (V 1) kc r (V 1 k) := fun r9 h9 => hno r9 (by omega) h9
                                refine g_iinc 2 [(2, .int (iN ((k : Int) + 1))), (0, .ref (a 0)), (1, .int (iN (m : Int))), (3, .int (iN (s : Int)))] dX7_findFeeders_147 rfl (by decide) rfl ?_
                                refine g_goto 71 dX7_findFeeders_150 (by decide) ?_
                                refine g_lv [1, 2, 0] rfl ?_
                                exact ih_71 (k + 1) U g (by omega) (⟨g, hg, Or.inl ⟨by omega, by omega, -1, Or.inl ⟨rfl, fun s9 h9 => hno9 s9 (by omega)⟩, (up1_same hgk).symm⟩⟩) hfd (by omega)
                              · omega
                            · refine g_aload_n 0 dX7_findFeeders_112 rfl rfl ?_
                              refine g_iload_n 3 dX7_findFeeders_113 rfl rfl ?_
                              refine g_aload_n 0 dX7_findFeeders_114 rfl rfl ?_
                              refine g_getf 0 (.ref (a 1)) fX7_7 om_0 dX7_findFeeders_115 rfl ?_
                              refine g_iload_n 2 dX7_findFeeders_118 rfl rfl ?_
                              refine g_iald 1 k am_1 dX7_findFeeders_119 rfl (by omega) ?_
                              refine g_top (show U 1 k = V 1 k from by rw [u1]) ?_
                              refine g_callI (k := 0) [.int (iN (s : Int)), .int (iN (V 1 k))] (met_X7_hasRoom (V := U) ha s (V 1 k) hokU (by omega) (by omega) hti) vX7_136 om_0 rfl rfl ⟨rfl, rfl, Nat.le_of_ble_eq_true rfl, Nat.le_of_ble_eq_true rfl⟩ rfl (Nat.le_of_ble_eq_true rfl) dX7_findFeeders_120 rfl ?_
                              rintro z9 V9 ⟨hp9, hV9⟩
                              replace hV9 := hV9.symm
                              subst hV9
                              rw [u0, hsl] at hp9
                              rcases hp9 with ⟨hz9, b_8⟩ | ⟨hz9, b_8⟩
                              · subst hz9
                                have hlow : isLow g (V 1) kc sl (V 1 k) (s : Int) := Or.inr ⟨s, rfl, b_8.1, (free_tk (sl := sl) hfd.2.2.1 (by omega) b_8.1 (by omega) (fun j _ => hglo j) hwj).mpr b_8.2, fun r9 h9 hf9 => hno r9 h9 (by have := b_8.1; omega) hf9⟩
                                refine g_if_ne 132 dX7_findFeeders_123 (by decide) (fun _ => ?_) (fun c_9 => absurd c_9 (by decide))
                                refine g_iload_n 3 dX7_findFeeders_132 rfl rfl ?_
                                refine g_aload_n 0 dX7_findFeeders_133 rfl rfl ?_
                                refine g_getf 0 (.int (iN (U 0 2))) fX7_79 om_0 dX7_findFeeders_134 rfl ?_
                                refine g_top (show U 0 2 = (sl : Int) from by rw [u0]; exact hsl) ?_
                                refine g_icmp_ge 147 dX7_findFeeders_137 (by decide) (fun c_10 => ?_) (fun c_10 => ?_)
                                · have hno9 : ∀ r : Nat, (r : Int) + V 1 k ≤ sl → ¬ free g (V 1) kc r (V 1 k) := fun r9 h9 => hno r9 (by omega) h9
                                  refine g_iinc 2 [(2, .int (iN ((k : Int) + 1))), (0, .ref (a 0)), (1, .int (iN (m : Int))), (3, .int (iN (s : Int)))] dX7_findFeeders_147 rfl (by decide) rfl ?_
                                  refine g_goto 71 dX7_findFeeders_150 (by decide) ?_
                                  refine g_lv [1, 2, 0] rfl ?_
                                  exact ih_71 (k + 1) U g (by omega) (⟨g, hg, Or.inl ⟨by omega, by omega, -1, Or.inl ⟨rfl, fun s9 h9 => hno9 s9 (by omega)⟩, (up1_same hgk).symm⟩⟩) hfd (by omega)
                                · refine g_aload_n 0 dX7_findFeeders_140 rfl rfl ?_
                                  refine g_iload_n 1 dX7_findFeeders_141 rfl rfl ?_
                                  refine g_iload_n 2 dX7_findFeeders_142 rfl rfl ?_
                                  refine g_iload_n 3 dX7_findFeeders_143 rfl rfl ?_
                                  refine g_callV (k := 0) [.int (iN (m : Int)), .int (iN (k : Int)), .int (iN (s : Int))] (met_X7_stand (V := U) ha m k s hokU hm (by omega) (by rw [show U 1 = V 1 from hfd.2.2.2 1 (by omega) (by omega)]; omega)) vX7_132 om_0 rfl rfl ⟨rfl, rfl, Nat.le_of_ble_eq_true rfl, Nat.le_of_ble_eq_true rfl⟩ rfl (Nat.le_of_ble_eq_true rfl) dX7_findFeeders_144 rfl ?_
                                  intro V9 hV9
                                  rw [show U 1 = V 1 from hfd.2.2.2 1 (by omega) (by omega)] at hV9
                                  refine g_iinc 2 [(2, .int (iN ((k : Int) + 1))), (0, .ref (a 0)), (1, .int (iN (m : Int))), (3, .int (iN (s : Int)))] dX7_findFeeders_147 rfl (by decide) rfl ?_
                                  refine g_goto 71 dX7_findFeeders_150 (by decide) ?_
                                  refine g_lv [1, 2, 0] rfl ?_
                                  exact ih_71 (k + 1) V9 (up1 g k (s : Int)) (by omega) (⟨g, hg, Or.inl ⟨by omega, by omega, (s : Int), hlow, rfl⟩⟩) (by rw [hV9]; exact fdI_stand hfd (by omega) (by omega) hgk) (by omega)
                              · subst hz9
                                have hno2 : (s : Int) + V 1 k ≤ sl → ¬ free g (V 1) kc s (V 1 k) := fun h8 h9 => b_8 ⟨h8, (free_tk (sl := sl) hfd.2.2.1 (by omega) h8 (by omega) (fun j _ => hglo j) hwj).mp h9⟩
                                refine g_if_ne 132 dX7_findFeeders_123 (by decide) (fun c_11 => absurd c_11 (by decide)) (fun _ => ?_)
                                refine g_iinc 3 [(3, .int (iN ((s : Int) + 1))), (0, .ref (a 0)), (1, .int (iN (m : Int))), (2, .int (iN (k : Int)))] dX7_findFeeders_126 rfl (by decide) rfl ?_
                                refine g_goto 104 dX7_findFeeders_129 (by decide) ?_
                                refine g_lv [1, 2, 3, 0] rfl ?_
                                exact ih_104 (s + 1) (by omega) (fun r9 h9 h8 => by
                                    by_cases e : r9 = s
                                    · subst e; exact hno2 h8
                                    · exact hno r9 (by omega) h8) (by omega)
                        refine g_lv [1, 2, 3, 0] rfl ?_
                        exact lp_104 _ 0 (by omega) (fun r h => absurd h (Nat.not_lt_zero _)) (Nat.lt_succ_self _)
                      · refine g_goto 147 dX7_findFeeders_99 (by decide) ?_
                        refine g_iinc 2 [(2, .int (iN ((k : Int) + 1))), (0, .ref (a 0)), (1, .int (iN (m : Int)))] dX7_findFeeders_147 rfl (by decide) rfl ?_
                        refine g_goto 71 dX7_findFeeders_150 (by decide) ?_
                        refine g_lv [1, 2, 0] rfl ?_
                        exact ih_71 (k + 1) U g (by omega) (⟨g, hg, Or.inr ⟨by omega, rfl⟩⟩) hfd (by omega)
              refine g_lv [1, 2, 0] rfl ?_
              exact lp_71 _ 0 U (fixF (V 3) (V 17) (m : Int) (fun _ => -1) kc) (by omega) rfl (by rw [show k = kc by omega] at hfd; exact hfd) (Nat.lt_succ_self _)
            · refine g_aload_n 0 dX7_findFeeders_31 rfl rfl ?_
              refine g_getf 0 (.ref (a 17)) fX7_59 om_0 dX7_findFeeders_32 rfl ?_
              refine g_iload_n 2 dX7_findFeeders_35 rfl rfl ?_
              refine g_iald 17 k am_17 dX7_findFeeders_36 rfl (by omega) ?_
              refine g_top (show U 17 k = V 17 k from by rw [u17]) ?_
              refine g_iload_n 1 dX7_findFeeders_37 rfl rfl ?_
              refine g_icmp_ne 63 dX7_findFeeders_38 (by decide) (fun c_12 => ?_) (fun c_12 => ?_)
              · refine g_iinc 2 [(2, .int (iN ((k : Int) + 1))), (0, .ref (a 0)), (1, .int (iN (m : Int)))] dX7_findFeeders_63 rfl (by decide) rfl ?_
                refine g_goto 23 dX7_findFeeders_66 (by decide) ?_
                refine g_lv [1, 2, 0] rfl ?_
                exact ih_23 (k + 1) U (by omega) (by
                    by_cases e : V 17 k = (m : Int)
                    · rw [← fixF_t e, up1_same (by rw [fixF_at]; omega)]; exact hfd
                    · rw [← fixF_f e]; exact hfd) (by omega)
              · refine g_aload_n 0 dX7_findFeeders_41 rfl rfl ?_
                refine g_getf 0 (.ref (a 3)) fX7_16 om_0 dX7_findFeeders_42 rfl ?_
                refine g_iload_n 2 dX7_findFeeders_45 rfl rfl ?_
                refine g_iald 3 k am_3 dX7_findFeeders_46 rfl (by omega) ?_
                refine g_top (show U 3 k = V 3 k from by rw [u3]) ?_
                refine g_iconst dX7_findFeeders_47 ?_
                refine g_icmp_eq 63 dX7_findFeeders_48 (by decide) (fun c_13 => ?_) (fun c_13 => ?_)
                · refine g_iinc 2 [(2, .int (iN ((k : Int) + 1))), (0, .ref (a 0)), (1, .int (iN (m : Int)))] dX7_findFeeders_63 rfl (by decide) rfl ?_
                  refine g_goto 23 dX7_findFeeders_66 (by decide) ?_
                  refine g_lv [1, 2, 0] rfl ?_
                  exact ih_23 (k + 1) U (by omega) (by
                      by_cases e : V 17 k = (m : Int)
                      · rw [← fixF_t e, up1_same (by rw [fixF_at]; omega)]; exact hfd
                      · rw [← fixF_f e]; exact hfd) (by omega)
                · refine g_aload_n 0 dX7_findFeeders_51 rfl rfl ?_
                  refine g_iload_n 1 dX7_findFeeders_52 rfl rfl ?_
                  refine g_iload_n 2 dX7_findFeeders_53 rfl rfl ?_
                  refine g_aload_n 0 dX7_findFeeders_54 rfl rfl ?_
                  refine g_getf 0 (.ref (a 3)) fX7_16 om_0 dX7_findFeeders_55 rfl ?_
                  refine g_iload_n 2 dX7_findFeeders_58 rfl rfl ?_
                  refine g_iald 3 k am_3 dX7_findFeeders_59 rfl (by omega) ?_
                  refine g_top (show U 3 k = (((V 3 k).toNat : Nat) : Int) from by rw [u3]; omega) ?_
                  refine g_callV (k := 0) [.int (iN (m : Int)), .int (iN (k : Int)), .int (iN (((V 3 k).toNat : Nat) : Int))] (met_X7_stand (V := U) ha m k (V 3 k).toNat hokU hm (by omega) (by rw [show U 1 = V 1 from hfd.2.2.2 1 (by omega) (by omega)]; omega)) vX7_132 om_0 rfl rfl ⟨rfl, rfl, Nat.le_of_ble_eq_true rfl, Nat.le_of_ble_eq_true rfl⟩ rfl (Nat.le_of_ble_eq_true rfl) dX7_findFeeders_60 rfl ?_
                  intro V9 hV9
                  rw [show U 1 = V 1 from hfd.2.2.2 1 (by omega) (by omega)] at hV9
                  refine g_iinc 2 [(2, .int (iN ((k : Int) + 1))), (0, .ref (a 0)), (1, .int (iN (m : Int)))] dX7_findFeeders_63 rfl (by decide) rfl ?_
                  refine g_goto 23 dX7_findFeeders_66 (by decide) ?_
                  refine g_lv [1, 2, 0] rfl ?_
                  exact ih_23 (k + 1) V9 (by omega) (by rw [hV9, ← fixF_t (by omega), show V 3 k = (((V 3 k).toNat : Nat) : Int) by omega]; exact fdI_stand hfd (by omega) (by omega) fixF_at) (by omega)
        refine g_lv [1, 2, 0] rfl ?_
        exact lp_23 _ 0 U (by omega) (by rw [fixF_0]; exact ⟨fun j hj => by rw [hck.2 13 (by omega)]; exact h13 j hj, fun j _ => by rw [hck.2 13 (by omega)], tkI_0 (fun i9 h9 => hck.1 i9 (by omega)) (fun _ _ => rfl), fun c _ b => hck.2 c b⟩) (Nat.lt_succ_self _)
      · refine g_aload_n 0 dX7_findFeeders_8 rfl rfl ?_
        refine g_getf 0 (.ref (a 18)) fX7_62 om_0 dX7_findFeeders_9 rfl ?_
        refine g_iload_n 2 dX7_findFeeders_12 rfl rfl ?_
        refine g_iconst dX7_findFeeders_13 ?_
        refine g_zast 18 i am_18 dX7_findFeeders_14 rfl (by omega) (by decide) ?_
        obtain ⟨V_14, eV_14⟩ : ∃ V9 : Mem, V9 = up U 18 i 0 := ⟨_, rfl⟩
        refine g_mem eV_14.symm ?_
        refine g_iinc 2 [(2, .int (iN ((i : Int) + 1))), (0, .ref (a 0)), (1, .int (iN (m : Int)))] dX7_findFeeders_15 rfl (by decide) rfl ?_
        refine g_goto 2 dX7_findFeeders_18 (by decide) ?_
        refine g_lv [1, 2, 0] rfl ?_
        exact ih_2 (i + 1) V_14 (by omega) (by rw [eV_14]; exact ckI_s hck) (by omega)
  refine g_lv [1, 2, 0] rfl ?_
  exact lp_2 _ 0 V (by omega) (⟨fun j h => absurd h (Nat.not_lt_zero _), fun _ _ => rfl⟩) (Nat.lt_succ_self _)
