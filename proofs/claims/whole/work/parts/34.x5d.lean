set_option maxHeartbeats 4000000 in
/-- TripPlan.weigh() -/
theorem met_X5_weigh {l : Launch} {D : va_G} {τ : Nat → ClassId} {a : Nat → Nat} (ha : Apart (LX τ) a) {V : Mem} (sz : Nat) (hsz : V 44 4 = (sz : Int)) (hsz6 : sz ≤ 6) (hg : Nat → Int) (ds : Nat → Nat → Int) (hm : Nat → Int) (hrow : ∀ k, k < sz → mRow V sz hg ds hm k) (hds : ∀ i j, i < sz → j < sz → 0 ≤ ds i j ∧ ds i j ≤ 100000) (hhm : ∀ i, i < sz → 0 ≤ hm i ∧ hm i ≤ 100000) : CV l D (tysL τ) (LX τ) a yX5_weigh mX5_weigh [.ref (a 44)] V (fun V' => offW V' V ∧ tWL sz hg ds hm (fun q r => V' (56 + q) r) ∧ ∀ set last, set < 2 ^ sz → last < sz → set.testBit last = true → tAt sz hg ds hm (fun q r => V' (56 + q) r) set last) := by
  refine CV.of (by decide +kernel) rfl (Nat.le_of_ble_eq_true rfl) ha (fun x hq => ?_)
  show G l D (tysL τ) (LX τ) a mX5_weigh x 0 [(0, .ref (a 44))] [] V
  have hp2 : 0 < 2 ^ sz := Nat.two_pow_pos sz
  have hp6 : 2 ^ sz ≤ 2 ^ 6 := Nat.pow_le_pow_right (by omega) hsz6
  obtain ⟨lo, hlo⟩ := loF hrow
  refine g_iconst dX5_weigh_0 ?_
  refine g_aload_n 0 dX5_weigh_1 rfl rfl ?_
  refine g_getf 44 (.int (iN (V 44 4))) fX5_26 ox_44 dX5_weigh_2 rfl ?_
  refine g_top (show V 44 4 = (sz : Int) from hsz) ?_
  refine g_ishl ((2 ^ sz : Nat) : Int) dX5_weigh_5 (iN_bit (by omega)) ?_
  refine g_iconst dX5_weigh_6 ?_
  refine g_isub dX5_weigh_7 ?_
  refine g_istore_n [(1, .int (iN (((2 ^ sz : Nat) : Int) - 1))), (0, .ref (a 44))] dX5_weigh_8 rfl (by decide) rfl ?_
  refine g_lve (show ([(1, .int (iN (((2 ^ sz : Nat) : Int) - 1))), (0, .ref (a 44))] : List (Nat × Value)) = ([(1, .int (iN ((2 ^ sz - 1 : Nat) : Int))), (0, .ref (a 44))] : List (Nat × Value)) from by rw [show ((2 ^ sz : Nat) : Int) - 1 = ((2 ^ sz - 1 : Nat) : Int) from by omega]) ?_
  have lp_9 : ∀ (fuel : Nat) (s : Nat) (U : Mem), (s < 2 ^ sz) → (offW U V) → (∀ set last, s < set → set < 2 ^ sz → last < sz → set.testBit last = true → tAt sz hg ds hm (fun q r => U (56 + q) r) set last) → (s) < fuel → G l D (tysL τ) (LX τ) a mX5_weigh x 9 [(0, .ref (a 44)), (1, .int (iN (s : Int)))] [] U := by
    intro fuel
    induction fuel with
    | zero => intro s U hs hoff hWL hfu; exact absurd hfu (Nat.not_lt_zero _)
    | succ fuel ih_9 =>
      intro s U hs hoff hWL hfu
      have u44 : U 44 = V 44 := hoff 44 (by omega)
      have u46 : U 46 = V 46 := hoff 46 (by omega)
      refine g_iload_n 1 dX5_weigh_9 rfl rfl ?_
      refine g_if_le 93 dX5_weigh_10 (by decide) (fun c_1 => ?_) (fun c_1 => ?_)
      · exact g_vret hq rfl dX5_weigh_93 (⟨hoff, fun set last h1 h2 h3 => by have h0 : 0 < set := Nat.pos_of_ne_zero (fun e => by rw [e, Nat.zero_testBit] at h3; cases h3); have := hWL set last (by omega) h1 h2 h3; exact ⟨this.1, this.2.1, this.2.2.1⟩, fun set last h1 h2 h3 => by have h0 : 0 < set := Nat.pos_of_ne_zero (fun e => by rw [e, Nat.zero_testBit] at h3; cases h3); exact hWL set last (by omega) h1 h2 h3⟩)
      · refine g_aload_n 0 dX5_weigh_13 rfl rfl ?_
        refine g_iload_n 1 dX5_weigh_14 rfl rfl ?_
        refine g_callI (k := 44) [.int (iN (s : Int))] (met_X5_followersOf (V := U) ha s sz (by rw [u44]; exact hsz) hsz6 lo (fun i hi => ⟨by rw [u46]; exact (hlo i hi).1, (hlo i hi).2.1⟩) (by omega)) vX5_68 ox_44 rfl rfl ⟨rfl, rfl, Nat.le_of_ble_eq_true rfl, Nat.le_of_ble_eq_true rfl⟩ rfl (Nat.le_of_ble_eq_true rfl) dX5_weigh_15 rfl ?_
        rintro z9 V9 ⟨⟨f, hz9, hf64, hfb⟩, hV9⟩
        replace hV9 := hV9.symm
        subst hV9
        subst hz9
        have hfol := folIff (hg := hg) hsz6 (by omega) (fun i hi => (hlo i hi).2) hfb
        refine g_istore_n [(2, .int (iN (f : Int))), (0, .ref (a 44)), (1, .int (iN (s : Int)))] dX5_weigh_18 rfl (by decide) rfl ?_
        refine g_iconst dX5_weigh_19 ?_
        refine g_istore_n [(3, .int (iN 0)), (2, .int (iN (f : Int))), (0, .ref (a 44)), (1, .int (iN (s : Int)))] dX5_weigh_20 rfl (by decide) rfl ?_
        have lp_21 : ∀ (fuel : Nat) (last : Nat) (W : Mem), (last ≤ sz) → (offW W V) → (∀ set last, s < set → set < 2 ^ sz → last < sz → set.testBit last = true → tAt sz hg ds hm (fun q r => W (56 + q) r) set last) → (∀ l, l < last → s.testBit l = true → tAt sz hg ds hm (fun q r => W (56 + q) r) s l) → (sz - last) < fuel → G l D (tysL τ) (LX τ) a mX5_weigh x 21 [(0, .ref (a 44)), (1, .int (iN (s : Int))), (2, .int (iN (f : Int))), (3, .int (iN (last : Int)))] [] W := by
          intro fuel
          induction fuel with
          | zero => intro last W hl hoffW hWLW hcur hfu; exact absurd hfu (Nat.not_lt_zero _)
          | succ fuel ih_21 =>
            intro last W hl hoffW hWLW hcur hfu
            have w44 : W 44 = V 44 := hoffW 44 (by omega)
            have hd1 : s / 2 ^ last ≤ s := Nat.div_le_self _ _
            refine g_iload_n 3 dX5_weigh_21 rfl rfl ?_
            refine g_aload_n 0 dX5_weigh_22 rfl rfl ?_
            refine g_getf 44 (.int (iN (W 44 4))) fX5_26 ox_44 dX5_weigh_23 rfl ?_
            refine g_top (show W 44 4 = (sz : Int) from by rw [w44]; exact hsz) ?_
            refine g_icmp_ge 87 dX5_weigh_26 (by decide) (fun c_2 => ?_) (fun c_2 => ?_)
            · refine g_iinc 1 [(1, .int (iN ((s : Int) + (-1)))), (0, .ref (a 44)), (2, .int (iN (f : Int))), (3, .int (iN (last : Int)))] dX5_weigh_87 rfl (by decide) rfl ?_
              refine g_goto 9 dX5_weigh_90 (by decide) ?_
              refine g_lve (show ([(1, .int (iN ((s : Int) + (-1)))), (0, .ref (a 44)), (2, .int (iN (f : Int))), (3, .int (iN (last : Int)))] : List (Nat × Value)) = ([(1, .int (iN ((s - 1 : Nat) : Int))), (0, .ref (a 44)), (2, .int (iN (f : Int))), (3, .int (iN (last : Int)))] : List (Nat × Value)) from by rw [show (s : Int) + (-1) = ((s - 1 : Nat) : Int) from by omega]) ?_
              refine g_lv [1, 0] rfl ?_
              exact ih_9 (s - 1) W (by omega) hoffW (fun set l h1 h2 h3 h4 => by by_cases e : set = s; (· rw [e] at h4 ⊢; exact hcur l (by omega) h4); (· exact hWLW set l (by omega) h2 h3 h4)) (by omega)
            · refine g_iload_n 1 dX5_weigh_29 rfl rfl ?_
              refine g_iload_n 3 dX5_weigh_30 rfl rfl ?_
              refine g_ishr ((s / 2 ^ last : Nat) : Int) dX5_weigh_31 (iN_shr (by omega) (by omega)) ?_
              refine g_iconst dX5_weigh_32 ?_
              refine g_iand (((s / 2 ^ last) % 2 : Nat) : Int) dX5_weigh_33 (iN_and1 _) ?_
              refine g_iconst dX5_weigh_34 ?_
              refine g_icmp_ne 81 dX5_weigh_35 (by decide) (fun c_3 => ?_) (fun c_3 => ?_)
              · refine g_iinc 3 [(3, .int (iN ((last : Int) + 1))), (0, .ref (a 44)), (1, .int (iN (s : Int))), (2, .int (iN (f : Int)))] dX5_weigh_81 rfl (by decide) rfl ?_
                refine g_goto 21 dX5_weigh_84 (by decide) ?_
                refine g_lv [1, 2, 3, 0] rfl ?_
                exact ih_21 (last + 1) W (by omega) hoffW hWLW (fun l hl hb => by by_cases e : l = last; (· rw [e] at hb; exact absurd ((tb_iff s last).mp hb) (by omega)); (· exact hcur l (by omega) hb)) (by omega)
              · refine g_aload_n 0 dX5_weigh_38 rfl rfl ?_
                refine g_iload_n 1 dX5_weigh_39 rfl rfl ?_
                refine g_iload_n 2 dX5_weigh_40 rfl rfl ?_
                refine g_iload_n 3 dX5_weigh_41 rfl rfl ?_
                have hwb : ∀ k, tFol sz hg s k → 0 ≤ ds last k + W (56 + (s ||| 2 ^ k)) k ∧ ds last k + W (56 + (s ||| 2 ^ k)) k ≤ 100000 * (64 - (s : Int)) := fun k hk => by
                  have g1 := tOr_gt hk.2.1
                  have g2 := hWLW (s ||| 2 ^ k) k g1 (tOr_lt hs hk.1) hk.1 (tBit_self _ _)
                  have g3 := g2.2.2.2
                  have g4 := hds last k (by omega) hk.1
                  dsimp only at g3
                  omega
                refine g_callI (k := 44) [.int (iN (s : Int)), .int (iN (f : Int)), .int (iN (last : Int))] (met_X5_bestNext (V := W) ha s f last (fun k => ds last k + W (56 + (s ||| 2 ^ k)) k) sz (by rw [w44]; exact hsz) hsz6 (by omega) hf64 (by omega) (fun k hk hf => ⟨by rw [hoffW (48 + last) (by omega), (hrow last (by omega)).2.2.1 k hk], by have := hwb k ((hfol k).mp hf); omega⟩)) vX5_72 ox_44 rfl rfl ⟨rfl, rfl, Nat.le_of_ble_eq_true rfl, Nat.le_of_ble_eq_true rfl⟩ rfl (Nat.le_of_ble_eq_true rfl) dX5_weigh_42 rfl ?_
                rintro z9 V9 ⟨hp9, hV9⟩
                replace hV9 := hV9.symm
                subst hV9
                rcases hp9 with ⟨hz9, hno⟩ | ⟨b, hb, hz9, hfb2, hmin⟩
                · subst hz9
                  refine g_istore [(4, .int (iN (-1))), (0, .ref (a 44)), (1, .int (iN (s : Int))), (2, .int (iN (f : Int))), (3, .int (iN (last : Int)))] dX5_weigh_45 (by decide) rfl ?_
                  refine g_aload_n 1 dX5_weigh_47 rfl rfl ?_
                  refine g_getf 44 (.ref (a 55)) fX5_23 ox_44 dX5_weigh_48 rfl ?_
                  refine g_iload_n 2 dX5_weigh_51 rfl rfl ?_
                  refine g_aald 55 s ax_55 dX5_weigh_52 rfl (by omega) ?_
                  refine g_iload_n 4 dX5_weigh_53 rfl rfl ?_
                  refine g_iload 0 dX5_weigh_54 rfl ?_
                  refine g_iconst dX5_weigh_56 ?_
                  refine g_icmp_ne 72 dX5_weigh_57 (by decide) (fun c_4 => absurd c_4 (by decide)) (fun _ => ?_)
                  refine g_aload_n 1 dX5_weigh_60 rfl rfl ?_
                  refine g_getf 44 (.ref (a 47)) fX5_20 ox_44 dX5_weigh_61 rfl ?_
                  refine g_iload_n 4 dX5_weigh_64 rfl rfl ?_
                  refine g_aald 47 last ax_47 dX5_weigh_65 rfl (by omega) ?_
                  refine g_bipush dX5_weigh_66 rfl ?_
                  refine g_iald (48 + last) 6 (ax_Y (i := last) (by omega)) dX5_weigh_68 rfl (by decide) ?_
                  refine g_top (show W (48 + last) 6 = hm last from by rw [hoffW (48 + last) (by omega)]; exact (hrow last (by omega)).1) ?_
                  refine g_goto 80 dX5_weigh_69 (by decide) ?_
                  refine g_iast (56 + s) last (ax_Z (i := s) (by omega)) dX5_weigh_80 rfl (by omega) ?_
                  obtain ⟨V_5, eV_5⟩ : ∃ V9 : Mem, V9 = up W (56 + s) last (hm last) := ⟨_, rfl⟩
                  refine g_mem eV_5.symm ?_
                  refine g_iinc 4 [(3, .int (iN ((last : Int) + 1))), (4, .int (iN (-1))), (0, .ref (a 44)), (1, .int (iN (s : Int))), (2, .int (iN (f : Int)))] dX5_weigh_81 rfl (by decide) rfl ?_
                  refine g_goto 21 dX5_weigh_84 (by decide) ?_
                  refine g_lv [2, 3, 4, 0] rfl ?_
                  exact ih_21 (last + 1) V_5 (by omega) (by rw [eV_5]; exact offW_up hoffW (by omega)) (fun set l h1 h2 h3 h4 => by rw [eV_5]; exact tAt_up (Or.inl h1) (hWLW set l h1 h2 h3 h4)) (fun l hl hb => by rw [eV_5]; by_cases e : l = last; (· rw [e]; exact tAt_none (by omega) (fun i hi => by have := hno i hi.1; rw [(hfol i).mpr hi] at this; cases this) (hhm last (by omega))); (· exact tAt_up (Or.inr ⟨rfl, e⟩) (hcur l (by omega) hb))) (by omega)
                · subst hz9
                  refine g_istore [(4, .int (iN (b : Int))), (0, .ref (a 44)), (1, .int (iN (s : Int))), (2, .int (iN (f : Int))), (3, .int (iN (last : Int)))] dX5_weigh_45 (by decide) rfl ?_
                  refine g_aload_n 1 dX5_weigh_47 rfl rfl ?_
                  refine g_getf 44 (.ref (a 55)) fX5_23 ox_44 dX5_weigh_48 rfl ?_
                  refine g_iload_n 2 dX5_weigh_51 rfl rfl ?_
                  refine g_aald 55 s ax_55 dX5_weigh_52 rfl (by omega) ?_
                  refine g_iload_n 4 dX5_weigh_53 rfl rfl ?_
                  refine g_iload 0 dX5_weigh_54 rfl ?_
                  refine g_iconst dX5_weigh_56 ?_
                  refine g_icmp_ne 72 dX5_weigh_57 (by decide) (fun c_6 => ?_) (fun c_6 => ?_)
                  · refine g_aload_n 1 dX5_weigh_72 rfl rfl ?_
                    refine g_iload_n 2 dX5_weigh_73 rfl rfl ?_
                    refine g_iload_n 4 dX5_weigh_74 rfl rfl ?_
                    refine g_iload 0 dX5_weigh_75 rfl ?_
                    refine g_callI (k := 44) [.int (iN (s : Int)), .int (iN (last : Int)), .int (iN (b : Int))] (met_X5_wayOver (V := W) ha s last b (by omega) (by omega) (by omega)) vX5_76 ox_44 rfl rfl ⟨rfl, rfl, Nat.le_of_ble_eq_true rfl, Nat.le_of_ble_eq_true rfl⟩ rfl (Nat.le_of_ble_eq_true rfl) dX5_weigh_77 rfl ?_
                    rintro z9 V9 ⟨hz9, hV9⟩
                    replace hz9 := hz9.symm
                    replace hV9 := hV9.symm
                    subst hz9
                    subst hV9
                    refine g_top (show W (48 + last) b + W (56 + (s ||| 2 ^ b)) b = ds last b + W (56 + (s ||| 2 ^ b)) b from by rw [hoffW (48 + last) (by omega), (hrow last (by omega)).2.2.1 b hb]) ?_
                    refine g_iast (56 + s) last (ax_Z (i := s) (by omega)) dX5_weigh_80 rfl (by omega) ?_
                    obtain ⟨V_7, eV_7⟩ : ∃ V9 : Mem, V9 = up W (56 + s) last (ds last b + W (56 + (s ||| 2 ^ b)) b) := ⟨_, rfl⟩
                    refine g_mem eV_7.symm ?_
                    refine g_iinc 4 [(3, .int (iN ((last : Int) + 1))), (4, .int (iN (b : Int))), (0, .ref (a 44)), (1, .int (iN (s : Int))), (2, .int (iN (f : Int)))] dX5_weigh_81 rfl (by decide) rfl ?_
                    refine g_goto 21 dX5_weigh_84 (by decide) ?_
                    refine g_lv [2, 3, 4, 0] rfl ?_
                    exact ih_21 (last + 1) V_7 (by omega) (by rw [eV_7]; exact offW_up hoffW (by omega)) (fun set l h1 h2 h3 h4 => by rw [eV_7]; exact tAt_up (Or.inl h1) (hWLW set l h1 h2 h3 h4)) (fun l hl hb => by rw [eV_7]; by_cases e : l = last; (· rw [e]; exact tAt_best ((hfol b).mp hfb2) (fun k hk => (hmin k hk.1 ((hfol k).mpr hk)).1) (hwb b ((hfol b).mp hfb2)).1 (hwb b ((hfol b).mp hfb2)).2); (· exact tAt_up (Or.inr ⟨rfl, e⟩) (hcur l (by omega) hb))) (by omega)
                  · omega
        refine g_lv [2, 3, 1, 0] rfl ?_
        exact lp_21 _ 0 U (Nat.zero_le _) hoff hWL (fun l h => absurd h (Nat.not_lt_zero _)) (Nat.lt_succ_self _)
  refine g_lv [1, 0] rfl ?_
  exact lp_9 _ (2 ^ sz - 1) V (by omega) (fun _ _ => rfl) (fun set last h1 h2 => by omega) (Nat.lt_succ_self _)
