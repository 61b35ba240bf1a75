set_option maxHeartbeats 4000000 in
/-- TripPlan.wayOver(placed, last, next) -/
theorem met_X5_wayOver {l : Launch} {D : va_G} {τ : Nat → ClassId} {a : Nat → Nat} (ha : Apart (LX τ) a) {V : Mem} (s0 last next : Nat) (hs : s0 < 64) (hl : last < 7) (hx : next < 6) : CI l D (tysL τ) (LX τ) a yX5_wayOver mX5_wayOver [.ref (a 44), .int (iN (s0 : Int)), .int (iN (last : Int)), .int (iN (next : Int))] V (fun z V' => z = V (48 + last) next + V (56 + (s0 ||| 2 ^ next)) next ∧ V' = V) := by
  refine CI.of (by decide +kernel) rfl (Nat.le_of_ble_eq_true rfl) ha (fun x hq => ?_)
  show G l D (tysL τ) (LX τ) a mX5_wayOver x 0 [(0, .ref (a 44)), (1, .int (iN (s0 : Int))), (2, .int (iN (last : Int))), (3, .int (iN (next : Int)))] [] V
  have hor : s0 ||| 2 ^ next < 64 := tOr_lt (sz := 6) hs hx
  refine g_aload_n 0 dX5_wayOver_0 rfl rfl ?_
  refine g_getf 44 (.ref (a 47)) fX5_20 ox_44 dX5_wayOver_1 rfl ?_
  refine g_iload_n 2 dX5_wayOver_4 rfl rfl ?_
  refine g_aald 47 last ax_47 dX5_wayOver_5 rfl (by omega) ?_
  refine g_iload_n 3 dX5_wayOver_6 rfl rfl ?_
  refine g_iald (48 + last) next (ax_Y (i := last) (by omega)) dX5_wayOver_7 rfl (by omega) ?_
  refine g_aload_n 0 dX5_wayOver_8 rfl rfl ?_
  refine g_getf 44 (.ref (a 55)) fX5_23 ox_44 dX5_wayOver_9 rfl ?_
  refine g_iload_n 1 dX5_wayOver_12 rfl rfl ?_
  refine g_iconst dX5_wayOver_13 ?_
  refine g_iload_n 3 dX5_wayOver_14 rfl rfl ?_
  refine g_ishl ((2 ^ next : Nat) : Int) dX5_wayOver_15 (iN_bit (by omega)) ?_
  refine g_ior ((s0 ||| (2 ^ next) : Nat) : Int) dX5_wayOver_16 (iN_or _ _) ?_
  refine g_aald 55 (s0 ||| (2 ^ next)) ax_55 dX5_wayOver_17 rfl (by omega) ?_
  refine g_iload_n 3 dX5_wayOver_18 rfl rfl ?_
  refine g_iald (56 + (s0 ||| (2 ^ next))) next (ax_Z (i := s0 ||| (2 ^ next)) (by omega)) dX5_wayOver_19 rfl (by omega) ?_
  refine g_iadd dX5_wayOver_20 ?_
  exact g_iret hq rfl rfl dX5_wayOver_21 (⟨rfl, rfl⟩)

set_option maxHeartbeats 4000000 in
/-- TripPlan.followersOf(placed) -/
theorem met_X5_followersOf {l : Launch} {D : va_G} {τ : Nat → ClassId} {a : Nat → Nat} (ha : Apart (LX τ) a) {V : Mem} (s0 : Nat) (sz : Nat) (hsz : V 44 4 = (sz : Int)) (hsz6 : sz ≤ 6) (lo : Nat → Nat) (hlo : ∀ i, i < sz → V 46 i = (lo i : Int) ∧ lo i < 64) (hs : s0 < 64) : CI l D (tysL τ) (LX τ) a yX5_followersOf mX5_followersOf [.ref (a 44), .int (iN (s0 : Int))] V (fun z V' => (∃ f : Nat, z = (f : Int) ∧ f < 64 ∧ ∀ k, f.testBit k = decide (k < sz ∧ (s0.testBit k = false ∧ lo k &&& (63 - s0) = 0))) ∧ V' = V) := by
  refine CI.of (by decide +kernel) rfl (Nat.le_of_ble_eq_true rfl) ha (fun x hq => ?_)
  show G l D (tysL τ) (LX τ) a mX5_followersOf x 0 [(0, .ref (a 44)), (1, .int (iN (s0 : Int)))] [] V
  refine g_iconst dX5_followersOf_0 ?_
  refine g_istore_n [(2, .int (iN 0)), (0, .ref (a 44)), (1, .int (iN (s0 : Int)))] dX5_followersOf_1 rfl (by decide) rfl ?_
  refine g_iconst dX5_followersOf_2 ?_
  refine g_istore_n [(3, .int (iN 0)), (2, .int (iN 0)), (0, .ref (a 44)), (1, .int (iN (s0 : Int)))] dX5_followersOf_3 rfl (by decide) rfl ?_
  have lp_4 : ∀ (fuel : Nat) (i : Nat) (f : Nat), (i ≤ sz) → (f < 64) → (∀ k, f.testBit k = decide (k < i ∧ (s0.testBit k = false ∧ lo k &&& (63 - s0) = 0))) → (sz - i) < fuel → G l D (tysL τ) (LX τ) a mX5_followersOf x 4 [(0, .ref (a 44)), (1, .int (iN (s0 : Int))), (2, .int (iN (f : Int))), (3, .int (iN (i : Int)))] [] V := by
    intro fuel
    induction fuel with
    | zero => intro i f hi hf64 hbit hfu; exact absurd hfu (Nat.not_lt_zero _)
    | succ fuel ih_4 =>
      intro i f hi hf64 hbit hfu
      have hd1 : s0 / 2 ^ i ≤ s0 := Nat.div_le_self _ _
      refine g_iload_n 3 dX5_followersOf_4 rfl rfl ?_
      refine g_aload_n 0 dX5_followersOf_5 rfl rfl ?_
      refine g_getf 44 (.int (iN (V 44 4))) fX5_26 ox_44 dX5_followersOf_6 rfl ?_
      refine g_top (show V 44 4 = (sz : Int) from hsz) ?_
      refine g_icmp_ge 45 dX5_followersOf_9 (by decide) (fun c_1 => ?_) (fun c_1 => ?_)
      · refine g_iload_n 2 dX5_followersOf_45 rfl rfl ?_
        exact g_iret hq rfl rfl dX5_followersOf_46 (⟨⟨f, rfl, hf64, by rw [← show i = sz by omega]; exact hbit⟩, rfl⟩)
      · refine g_iload_n 1 dX5_followersOf_12 rfl rfl ?_
        refine g_iload_n 3 dX5_followersOf_13 rfl rfl ?_
        refine g_ishr ((s0 / 2 ^ i : Nat) : Int) dX5_followersOf_14 (iN_shr (by omega) (by omega)) ?_
        refine g_iconst dX5_followersOf_15 ?_
        refine g_iand (((s0 / 2 ^ i) % 2 : Nat) : Int) dX5_followersOf_16 (iN_and1 _) ?_
        refine g_if_ne 39 dX5_followersOf_17 (by decide) (fun c_2 => ?_) (fun c_2 => ?_)
        · refine g_iinc 3 [(3, .int (iN ((i : Int) + 1))), (0, .ref (a 44)), (1, .int (iN (s0 : Int))), (2, .int (iN (f : Int)))] dX5_followersOf_39 rfl (by decide) rfl ?_
          refine g_goto 4 dX5_followersOf_42 (by decide) ?_
          refine g_lv [1, 2, 3, 0] rfl ?_
          exact ih_4 (i + 1) f (by omega) hf64 (fBitN hbit (fun z => by have := (tb_not s0 i).mp z.1; have := z.2; omega)) (by omega)
        · refine g_aload_n 0 dX5_followersOf_20 rfl rfl ?_
          refine g_getf 44 (.ref (a 46)) fX5_15 ox_44 dX5_followersOf_21 rfl ?_
          refine g_iload_n 3 dX5_followersOf_24 rfl rfl ?_
          refine g_iald 46 i ax_46 dX5_followersOf_25 rfl (by omega) ?_
          refine g_top (show V 46 i = ((lo i : Nat) : Int) from (hlo i (by omega)).1) ?_
          refine g_iload_n 1 dX5_followersOf_26 rfl rfl ?_
          refine g_iconst dX5_followersOf_27 ?_
          refine g_ixor (-(s0 : Int) - 1) dX5_followersOf_28 (xor_m1 hs) ?_
          refine g_iand ((lo i &&& (63 - s0) : Nat) : Int) dX5_followersOf_29 (and_not (hlo i (by omega)).2 hs) ?_
          have hle : lo i &&& (63 - s0) ≤ lo i := Nat.and_le_left
          have hll := (hlo i (by omega)).2
          refine g_if_ne 39 dX5_followersOf_30 (by decide) (fun c_3 => ?_) (fun c_3 => ?_)
          · refine g_iinc 3 [(3, .int (iN ((i : Int) + 1))), (0, .ref (a 44)), (1, .int (iN (s0 : Int))), (2, .int (iN (f : Int)))] dX5_followersOf_39 rfl (by decide) rfl ?_
            refine g_goto 4 dX5_followersOf_42 (by decide) ?_
            refine g_lv [1, 2, 3, 0] rfl ?_
            exact ih_4 (i + 1) f (by omega) hf64 (fBitN hbit (fun z => by have := (tb_not s0 i).mp z.1; have := z.2; omega)) (by omega)
          · refine g_iload_n 2 dX5_followersOf_33 rfl rfl ?_
            refine g_iconst dX5_followersOf_34 ?_
            refine g_iload_n 3 dX5_followersOf_35 rfl rfl ?_
            refine g_ishl ((2 ^ i : Nat) : Int) dX5_followersOf_36 (iN_bit (by omega)) ?_
            refine g_ior ((f ||| (2 ^ i) : Nat) : Int) dX5_followersOf_37 (iN_or _ _) ?_
            refine g_istore_n [(2, .int (iN ((f ||| (2 ^ i) : Nat) : Int))), (0, .ref (a 44)), (1, .int (iN (s0 : Int))), (3, .int (iN (i : Int)))] dX5_followersOf_38 rfl (by decide) rfl ?_
            refine g_iinc 3 [(3, .int (iN ((i : Int) + 1))), (2, .int (iN ((f ||| (2 ^ i) : Nat) : Int))), (0, .ref (a 44)), (1, .int (iN (s0 : Int)))] dX5_followersOf_39 rfl (by decide) rfl ?_
            refine g_goto 4 dX5_followersOf_42 (by decide) ?_
            refine g_lv [2, 3, 1, 0] rfl ?_
            exact ih_4 (i + 1) (f ||| (2 ^ i)) (by omega) (tOr_lt (sz := 6) hf64 (by omega)) (fBit hbit rfl ⟨(tb_not s0 i).mpr (by omega), by omega⟩) (by omega)
  refine g_lv [2, 3, 1, 0] rfl ?_
  exact lp_4 _ 0 0 (Nat.zero_le _) (by omega) (fun k => by rw [Nat.zero_testBit]; exact (decide_eq_false (by omega)).symm) (Nat.lt_succ_self _)

set_option maxHeartbeats 4000000 in
/-- TripPlan.bestNext(placed, followers, last) -/
theorem met_X5_bestNext {l : Launch} {D : va_G} {τ : Nat → ClassId} {a : Nat → Nat} (ha : Apart (LX τ) a) {V : Mem} (s0 f last : Nat) (w : Nat → Int) (sz : Nat) (hsz : V 44 4 = (sz : Int)) (hsz6 : sz ≤ 6) (hs : s0 < 64) (hf64 : f < 64) (hl : last < 7) (hw : ∀ k, k < sz → f.testBit k = true → V (48 + last) k + V (56 + (s0 ||| 2 ^ k)) k = w k ∧ 0 ≤ w k ∧ w k ≤ 10000000) : CI l D (tysL τ) (LX τ) a yX5_bestNext mX5_bestNext [.ref (a 44), .int (iN (s0 : Int)), .int (iN (f : Int)), .int (iN (last : Int))] V (fun z V' => ((z = -1 ∧ ∀ k, k < sz → f.testBit k = false) ∨ ∃ b : Nat, b < sz ∧ z = (b : Int) ∧ f.testBit b = true ∧ ∀ k, k < sz → f.testBit k = true → w b ≤ w k ∧ (w k ≤ w b → b ≤ k)) ∧ V' = V) := by
  refine CI.of (by decide +kernel) rfl (Nat.le_of_ble_eq_true rfl) ha (fun x hq => ?_)
  show G l D (tysL τ) (LX τ) a mX5_bestNext x 0 [(0, .ref (a 44)), (1, .int (iN (s0 : Int))), (2, .int (iN (f : Int))), (3, .int (iN (last : Int)))] [] V
  refine g_iconst dX5_bestNext_0 ?_
  refine g_istore [(4, .int (iN (-1))), (0, .ref (a 44)), (1, .int (iN (s0 : Int))), (2, .int (iN (f : Int))), (3, .int (iN (last : Int)))] dX5_bestNext_1 (by decide) rfl ?_
  refine g_iconst dX5_bestNext_3 ?_
  refine g_istore [(5, .int (iN 0)), (4, .int (iN (-1))), (0, .ref (a 44)), (1, .int (iN (s0 : Int))), (2, .int (iN (f : Int))), (3, .int (iN (last : Int)))] dX5_bestNext_4 (by decide) rfl ?_
  refine g_iconst dX5_bestNext_6 ?_
  refine g_istore [(6, .int (iN 0)), (5, .int (iN 0)), (4, .int (iN (-1))), (0, .ref (a 44)), (1, .int (iN (s0 : Int))), (2, .int (iN (f : Int))), (3, .int (iN (last : Int)))] dX5_bestNext_7 (by decide) rfl ?_
  have lp_9 : ∀ (fuel : Nat) (i : Nat) (best : Int) (least : Int), (i ≤ sz) → (bInv f w i best least) → (sz - i) < fuel → G l D (tysL τ) (LX τ) a mX5_bestNext x 9 [(0, .ref (a 44)), (1, .int (iN (s0 : Int))), (2, .int (iN (f : Int))), (3, .int (iN (last : Int))), (4, .int (iN best)), (5, .int (iN least)), (6, .int (iN (i : Int)))] [] V := by
    intro fuel
    induction fuel with
    | zero => intro i best least hi hb hfu; exact absurd hfu (Nat.not_lt_zero _)
    | succ fuel ih_9 =>
      intro i best least hi hb hfu
      have hbb := bInv_b hb (by omega)
      have hd1 : f / 2 ^ i ≤ f := Nat.div_le_self _ _
      refine g_iload 6 dX5_bestNext_9 rfl ?_
      refine g_aload_n 0 dX5_bestNext_11 rfl rfl ?_
      refine g_getf 44 (.int (iN (V 44 4))) fX5_26 ox_44 dX5_bestNext_12 rfl ?_
      refine g_top (show V 44 4 = (sz : Int) from hsz) ?_
      refine g_icmp_ge 65 dX5_bestNext_15 (by decide) (fun c_1 => ?_) (fun c_1 => ?_)
      · refine g_iload 4 dX5_bestNext_65 rfl ?_
        exact g_iret hq rfl rfl dX5_bestNext_67 (⟨by rw [← show i = sz by omega]; rcases hb with q | ⟨b, q1, q2, q3, q4, q5⟩; (· exact Or.inl q); (· exact Or.inr ⟨b, q1, q2, q3, q5⟩), rfl⟩)
      · refine g_iload_n 2 dX5_bestNext_18 rfl rfl ?_
        refine g_iload 6 dX5_bestNext_19 rfl ?_
        refine g_ishr ((f / 2 ^ i : Nat) : Int) dX5_bestNext_21 (iN_shr (by omega) (by omega)) ?_
        refine g_iconst dX5_bestNext_22 ?_
        refine g_iand (((f / 2 ^ i) % 2 : Nat) : Int) dX5_bestNext_23 (iN_and1 _) ?_
        refine g_iconst dX5_bestNext_24 ?_
        refine g_icmp_ne 59 dX5_bestNext_25 (by decide) (fun c_2 => ?_) (fun c_2 => ?_)
        · refine g_iinc 6 [(6, .int (iN ((i : Int) + 1))), (0, .ref (a 44)), (1, .int (iN (s0 : Int))), (2, .int (iN (f : Int))), (3, .int (iN (last : Int))), (4, .int (iN best)), (5, .int (iN least))] dX5_bestNext_59 rfl (by decide) rfl ?_
          refine g_goto 9 dX5_bestNext_62 (by decide) ?_
          refine g_lv [1, 2, 3, 4, 5, 6, 0] rfl ?_
          exact ih_9 (i + 1) best least (by omega) (bInv_skip hb ((tb_not f i).mpr (by omega))) (by omega)
        · refine g_aload_n 0 dX5_bestNext_28 rfl rfl ?_
          refine g_iload_n 1 dX5_bestNext_29 rfl rfl ?_
          refine g_iload_n 3 dX5_bestNext_30 rfl rfl ?_
          refine g_iload 6 dX5_bestNext_31 rfl ?_
          refine g_callI (k := 44) [.int (iN (s0 : Int)), .int (iN (last : Int)), .int (iN (i : Int))] (met_X5_wayOver ha s0 last i hs hl (by omega)) vX5_76 ox_44 rfl rfl ⟨rfl, rfl, Nat.le_of_ble_eq_true rfl, Nat.le_of_ble_eq_true rfl⟩ rfl (Nat.le_of_ble_eq_true rfl) dX5_bestNext_33 rfl ?_
          rintro z9 V9 ⟨hz9, hV9⟩
          replace hz9 := hz9.symm
          replace hV9 := hV9.symm
          subst hz9
          subst hV9
          have hwi := hw i (by omega) ((tb_iff f i).mpr (by omega))
          refine g_top (show V (48 + last) i + V (56 + (s0 ||| 2 ^ i)) i = w i from hwi.1) ?_
          refine g_istore [(7, .int (iN (w i))), (0, .ref (a 44)), (1, .int (iN (s0 : Int))), (2, .int (iN (f : Int))), (3, .int (iN (last : Int))), (4, .int (iN best)), (5, .int (iN least)), (6, .int (iN (i : Int)))] dX5_bestNext_36 (by decide) rfl ?_
          refine g_iload 5 dX5_bestNext_38 rfl ?_
          refine g_iconst dX5_bestNext_40 ?_
          refine g_icmp_eq 51 dX5_bestNext_41 (by decide) (fun c_3 => ?_) (fun c_3 => ?_)
          · refine g_iload 7 dX5_bestNext_51 rfl ?_
            refine g_istore [(4, .int (iN (i : Int))), (7, .int (iN (w i))), (0, .ref (a 44)), (1, .int (iN (s0 : Int))), (2, .int (iN (f : Int))), (3, .int (iN (last : Int))), (5, .int (iN least)), (6, .int (iN (i : Int)))] dX5_bestNext_53 (by decide) rfl ?_
            refine g_iload 1 dX5_bestNext_55 rfl ?_
            refine g_istore [(5, .int (iN (w i))), (4, .int (iN (i : Int))), (7, .int (iN (w i))), (0, .ref (a 44)), (1, .int (iN (s0 : Int))), (2, .int (iN (f : Int))), (3, .int (iN (last : Int))), (6, .int (iN (i : Int)))] dX5_bestNext_57 (by decide) rfl ?_
            refine g_iinc 7 [(6, .int (iN ((i : Int) + 1))), (5, .int (iN (w i))), (4, .int (iN (i : Int))), (7, .int (iN (w i))), (0, .ref (a 44)), (1, .int (iN (s0 : Int))), (2, .int (iN (f : Int))), (3, .int (iN (last : Int)))] dX5_bestNext_59 rfl (by decide) rfl ?_
            refine g_goto 9 dX5_bestNext_62 (by decide) ?_
            refine g_lv [4, 5, 6, 7, 2, 1, 0] rfl ?_
            exact ih_9 (i + 1) (i : Int) (w i) (by omega) (bInv_take hb ((tb_iff f i).mpr (by omega)) (by omega)) (by omega)
          · have hll := bInv_l hb (fun k hk hf => (hw k (by omega) hf).2) (by omega)
            refine g_iload 0 dX5_bestNext_44 rfl ?_
            refine g_iload 6 dX5_bestNext_46 rfl ?_
            refine g_icmp_ge 59 dX5_bestNext_48 (by decide) (fun c_4 => ?_) (fun c_4 => ?_)
            · refine g_iinc 7 [(6, .int (iN ((i : Int) + 1))), (7, .int (iN (w i))), (0, .ref (a 44)), (1, .int (iN (s0 : Int))), (2, .int (iN (f : Int))), (3, .int (iN (last : Int))), (4, .int (iN best)), (5, .int (iN least))] dX5_bestNext_59 rfl (by decide) rfl ?_
              refine g_goto 9 dX5_bestNext_62 (by decide) ?_
              refine g_lv [2, 3, 4, 5, 6, 7, 0] rfl ?_
              exact ih_9 (i + 1) best least (by omega) (bInv_keep hb (by omega) (by omega)) (by omega)
            · refine g_iload 7 dX5_bestNext_51 rfl ?_
              refine g_istore [(4, .int (iN (i : Int))), (7, .int (iN (w i))), (0, .ref (a 44)), (1, .int (iN (s0 : Int))), (2, .int (iN (f : Int))), (3, .int (iN (last : Int))), (5, .int (iN least)), (6, .int (iN (i : Int)))] dX5_bestNext_53 (by decide) rfl ?_
              refine g_iload 1 dX5_bestNext_55 rfl ?_
              refine g_istore [(5, .int (iN (w i))), (4, .int (iN (i : Int))), (7, .int (iN (w i))), (0, .ref (a 44)), (1, .int (iN (s0 : Int))), (2, .int (iN (f : Int))), (3, .int (iN (last : Int))), (6, .int (iN (i : Int)))] dX5_bestNext_57 (by decide) rfl ?_
              refine g_iinc 7 [(6, .int (iN ((i : Int) + 1))), (5, .int (iN (w i))), (4, .int (iN (i : Int))), (7, .int (iN (w i))), (0, .ref (a 44)), (1, .int (iN (s0 : Int))), (2, .int (iN (f : Int))), (3, .int (iN (last : Int)))] dX5_bestNext_59 rfl (by decide) rfl ?_
              refine g_goto 9 dX5_bestNext_62 (by decide) ?_
              refine g_lv [4, 5, 6, 7, 2, 1, 0] rfl ?_
              exact ih_9 (i + 1) (i : Int) (w i) (by omega) (bInv_take hb ((tb_iff f i).mpr (by omega)) (by omega)) (by omega)
  refine g_lv [3, 4, 5, 6, 2, 1, 0] rfl ?_
  exact lp_9 _ 0 (-1) 0 (Nat.zero_le _) bInv_0 (Nat.lt_succ_self _)
