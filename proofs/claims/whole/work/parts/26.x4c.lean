set_option maxHeartbeats 4000000 in
/-- Shares.chooseHomes() -/
theorem met_X4_chooseHomes {l : Launch} {D : va_G} {τ : Nat → ClassId} {a : Nat → Nat} (ha : Apart (LX τ) a) {V : Mem} (lim : Nat) (t : Nat) (ht : V 27 6 = (t : Int)) (ht40 : t ≤ 40) (n : Nat) (hn : V 27 5 = (n : Int)) (hn10 : n ≤ 10) (hamt : ∀ i, i < n → 0 ≤ V 30 i ∧ V 30 i ≤ 40) (hhost : ∀ i, i < n → 0 ≤ V 31 i ∧ V 31 i ≤ 7) (hrows : ∀ j, j ≤ n → rowOk V V lim t n j) (hkd : ∀ i, i < n → 0 ≤ V 29 i ∧ V 29 i < 10) (hdist : ∀ i j, i < n → j < n → V 29 i = V 29 j → i = j) (hf0 : iFin V lim t n n 0 0 = true) : CV l D (tysL τ) (LX τ) a yX4_chooseHomes mX4_chooseHomes [.ref (a 27)] V (fun V' => ∃ h : Nat → Nat, (∀ k, k < n → grA V lim t n k (iLd V h 0 k) (iLd V h 1 k) (h k)) ∧ (∀ k, k < n → V' 28 (V 29 k).toNat = (h k : Int)) ∧ (∀ j, (∀ k, k < n → (V 29 k).toNat ≠ j) → V' 28 j = V 28 j) ∧ ∀ c, c ≠ 28 → V' c = V c) := by
  refine CV.of (by decide +kernel) rfl (Nat.le_of_ble_eq_true rfl) ha (fun x hq => ?_)
  show G l D (tysL τ) (LX τ) a mX4_chooseHomes x 0 [(0, .ref (a 27))] [] V
  refine g_iconst dX4_chooseHomes_0 ?_
  refine g_istore_n [(1, .int (iN 0)), (0, .ref (a 27))] dX4_chooseHomes_1 rfl (by decide) rfl ?_
  refine g_iconst dX4_chooseHomes_2 ?_
  refine g_istore_n [(2, .int (iN 0)), (1, .int (iN 0)), (0, .ref (a 27))] dX4_chooseHomes_3 rfl (by decide) rfl ?_
  refine g_iconst dX4_chooseHomes_4 ?_
  refine g_istore_n [(3, .int (iN 0)), (2, .int (iN 0)), (1, .int (iN 0)), (0, .ref (a 27))] dX4_chooseHomes_5 rfl (by decide) rfl ?_
  have lp_6 : ∀ (fuel : Nat) (i : Nat) (p : Nat) (q : Nat) (h : Nat → Nat) (U : Mem), (chInv V lim t n i p q h U) → (n - i) < fuel → G l D (tysL τ) (LX τ) a mX4_chooseHomes x 6 [(0, .ref (a 27)), (1, .int (iN (p : Int))), (2, .int (iN (q : Int))), (3, .int (iN (i : Int)))] [] U := by
    intro fuel
    induction fuel with
    | zero => intro i p q h U hinv hfu; exact absurd hfu (Nat.not_lt_zero _)
    | succ fuel ih_6 =>
      intro i p q h U hinv hfu
      obtain ⟨hi, hp, hq3, hgr, hset, hrest, hoff, hfin⟩ := id hinv
      have u27 : U 27 = V 27 := hoff 27 (by omega)
      have u29 : U 29 = V 29 := hoff 29 (by omega)
      have u30 : U 30 = V 30 := hoff 30 (by omega)
      have u31 : U 31 = V 31 := hoff 31 (by omega)
      have hpq := sFin_le hfin
      refine g_iload_n 3 dX4_chooseHomes_6 rfl rfl ?_
      refine g_aload_n 0 dX4_chooseHomes_7 rfl rfl ?_
      refine g_getf 27 (.int (iN (U 27 5))) fX4_29 ox_27 dX4_chooseHomes_8 rfl ?_
      refine g_top (show U 27 5 = (n : Int) from by rw [u27]; exact hn) ?_
      refine g_icmp_ge 128 dX4_chooseHomes_11 (by decide) (fun c_1 => ?_) (fun c_1 => ?_)
      · exact g_vret hq rfl dX4_chooseHomes_128 (⟨h, by have e9 : i = n := (by omega); subst e9; exact ⟨hgr, hset, hrest, hoff⟩⟩)
      · obtain ⟨E, hE1, hE2, hE3⟩ := iRow (hrows (i + 1) (by omega))
        have hct : iCt V i = (V 30 i).toNat := rfl
        have hai := hamt i (by omega)
        have hki := hkd i (by omega)
        have hdi : ∀ k, k < i → (V 29 k).toNat ≠ (V 29 i).toNat := fun k hk e => absurd (hdist k i (by omega) (by omega) (by have := hkd k (by omega); omega)) (by omega)
        refine g_aload_n 0 dX4_chooseHomes_14 rfl rfl ?_
        refine g_getf 27 (.ref (a 30)) fX4_18 ox_27 dX4_chooseHomes_15 rfl ?_
        refine g_iload_n 3 dX4_chooseHomes_18 rfl rfl ?_
        refine g_iald 30 i ax_30 dX4_chooseHomes_19 rfl (by omega) ?_
        refine g_top (show U 30 i = ((iCt V i : Nat) : Int) from by rw [u30, hct]; omega) ?_
        refine g_istore [(4, .int (iN ((iCt V i : Nat) : Int))), (0, .ref (a 27)), (1, .int (iN (p : Int))), (2, .int (iN (q : Int))), (3, .int (iN (i : Int)))] dX4_chooseHomes_20 (by decide) rfl ?_
        have jn_110 : (¬ (iMay V i 0 = true ∧ iFin V lim t n (n - (i + 1)) (p + iCt V i) q = true)) → (¬ (iMay V i 1 = true ∧ iFin V lim t n (n - (i + 1)) p (q + iCt V i) = true)) → G l D (tysL τ) (LX τ) a mX4_chooseHomes x 110 [(0, .ref (a 27)), (1, .int (iN (p : Int))), (2, .int (iN (q : Int))), (3, .int (iN (i : Int))), (4, .int (iN ((iCt V i : Nat) : Int)))] [] U := by
          intro hn0 hn1
          refine g_aload_n 0 dX4_chooseHomes_110 rfl rfl ?_
          refine g_getf 27 (.ref (a 28)) fX4_9 ox_27 dX4_chooseHomes_111 rfl ?_
          refine g_aload_n 0 dX4_chooseHomes_114 rfl rfl ?_
          refine g_getf 27 (.ref (a 29)) fX4_15 ox_27 dX4_chooseHomes_115 rfl ?_
          refine g_iload_n 3 dX4_chooseHomes_118 rfl rfl ?_
          refine g_iald 29 i ax_29 dX4_chooseHomes_119 rfl (by omega) ?_
          refine g_top (show U 29 i = (((V 29 i).toNat : Nat) : Int) from by rw [u29]; omega) ?_
          refine g_iconst dX4_chooseHomes_120 ?_
          refine g_iast 28 ((V 29 i).toNat) ax_28 dX4_chooseHomes_121 rfl (by omega) ?_
          obtain ⟨V_2, eV_2⟩ : ∃ V9 : Mem, V9 = up U 28 ((V 29 i).toNat) 2 := ⟨_, rfl⟩
          refine g_mem eV_2.symm ?_
          refine g_iinc 3 [(3, .int (iN ((i : Int) + 1))), (0, .ref (a 27)), (1, .int (iN (p : Int))), (2, .int (iN (q : Int))), (4, .int (iN ((iCt V i : Nat) : Int)))] dX4_chooseHomes_122 rfl (by decide) rfl ?_
          refine g_goto 6 dX4_chooseHomes_125 (by decide) ?_
          refine g_lv [1, 2, 3, 0] rfl ?_
          exact ih_6 (i + 1) p q (fun j => if j = i then 2 else h j) V_2 (by rw [eV_2]; exact chInv_s hinv (by omega) hdi (Or.inr (Or.inr ⟨hn0, hn1, rfl⟩))) (by omega)
        have jn_66 : (¬ (iMay V i 0 = true ∧ iFin V lim t n (n - (i + 1)) (p + iCt V i) q = true)) → G l D (tysL τ) (LX τ) a mX4_chooseHomes x 66 [(0, .ref (a 27)), (1, .int (iN (p : Int))), (2, .int (iN (q : Int))), (3, .int (iN (i : Int))), (4, .int (iN ((iCt V i : Nat) : Int)))] [] U := by
          intro hn0
          refine g_aload_n 0 dX4_chooseHomes_66 rfl rfl ?_
          refine g_iload_n 3 dX4_chooseHomes_67 rfl rfl ?_
          refine g_iconst dX4_chooseHomes_68 ?_
          refine g_top (show 1 = ((1 : Nat) : Int) from rfl) ?_
          refine g_callI (k := 27) [.int (iN (i : Int)), .int (iN ((1 : Nat) : Int))] (met_X4_isHost (V := U) ha i 1 (by omega) (by omega) (by rw [u31]; exact hhost i (by omega))) vX4_65 ox_27 rfl rfl ⟨rfl, rfl, Nat.le_of_ble_eq_true rfl, Nat.le_of_ble_eq_true rfl⟩ rfl (Nat.le_of_ble_eq_true rfl) dX4_chooseHomes_69 rfl ?_
          rintro z9 V9 ⟨hp9, hV9⟩
          replace hV9 := hV9.symm
          subst hV9
          rcases hp9 with ⟨hz9, b_3⟩ | ⟨hz9, b_3⟩
          · subst hz9
            refine g_if_eq 110 dX4_chooseHomes_72 (by decide) (fun c_4 => absurd c_4 (by decide)) (fun _ => ?_)
            refine g_aload_n 0 dX4_chooseHomes_75 rfl rfl ?_
            refine g_iload_n 3 dX4_chooseHomes_76 rfl rfl ?_
            refine g_iconst dX4_chooseHomes_77 ?_
            refine g_iadd dX4_chooseHomes_78 ?_
            refine g_iload_n 1 dX4_chooseHomes_79 rfl rfl ?_
            refine g_iload_n 2 dX4_chooseHomes_80 rfl rfl ?_
            refine g_iload 4 dX4_chooseHomes_81 rfl ?_
            refine g_iadd dX4_chooseHomes_83 ?_
            refine g_ste (show ([.int (iN ((q : Int) + ((iCt V i : Nat) : Int))), .int (iN (p : Int)), .int (iN ((i : Int) + 1)), .ref (a 27)] : List Value) = [.int (iN ((q + iCt V i : Nat) : Int)), .int (iN (p : Int)), .int (iN ((i + 1 : Nat) : Int)), .ref (a 27)] from by simp only [Int.natCast_add, Int.natCast_one]) ?_
            refine g_callI (k := 27) [.int (iN ((i + 1 : Nat) : Int)), .int (iN (p : Int)), .int (iN ((q + iCt V i : Nat) : Int))] (met_X4_canEnd (V := U) ha (i + 1) p (q + iCt V i) (E p) t (by rw [u27]; exact ht) ht40 (by omega) (by omega) (by omega) (fun hc => by rw [hoff (33 + (i + 1)) (by omega)]; exact hE1 p hc) (hE2 p)) vX4_69 ox_27 rfl rfl ⟨rfl, rfl, Nat.le_of_ble_eq_true rfl, Nat.le_of_ble_eq_true rfl⟩ rfl (Nat.le_of_ble_eq_true rfl) dX4_chooseHomes_84 rfl ?_
            rintro z9 V9 ⟨hp9, hV9⟩
            replace hV9 := hV9.symm
            subst hV9
            rcases hp9 with ⟨hz9, b_5⟩ | ⟨hz9, b_5⟩
            · subst hz9
              refine g_if_eq 110 dX4_chooseHomes_87 (by decide) (fun c_6 => absurd c_6 (by decide)) (fun _ => ?_)
              refine g_aload_n 0 dX4_chooseHomes_90 rfl rfl ?_
              refine g_getf 27 (.ref (a 28)) fX4_9 ox_27 dX4_chooseHomes_91 rfl ?_
              refine g_aload_n 0 dX4_chooseHomes_94 rfl rfl ?_
              refine g_getf 27 (.ref (a 29)) fX4_15 ox_27 dX4_chooseHomes_95 rfl ?_
              refine g_iload_n 3 dX4_chooseHomes_98 rfl rfl ?_
              refine g_iald 29 i ax_29 dX4_chooseHomes_99 rfl (by omega) ?_
              refine g_top (show U 29 i = (((V 29 i).toNat : Nat) : Int) from by rw [u29]; omega) ?_
              refine g_iconst dX4_chooseHomes_100 ?_
              refine g_iast 28 ((V 29 i).toNat) ax_28 dX4_chooseHomes_101 rfl (by omega) ?_
              obtain ⟨V_7, eV_7⟩ : ∃ V9 : Mem, V9 = up U 28 ((V 29 i).toNat) 1 := ⟨_, rfl⟩
              refine g_mem eV_7.symm ?_
              refine g_iload_n 2 dX4_chooseHomes_102 rfl rfl ?_
              refine g_iload 4 dX4_chooseHomes_103 rfl ?_
              refine g_iadd dX4_chooseHomes_105 ?_
              refine g_istore_n [(2, .int (iN ((q : Int) + ((iCt V i : Nat) : Int)))), (0, .ref (a 27)), (1, .int (iN (p : Int))), (3, .int (iN (i : Int))), (4, .int (iN ((iCt V i : Nat) : Int)))] dX4_chooseHomes_106 rfl (by decide) rfl ?_
              refine g_goto 122 dX4_chooseHomes_107 (by decide) ?_
              refine g_iinc 3 [(3, .int (iN ((i : Int) + 1))), (2, .int (iN ((q : Int) + ((iCt V i : Nat) : Int)))), (0, .ref (a 27)), (1, .int (iN (p : Int))), (4, .int (iN ((iCt V i : Nat) : Int)))] dX4_chooseHomes_122 rfl (by decide) rfl ?_
              refine g_goto 6 dX4_chooseHomes_125 (by decide) ?_
              refine g_lve (show ([(3, .int (iN ((i : Int) + 1))), (2, .int (iN ((q : Int) + ((iCt V i : Nat) : Int)))), (0, .ref (a 27)), (1, .int (iN (p : Int))), (4, .int (iN ((iCt V i : Nat) : Int)))] : List (Nat × Value)) = ([(3, .int (iN ((i : Int) + 1))), (2, .int (iN ((q + iCt V i : Nat) : Int))), (0, .ref (a 27)), (1, .int (iN (p : Int))), (4, .int (iN ((iCt V i : Nat) : Int)))] : List (Nat × Value)) from by rw [show (q : Int) + ((iCt V i : Nat) : Int) = ((q + iCt V i : Nat) : Int) from by simp only [Int.natCast_add]]) ?_
              refine g_lv [2, 3, 1, 0] rfl ?_
              exact ih_6 (i + 1) p (q + iCt V i) (fun j => if j = i then 1 else h j) V_7 (by rw [eV_7]; exact chInv_s hinv (by omega) hdi (Or.inr (Or.inl ⟨hn0, (decide_eq_true (by rw [u31] at b_3; exact b_3)), (endIff hE3 _ _).mp b_5, rfl⟩))) (by omega)
            · subst hz9
              refine g_if_eq 110 dX4_chooseHomes_87 (by decide) (fun _ => ?_) (fun c_8 => absurd c_8 (by decide))
              exact jn_110 hn0 (fun z => b_5 ((endIff hE3 _ _).mpr z.2))
          · subst hz9
            refine g_if_eq 110 dX4_chooseHomes_72 (by decide) (fun _ => ?_) (fun c_9 => absurd c_9 (by decide))
            exact jn_110 hn0 (fun z => by rw [u31] at b_3; exact b_3 (of_decide_eq_true z.1))
        refine g_aload_n 1 dX4_chooseHomes_22 rfl rfl ?_
        refine g_iload_n 4 dX4_chooseHomes_23 rfl rfl ?_
        refine g_iconst dX4_chooseHomes_24 ?_
        refine g_top (show 0 = ((0 : Nat) : Int) from rfl) ?_
        refine g_callI (k := 27) [.int (iN (i : Int)), .int (iN ((0 : Nat) : Int))] (met_X4_isHost (V := U) ha i 0 (by omega) (by omega) (by rw [u31]; exact hhost i (by omega))) vX4_65 ox_27 rfl rfl ⟨rfl, rfl, Nat.le_of_ble_eq_true rfl, Nat.le_of_ble_eq_true rfl⟩ rfl (Nat.le_of_ble_eq_true rfl) dX4_chooseHomes_25 rfl ?_
        rintro z9 V9 ⟨hp9, hV9⟩
        replace hV9 := hV9.symm
        subst hV9
        rcases hp9 with ⟨hz9, b_10⟩ | ⟨hz9, b_10⟩
        · subst hz9
          refine g_if_eq 66 dX4_chooseHomes_28 (by decide) (fun c_11 => absurd c_11 (by decide)) (fun _ => ?_)
          refine g_aload_n 1 dX4_chooseHomes_31 rfl rfl ?_
          refine g_iload_n 4 dX4_chooseHomes_32 rfl rfl ?_
          refine g_iconst dX4_chooseHomes_33 ?_
          refine g_iadd dX4_chooseHomes_34 ?_
          refine g_iload_n 2 dX4_chooseHomes_35 rfl rfl ?_
          refine g_iload 0 dX4_chooseHomes_36 rfl ?_
          refine g_iadd dX4_chooseHomes_38 ?_
          refine g_iload_n 3 dX4_chooseHomes_39 rfl rfl ?_
          refine g_ste (show ([.int (iN (q : Int)), .int (iN ((p : Int) + ((iCt V i : Nat) : Int))), .int (iN ((i : Int) + 1)), .ref (a 27)] : List Value) = [.int (iN (q : Int)), .int (iN ((p + iCt V i : Nat) : Int)), .int (iN ((i + 1 : Nat) : Int)), .ref (a 27)] from by simp only [Int.natCast_add, Int.natCast_one]) ?_
          refine g_callI (k := 27) [.int (iN ((i + 1 : Nat) : Int)), .int (iN ((p + iCt V i : Nat) : Int)), .int (iN (q : Int))] (met_X4_canEnd (V := U) ha (i + 1) (p + iCt V i) q (E (p + iCt V i)) t (by rw [u27]; exact ht) ht40 (by omega) (by omega) (by omega) (fun hc => by rw [hoff (33 + (i + 1)) (by omega)]; exact hE1 (p + iCt V i) hc) (hE2 (p + iCt V i))) vX4_69 ox_27 rfl rfl ⟨rfl, rfl, Nat.le_of_ble_eq_true rfl, Nat.le_of_ble_eq_true rfl⟩ rfl (Nat.le_of_ble_eq_true rfl) dX4_chooseHomes_40 rfl ?_
          rintro z9 V9 ⟨hp9, hV9⟩
          replace hV9 := hV9.symm
          subst hV9
          rcases hp9 with ⟨hz9, b_12⟩ | ⟨hz9, b_12⟩
          · subst hz9
            refine g_if_eq 66 dX4_chooseHomes_43 (by decide) (fun c_13 => absurd c_13 (by decide)) (fun _ => ?_)
            refine g_aload_n 1 dX4_chooseHomes_46 rfl rfl ?_
            refine g_getf 27 (.ref (a 28)) fX4_9 ox_27 dX4_chooseHomes_47 rfl ?_
            refine g_aload_n 1 dX4_chooseHomes_50 rfl rfl ?_
            refine g_getf 27 (.ref (a 29)) fX4_15 ox_27 dX4_chooseHomes_51 rfl ?_
            refine g_iload_n 4 dX4_chooseHomes_54 rfl rfl ?_
            refine g_iald 29 i ax_29 dX4_chooseHomes_55 rfl (by omega) ?_
            refine g_top (show U 29 i = (((V 29 i).toNat : Nat) : Int) from by rw [u29]; omega) ?_
            refine g_iconst dX4_chooseHomes_56 ?_
            refine g_iast 28 ((V 29 i).toNat) ax_28 dX4_chooseHomes_57 rfl (by omega) ?_
            obtain ⟨V_14, eV_14⟩ : ∃ V9 : Mem, V9 = up U 28 ((V 29 i).toNat) 0 := ⟨_, rfl⟩
            refine g_mem eV_14.symm ?_
            refine g_iload_n 2 dX4_chooseHomes_58 rfl rfl ?_
            refine g_iload 0 dX4_chooseHomes_59 rfl ?_
            refine g_iadd dX4_chooseHomes_61 ?_
            refine g_istore_n [(1, .int (iN ((p : Int) + ((iCt V i : Nat) : Int)))), (4, .int (iN ((iCt V i : Nat) : Int))), (0, .ref (a 27)), (2, .int (iN (q : Int))), (3, .int (iN (i : Int)))] dX4_chooseHomes_62 rfl (by decide) rfl ?_
            refine g_goto 122 dX4_chooseHomes_63 (by decide) ?_
            refine g_iinc 4 [(3, .int (iN ((i : Int) + 1))), (1, .int (iN ((p : Int) + ((iCt V i : Nat) : Int)))), (4, .int (iN ((iCt V i : Nat) : Int))), (0, .ref (a 27)), (2, .int (iN (q : Int)))] dX4_chooseHomes_122 rfl (by decide) rfl ?_
            refine g_goto 6 dX4_chooseHomes_125 (by decide) ?_
            refine g_lve (show ([(3, .int (iN ((i : Int) + 1))), (1, .int (iN ((p : Int) + ((iCt V i : Nat) : Int)))), (4, .int (iN ((iCt V i : Nat) : Int))), (0, .ref (a 27)), (2, .int (iN (q : Int)))] : List (Nat × Value)) = ([(3, .int (iN ((i : Int) + 1))), (1, .int (iN ((p + iCt V i : Nat) : Int))), (4, .int (iN ((iCt V i : Nat) : Int))), (0, .ref (a 27)), (2, .int (iN (q : Int)))] : List (Nat × Value)) from by rw [show (p : Int) + ((iCt V i : Nat) : Int) = ((p + iCt V i : Nat) : Int) from by simp only [Int.natCast_add]]) ?_
            refine g_lv [3, 1, 4, 0] rfl ?_
            exact ih_6 (i + 1) (p + iCt V i) q (fun j => if j = i then 0 else h j) V_14 (by rw [eV_14]; exact chInv_s hinv (by omega) hdi (Or.inl ⟨(decide_eq_true (by rw [u31] at b_10; exact b_10)), (endIff hE3 _ _).mp b_12, rfl⟩)) (by omega)
          · subst hz9
            refine g_if_eq 66 dX4_chooseHomes_43 (by decide) (fun _ => ?_) (fun c_15 => absurd c_15 (by decide))
            refine g_lv [1, 2, 3, 4, 0] rfl ?_
            exact jn_66 (fun z => b_12 ((endIff hE3 _ _).mpr z.2))
        · subst hz9
          refine g_if_eq 66 dX4_chooseHomes_28 (by decide) (fun _ => ?_) (fun c_16 => absurd c_16 (by decide))
          refine g_lv [1, 2, 3, 4, 0] rfl ?_
          exact jn_66 (fun z => by rw [u31] at b_10; exact b_10 (of_decide_eq_true z.1))
  refine g_lv [3, 2, 1, 0] rfl ?_
  exact lp_6 _ 0 0 0 (fun _ => 0) V (chInv_0 hf0) (Nat.lt_succ_self _)
