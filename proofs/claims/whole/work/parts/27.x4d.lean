set_option maxHeartbeats 4000000 in
/-- Shares.settle() -/
theorem met_X4_settle {l : Launch} {D : va_G} {τ : Nat → ClassId} {a : Nat → Nat} (ha : Apart (LX τ) a) {V : Mem} (t : Nat) (ht : V 27 6 = (t : Int)) (ht40 : t ≤ 40) (n : Nat) (hn : V 27 5 = (n : Int)) (hn10 : n ≤ 10) (hamt : ∀ i, i < n → 0 ≤ V 30 i ∧ V 30 i ≤ 40) (hhost : ∀ i, i < n → 0 ≤ V 31 i ∧ V 31 i ≤ 7) (hkd : ∀ i, i < n → 0 ≤ V 29 i ∧ V 29 i < 10) (hdist : ∀ i j, i < n → j < n → V 29 i = V 29 j → i = j) (hsum : sTot (fun _ => true) (iCt V) n = t) (hany : ∀ i, i < n → ∃ m, m < 3 ∧ iMay V i m = true) : CV l D (tysL τ) (LX τ) a yX4_settle mX4_settle [.ref (a 27)] V (fun V' => ∃ h : Nat → Nat, sBest n (fun _ => true) (iCt V) (iMay V) h ∧ (∀ k, k < n → V' 28 (V 29 k).toNat = (h k : Int)) ∧ (∀ j, (∀ k, k < n → (V 29 k).toNat ≠ j) → V' 28 j = V 28 j) ∧ ∀ c, c ≠ 28 → ¬ (33 ≤ c ∧ c < 44) → V' c = V c) := by
  refine CV.of (by decide +kernel) rfl (Nat.le_of_ble_eq_true rfl) ha (fun x hq => ?_)
  show G l D (tysL τ) (LX τ) a mX4_settle x 0 [(0, .ref (a 27))] [] V
  refine g_aload_n 0 dX4_settle_0 rfl rfl ?_
  refine g_getf 27 (.int (iN (V 27 6))) fX4_33 ox_27 dX4_settle_1 rfl ?_
  refine g_top (show V 27 6 = (t : Int) from ht) ?_
  refine g_iconst dX4_settle_4 ?_
  refine g_iadd dX4_settle_5 ?_
  refine g_iconst dX4_settle_6 ?_
  refine g_isub dX4_settle_7 ?_
  refine g_iconst dX4_settle_8 ?_
  refine g_idiv dX4_settle_9 (by omega) (by omega) ?_
  refine g_istore_n [(1, .int (iN ((((t : Int) + 3) - 1) / 3))), (0, .ref (a 27))] dX4_settle_10 rfl (by decide) rfl ?_
  refine g_iload_n 0 dX4_settle_11 rfl rfl ?_
  refine g_istore_n [(2, .int (iN ((((t : Int) + 3) - 1) / 3))), (1, .int (iN ((((t : Int) + 3) - 1) / 3))), (0, .ref (a 27))] dX4_settle_12 rfl (by decide) rfl ?_
  refine g_lve (show ([(2, .int (iN ((((t : Int) + 3) - 1) / 3))), (1, .int (iN ((((t : Int) + 3) - 1) / 3))), (0, .ref (a 27))] : List (Nat × Value)) = ([(2, .int (iN (((t + 2) / 3 : Nat) : Int))), (1, .int (iN ((((t : Int) + 3) - 1) / 3))), (0, .ref (a 27))] : List (Nat × Value)) from by rw [show (((t : Int) + 3) - 1) / 3 = (((t + 2) / 3 : Nat) : Int) from by omega]) ?_
  have lp_13 : ∀ (fuel : Nat) (lim : Nat) (U : Mem), (lim ≤ t + 1) → (offE U V) → (∀ L, L < lim → iFin V L t n n 0 0 = false) → (t + 1 - lim) < fuel → G l D (tysL τ) (LX τ) a mX4_settle x 13 [(0, .ref (a 27)), (2, .int (iN (lim : Int)))] [] U := by
    intro fuel
    induction fuel with
    | zero => intro lim U hl1 hoff hless hfu; exact absurd hfu (Nat.not_lt_zero _)
    | succ fuel ih_13 =>
      intro lim U hl1 hoff hless hfu
      have u27 : U 27 = V 27 := hoff 27 (by omega)
      have u28 : U 28 = V 28 := hoff 28 (by omega)
      have u29 : U 29 = V 29 := hoff 29 (by omega)
      have u30 : U 30 = V 30 := hoff 30 (by omega)
      have u31 : U 31 = V 31 := hoff 31 (by omega)
      refine g_iload_n 1 dX4_settle_13 rfl rfl ?_
      refine g_aload_n 0 dX4_settle_14 rfl rfl ?_
      refine g_getf 27 (.int (iN (U 27 6))) fX4_33 ox_27 dX4_settle_15 rfl ?_
      refine g_top (show U 27 6 = (t : Int) from by rw [u27]; exact ht) ?_
      refine g_icmp_gt 40 dX4_settle_18 (by decide) (fun c_1 => ?_) (fun c_1 => ?_)
      · exact absurd (iFin_tot hsum hany) (by rw [hless t (by omega)]; decide)
      · refine g_aload_n 0 dX4_settle_21 rfl rfl ?_
        refine g_iload_n 1 dX4_settle_22 rfl rfl ?_
        refine g_callI (k := 27) [.int (iN (lim : Int))] (met_X4_canKeepTo (V := U) ha lim t (by rw [u27]; exact ht) ht40 n (by rw [u27]; exact hn) hn10 (by omega) (by rw [u30]; exact hamt) (by rw [u31]; exact hhost)) vX4_42 ox_27 rfl rfl ⟨rfl, rfl, Nat.le_of_ble_eq_true rfl, Nat.le_of_ble_eq_true rfl⟩ rfl (Nat.le_of_ble_eq_true rfl) dX4_settle_23 rfl ?_
        rintro z9 V9 ⟨hp9, hoff9, hrow9⟩
        have hf9 : iFin U = iFin V := iFin_congr u30 u31
        rw [hf9] at hp9
        rcases hp9 with ⟨hz9, b9⟩ | ⟨hz9, b9⟩
        · subst hz9
          refine g_if_eq 34 dX4_settle_26 (by decide) (fun c_2 => absurd c_2 (by decide)) (fun _ => ?_)
          refine g_aload_n 0 dX4_settle_29 rfl rfl ?_
          have v27 : V9 27 = V 27 := (hoff9 27 (by omega)).trans u27
          have v29 : V9 29 = V 29 := (hoff9 29 (by omega)).trans u29
          have v30 : V9 30 = V 30 := (hoff9 30 (by omega)).trans u30
          have v31 : V9 31 = V 31 := (hoff9 31 (by omega)).trans u31
          have v28 : V9 28 = V 28 := (hoff9 28 (by omega)).trans u28
          have hf8 : iFin V9 = iFin V := iFin_congr v30 v31
          refine g_callV (k := 27) [] (met_X4_chooseHomes (V := V9) ha lim t (by rw [v27]; exact ht) ht40 n (by rw [v27]; exact hn) hn10 (by rw [v30]; exact hamt) (by rw [v31]; exact hhost) (fun j hj => by have := hrow9 j hj; unfold rowOk at this ⊢; rw [hf9] at this; rw [hf8]; exact this) (by rw [v29]; exact hkd) (by rw [v29]; exact hdist) (by rw [hf8]; exact b9)) vX4_46 ox_27 rfl rfl ⟨rfl, rfl, Nat.le_of_ble_eq_true rfl, Nat.le_of_ble_eq_true rfl⟩ rfl (Nat.le_of_ble_eq_true rfl) dX4_settle_30 rfl ?_
          rintro V8 ⟨h, hg, hs, hr8, ho8⟩
          have eI : iCt V9 = iCt V := by unfold iCt; rw [v30]
          have eM : iMay V9 = iMay V := by unfold iMay; rw [v31]
          exact g_vret hq rfl dX4_settle_33 (⟨h, iBest hsum b9 hless (fun k hk => by have := hg k hk; unfold grA iLd at this; rw [hf8, eI, eM] at this; exact this), by rw [v29] at hs; exact hs, by rw [v29, v28] at hr8; exact hr8, fun c h1 h2 => (ho8 c h1).trans ((hoff9 c h2).trans (hoff c h2))⟩)
        · subst hz9
          refine g_if_eq 34 dX4_settle_26 (by decide) (fun _ => ?_) (fun c_3 => absurd c_3 (by decide))
          refine g_iinc 1 [(2, .int (iN ((lim : Int) + 1))), (0, .ref (a 27))] dX4_settle_34 rfl (by decide) rfl ?_
          refine g_goto 13 dX4_settle_37 (by decide) ?_
          refine g_lv [1, 0] rfl ?_
          exact ih_13 (lim + 1) V9 (by omega) (offE_trans hoff9 hoff) (fun L hL => by by_cases e : L = lim; (· rw [e]; cases h9 : iFin V lim t n n 0 0; (· rfl); (· exact absurd h9 b9)); (· exact hless L (by omega))) (by omega)
  refine g_lv [2, 0] rfl ?_
  exact lp_13 _ ((t + 2) / 3) V (by omega) (fun _ _ => rfl) (fun L hL => iFin_small hL) (Nat.lt_succ_self _)
