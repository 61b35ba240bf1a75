set_option maxHeartbeats 4000000 in
/-- shareKinds() -/
theorem met_X6_shareKinds {l : Launch} {D : va_G} {τ : Nat → ClassId} {a : Nat → Nat} (ha : Apart (LX τ) a) {V : Mem} (kc : Nat) (hkc : V 2 6 = (kc : Int)) (hkc10 : kc ≤ 10) (np : Nat) (hnp : V 9 4 = (np : Int)) (hnp40 : np ≤ 40) (us : Nat) (hus : V 0 9 = (us : Int)) (hus3 : us ≤ 3) (hko : ∀ p, p < 40 → 0 ≤ V 10 p ∧ V 10 p < 10) (hz : ∀ m, m < 3 → 0 ≤ V (15 + 4 * m) 3 ∧ V (15 + 4 * m) 3 ≤ 255) (hnz : ∀ k, k < 10 → 0 ≤ V 4 k ∧ V 4 k ≤ 7) : CV l D (tysL τ) (LX τ) a yX6_shareKinds mX6_shareKinds [.ref (a 0)] V (fun V' => ∃ h : Nat → Nat, sBest kc (kAct V np us) (kCt V np) (kMay V us) h ∧ (∀ k, k < 10 → V' 28 k = if k < kc ∧ kAct V np us k = true then (h k : Int) else -1) ∧ ∀ c, ¬ (27 ≤ c ∧ c ≤ 31) → ¬ (33 ≤ c ∧ c < 44) → V' c = V c) := by
  refine CV.of (by decide +kernel) rfl (Nat.le_of_ble_eq_true rfl) ha (fun x hq => ?_)
  show G l D (tysL τ) (LX τ) a mX6_shareKinds x 0 [(0, .ref (a 0))] [] V
  refine g_aload_n 0 dX6_shareKinds_0 rfl rfl ?_
  refine g_getf 0 (.ref (a 27)) fX6_33 ox_0 dX6_shareKinds_1 rfl ?_
  refine g_callV (k := 27) [] (met_X4_clear ha) vX6_220 ox_27 rfl rfl ⟨rfl, rfl, Nat.le_of_ble_eq_true rfl, Nat.le_of_ble_eq_true rfl⟩ rfl (Nat.le_of_ble_eq_true rfl) dX6_shareKinds_4 rfl ?_
  intro V1 e1
  refine g_iconst dX6_shareKinds_7 ?_
  refine g_istore_n [(1, .int (iN 0)), (0, .ref (a 0))] dX6_shareKinds_8 rfl (by decide) rfl ?_
  have lp_9 : ∀ (fuel : Nat) (k : Nat) (U : Mem), (k ≤ kc) → (shInv V np us k U) → (kc - k) < fuel → G l D (tysL τ) (LX τ) a mX6_shareKinds x 9 [(0, .ref (a 0)), (1, .int (iN (k : Int)))] [] U := by
    intro fuel
    induction fuel with
    | zero => intro k U hk hinv hfu; exact absurd hfu (Nat.not_lt_zero _)
    | succ fuel ih_9 =>
      intro k U hk hinv hfu
      have u0 : U 0 = V 0 := hinv.2.2.2.2 0 (by omega)
      have u2 : U 2 = V 2 := hinv.2.2.2.2 2 (by omega)
      have u4 : U 4 = V 4 := hinv.2.2.2.2 4 (by omega)
      have u9 : U 9 = V 9 := hinv.2.2.2.2 9 (by omega)
      have u10 : U 10 = V 10 := hinv.2.2.2.2 10 (by omega)
      have uM : ∀ m, m < 3 → U (15 + 4 * m) = V (15 + 4 * m) := fun m hm => hinv.2.2.2.2 _ (by omega)
      have hn4 := hnz k
      refine g_iload_n 1 dX6_shareKinds_9 rfl rfl ?_
      refine g_aload_n 0 dX6_shareKinds_10 rfl rfl ?_
      refine g_getf 0 (.ref (a 2)) fX6_10 ox_0 dX6_shareKinds_11 rfl ?_
      refine g_getf 2 (.int (iN (U 2 6))) fX6_199 ox_2 dX6_shareKinds_14 rfl ?_
      refine g_top (show U 2 6 = (kc : Int) from by rw [u2]; exact hkc) ?_
      refine g_icmp_ge 67 dX6_shareKinds_17 (by decide) (fun c_1 => ?_) (fun c_1 => ?_)
      · refine g_aload_n 0 dX6_shareKinds_67 rfl rfl ?_
        refine g_getf 0 (.ref (a 27)) fX6_33 ox_0 dX6_shareKinds_68 rfl ?_
        have ek : k = kc := by omega
        subst ek
        obtain ⟨i1, i2, i3, i4, i5⟩ := hinv
        have hle := nAct_le (act := kAct V np us) (k := k)
        have htl := kTot_le V np us k
        have hsl := sumC_le (V 10) k np
        have hho : ∀ j, kHo V us j < 8 := fun j => hosts_lt hus3
        have hctl : ∀ j, kCt V np j ≤ np := fun j => by have := cnt_in (V 10) (j : Int) np; unfold kCt; omega
        have eC : ∀ j, j < k → kAct V np us j = true → iCt U (nAct (kAct V np us) j) = kCt V np j := fun j hj haj => by unfold iCt; rw [(i3 j hj haj).2.1]; omega
        have eM : ∀ j, j < k → kAct V np us j = true → ∀ m, iMay U (nAct (kAct V np us) j) m = kMay V us j m := fun j hj haj m => by unfold iMay kMay; rw [(i3 j hj haj).2.2, Nat.testBit_eq_decide_div_mod_eq]; rfl
        refine g_callV (k := 27) [] (met_X4_settle (V := U) ha (sTot (kAct V np us) (kCt V np) k) i2 (by omega) (nAct (kAct V np us) k) i1 (by omega) (fun i hi => by
              obtain ⟨j, hj, haj, rfl⟩ := nAct_sur hi
              rw [(i3 j hj haj).2.1]; have := hctl j; omega) (fun i hi => by
              obtain ⟨j, hj, haj, rfl⟩ := nAct_sur hi
              rw [(i3 j hj haj).2.2]; have := hho j; omega) (fun i hi => by
              obtain ⟨j, hj, haj, rfl⟩ := nAct_sur hi
              rw [(i3 j hj haj).1]; omega) (fun i j hi hj e => by
              obtain ⟨p, hp, hap, rfl⟩ := nAct_sur hi
              obtain ⟨q, hq, haq, rfl⟩ := nAct_sur hj
              rw [(i3 p hp hap).1, (i3 q hq haq).1] at e
              rw [show p = q by omega]) (sTot_items eC) (fun i hi => by
              obtain ⟨j, hj, haj, rfl⟩ := nAct_sur hi
              obtain ⟨m, hm, hb⟩ := bit3 (hho j) (of_decide_eq_true haj).2
              exact ⟨m, hm, by rw [eM j hj haj]; exact hb⟩)) vX6_232 ox_27 rfl rfl ⟨rfl, rfl, Nat.le_of_ble_eq_true rfl, Nat.le_of_ble_eq_true rfl⟩ rfl (Nat.le_of_ble_eq_true rfl) dX6_shareKinds_71 rfl ?_
        rintro V4 ⟨hI, hb4, hs4, hr4, ho4⟩
        exact g_vret hq rfl dX6_shareKinds_74 (⟨fun j => hI (nAct (kAct V np us) j), sBest_items eC eM hb4, fun j hj => by
              by_cases h : j < k ∧ kAct V np us j = true
              · rw [if_pos h]
                have := hs4 (nAct (kAct V np us) j) (nAct_lt h.2 h.1)
                rw [(i3 j h.1 h.2).1] at this
                exact this
              · rw [if_neg h, hr4 j (fun i hi e => by
                  obtain ⟨q, hq, haq, rfl⟩ := nAct_sur hi
                  rw [(i3 q hq haq).1] at e
                  exact h ⟨by omega, by rw [show j = q by omega]; exact haq⟩)]
                exact i4 j hj, fun c h1 h2 => (ho4 c (by omega) h2).trans (i5 c h1)⟩)
      · refine g_aload_n 0 dX6_shareKinds_20 rfl rfl ?_
        refine g_getf 0 (.ref (a 9)) fX6_19 ox_0 dX6_shareKinds_21 rfl ?_
        refine g_iload_n 1 dX6_shareKinds_24 rfl rfl ?_
        have hcn := cnt_in (V 10) (k : Int) np
        refine g_callI (k := 9) [.int (iN (k : Int))] (met_X3_countOf (V := U) ha (k : Int) (by omega) (by rw [u9]; omega) (fun p hp => by rw [u10]; have := hko p hp; omega)) vX6_223 ox_9 rfl rfl ⟨rfl, rfl, Nat.le_of_ble_eq_true rfl, Nat.le_of_ble_eq_true rfl⟩ rfl (Nat.le_of_ble_eq_true rfl) dX6_shareKinds_25 rfl ?_
        rintro z9 V9 ⟨hz9, hV9⟩
        replace hV9 := hV9.symm
        subst hV9
        rw [u10, u9, show (V 9 4).toNat = np by omega, show cnt (V 10) (k : Int) np = ((kCt V np k : Nat) : Int) by unfold kCt; omega] at hz9
        replace hz9 := hz9.symm
        subst hz9
        have hkc1 : ((kCt V np k : Nat) : Int) = cnt (V 10) (k : Int) np := by unfold kCt; omega
        refine g_istore_n [(2, .int (iN ((kCt V np k : Nat) : Int))), (0, .ref (a 0)), (1, .int (iN (k : Int)))] dX6_shareKinds_28 rfl (by decide) rfl ?_
        refine g_aload_n 1 dX6_shareKinds_29 rfl rfl ?_
        refine g_aload_n 1 dX6_shareKinds_30 rfl rfl ?_
        refine g_getf 0 (.ref (a 2)) fX6_10 ox_0 dX6_shareKinds_31 rfl ?_
        refine g_getf 2 (.ref (a 4)) fX6_202 ox_2 dX6_shareKinds_34 rfl ?_
        refine g_iload_n 2 dX6_shareKinds_37 rfl rfl ?_
        refine g_iald 4 k ax_4 dX6_shareKinds_38 rfl (by omega) ?_
        refine g_top (show U 4 k = (((V 4 k).toNat : Nat) : Int) from by rw [u4]; omega) ?_
        have hho := hosts_lt (has := fun m => decide ((V (15 + 4 * m) 3).toNat / 2 ^ (V 4 k).toNat % 2 = 1)) hus3
        refine g_callI (k := 0) [.int (iN (((V 4 k).toNat : Nat) : Int))] (met_X6_hostsFor (V := U) ha (V 4 k).toNat us (by rw [u0]; exact hus) hus3 (by omega) (fun m hm => by rw [uM m hm]; exact hz m hm)) vX6_226 ox_0 rfl rfl ⟨rfl, rfl, Nat.le_of_ble_eq_true rfl, Nat.le_of_ble_eq_true rfl⟩ rfl (Nat.le_of_ble_eq_true rfl) dX6_shareKinds_39 rfl ?_
        rintro z9 V9 ⟨hz9, hV9⟩
        replace hV9 := hV9.symm
        subst hV9
        rw [hosts_congr (has2 := fun m => decide ((V (15 + 4 * m) 3).toNat / 2 ^ (V 4 k).toNat % 2 = 1)) (fun m hm => by rw [uM m (by omega)])] at hz9
        replace hz9 := hz9.symm
        have hk8 : kHo V us k < 8 := hho
        change ((kHo V us k : Nat) : Int) = z9 at hz9
        subst hz9
        refine g_istore_n [(3, .int (iN ((kHo V us k : Nat) : Int))), (2, .int (iN ((kCt V np k : Nat) : Int))), (0, .ref (a 0)), (1, .int (iN (k : Int)))] dX6_shareKinds_42 rfl (by decide) rfl ?_
        refine g_iload_n 1 dX6_shareKinds_43 rfl rfl ?_
        refine g_if_le 61 dX6_shareKinds_44 (by decide) (fun c_2 => ?_) (fun c_2 => ?_)
        · refine g_iinc 3 [(1, .int (iN ((k : Int) + 1))), (3, .int (iN ((kHo V us k : Nat) : Int))), (2, .int (iN ((kCt V np k : Nat) : Int))), (0, .ref (a 0))] dX6_shareKinds_61 rfl (by decide) rfl ?_
          refine g_goto 9 dX6_shareKinds_64 (by decide) ?_
          refine g_lv [3, 0] rfl ?_
          exact ih_9 (k + 1) U (by omega) (shInv_skip hinv (decide_eq_false (by omega))) (by omega)
        · refine g_iload_n 0 dX6_shareKinds_47 rfl rfl ?_
          refine g_if_eq 61 dX6_shareKinds_48 (by decide) (fun c_3 => ?_) (fun c_3 => ?_)
          · refine g_iinc 3 [(1, .int (iN ((k : Int) + 1))), (3, .int (iN ((kHo V us k : Nat) : Int))), (2, .int (iN ((kCt V np k : Nat) : Int))), (0, .ref (a 0))] dX6_shareKinds_61 rfl (by decide) rfl ?_
            refine g_goto 9 dX6_shareKinds_64 (by decide) ?_
            refine g_lv [3, 0] rfl ?_
            exact ih_9 (k + 1) U (by omega) (shInv_skip hinv (decide_eq_false (by omega))) (by omega)
          · refine g_aload_n 2 dX6_shareKinds_51 rfl rfl ?_
            refine g_getf 0 (.ref (a 27)) fX6_33 ox_0 dX6_shareKinds_52 rfl ?_
            refine g_iload_n 3 dX6_shareKinds_55 rfl rfl ?_
            refine g_iload_n 1 dX6_shareKinds_56 rfl rfl ?_
            refine g_iload_n 0 dX6_shareKinds_57 rfl rfl ?_
            have hact : kAct V np us k = true := decide_eq_true ⟨by omega, by omega⟩
            have hlt := nAct_lt hact (show k < kc by omega)
            have hle := nAct_le (act := kAct V np us) (k := kc)
            have htl := kTot_le V np us (k + 1)
            have hsl := sumC_le (V 10) (k + 1) np
            simp only [sTot, hact, if_true] at htl
            refine g_callV (k := 27) [.int (iN (k : Int)), .int (iN ((kCt V np k : Nat) : Int)), .int (iN ((kHo V us k : Nat) : Int))] (met_X4_add (V := U) ha (k : Int) (kCt V np k : Int) (kHo V us k : Int) (by rw [hinv.1]; omega) (by rw [hinv.2.1]; omega)) vX6_229 ox_27 rfl rfl ⟨rfl, rfl, Nat.le_of_ble_eq_true rfl, Nat.le_of_ble_eq_true rfl⟩ rfl (Nat.le_of_ble_eq_true rfl) dX6_shareKinds_58 rfl ?_
            intro V3 e3
            refine g_iinc 3 [(1, .int (iN ((k : Int) + 1))), (3, .int (iN ((kHo V us k : Nat) : Int))), (2, .int (iN ((kCt V np k : Nat) : Int))), (0, .ref (a 0))] dX6_shareKinds_61 rfl (by decide) rfl ?_
            refine g_goto 9 dX6_shareKinds_64 (by decide) ?_
            refine g_lv [3, 0] rfl ?_
            exact ih_9 (k + 1) V3 (by omega) (by rw [e3]; exact shInv_add hinv hact) (by omega)
  refine g_lv [1, 0] rfl ?_
  exact lp_9 _ 0 V1 (Nat.zero_le _) (by rw [e1]; exact ⟨by rw [up_ne (by omega), up_eq]; rfl, by rw [up_eq]; rfl, fun j h => absurd h (Nat.not_lt_zero _), fun j hj => by rw [up_ne (by omega), up_ne (by omega), fillM_in hj], fun c hc => by rw [up_ne1 (by omega), up_ne1 (by omega)]; funext j; exact fillM_ne (by omega)⟩) (Nat.lt_succ_self _)
