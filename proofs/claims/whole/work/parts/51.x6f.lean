theorem vX6_284 : LkC RX6 284 := ⟨tm_3 (List.mem_of_getElem? (i := 104) rfl) rfl, tm_3 (List.mem_of_getElem? (i := 106) rfl) rfl, tm_3 (List.mem_of_getElem? (i := 105) rfl) rfl, tm_1 (List.mem_of_getElem? (i := 16) rfl) rfl⟩
set_option maxHeartbeats 4000000 in
/-- exchangeOnce(machine) -/
theorem met_X6_exchangeOnce {l : Launch} {D : va_G} {τ : Nat → ClassId} {a : Nat → Nat} (ha : Apart (LX τ) a) {V : Mem} {m : Nat} (hm : m < 3) (n : Nat) (hn : V (15 + 4 * m) 5 = (n : Int)) (hn40 : n ≤ 40) (hrw : ∀ i, i < n → 0 ≤ V (15 + 4 * m + 1) i ∧ V (15 + 4 * m + 1) i < 40) (cr : Nat) (hcr : V (15 + 4 * m) 4 = (cr : Int)) (hcr6 : 1 ≤ cr ∧ cr ≤ 6) (hko : ∀ p, p < 40 → 0 ≤ V 10 p ∧ V 10 p < 10) (hnz : ∀ k, k < 10 → 0 ≤ V 4 k ∧ V 4 k ≤ 7) (hh : ∀ p, p < 40 → 0 ≤ V 13 p ∧ V 13 p ≤ 10000) (hc : 0 ≤ V 9 4 ∧ V 9 4 ≤ 40) (hx : ∀ p, p < 40 → 0 ≤ V 11 p ∧ V 11 p ≤ 100000) (hy : ∀ p, p < 40 → 0 ≤ V 12 p ∧ V 12 p ≤ 100000) (hmt : 0 ≤ V (15 + 4 * m) 6 ∧ V (15 + 4 * m) 6 ≤ 2147483647) : CI l D (tysL τ) (LX τ) a yX6_exchangeOnce mX6_exchangeOnce [.ref (a 0), .ref (a (15 + 4 * m))] V (fun z V' => (n < 2 ∧ z = 0 ∧ V' = V) ∨ (2 ≤ n ∧ V' 1 0 = lcg (lcg (V 1 0)) ∧ (∀ c, ¬ (44 ≤ c ∧ c ≤ 120) → c ≠ 1 → c ≠ 15 + 4 * m → c ≠ 15 + 4 * m + 1 → V' c = V c) ∧ (∀ j, j ≠ 6 → V' (15 + 4 * m) j = V (15 + 4 * m) j) ∧ ∃ a0 b0 : Nat, (a0 : Int) = drw (lcg (V 1 0)) % (n : Int) ∧ (b0 : Int) = drw (lcg (lcg (V 1 0))) % (n : Int) ∧ a0 < n ∧ b0 < n ∧ ((z = 0 ∧ (¬ V 13 (V (15 + 4 * m + 1) a0).toNat = V 13 (V (15 + 4 * m + 1) b0).toNat ∨ a0 / cr = b0 / cr) ∧ V' (15 + 4 * m) 6 = V (15 + 4 * m) 6 ∧ V' (15 + 4 * m + 1) = V (15 + 4 * m + 1)) ∨ (V 13 (V (15 + 4 * m + 1) a0).toNat = V 13 (V (15 + 4 * m + 1) b0).toNat ∧ a0 / cr ≠ b0 / cr ∧ ∃ f2 f3, arrSeg (V 13) (V 11) (V 12) (V 9 4) cr n (a0 / cr) (swp (V (15 + 4 * m + 1)) a0 b0) f2 ∧ arrSeg (V 13) (V 11) (V 12) (V 9 4) cr n (b0 / cr) f2 f3 ∧ ((z = 1 ∧ moveT (way (V 11) (V 12) (V 9 4)) cr f3 (fun i => V 4 (V 10 (f3 i).toNat).toNat) n < V (15 + 4 * m) 6 ∧ V' (15 + 4 * m) 6 = moveT (way (V 11) (V 12) (V 9 4)) cr f3 (fun i => V 4 (V 10 (f3 i).toNat).toNat) n ∧ V' (15 + 4 * m + 1) = f3) ∨ (z = 0 ∧ ¬ moveT (way (V 11) (V 12) (V 9 4)) cr f3 (fun i => V 4 (V 10 (f3 i).toNat).toNat) n < V (15 + 4 * m) 6 ∧ V' (15 + 4 * m) 6 = V (15 + 4 * m) 6 ∧ ∀ j, j < n → V' (15 + 4 * m + 1) j = V (15 + 4 * m + 1) j)))))) := by
  refine CI.of (by decide +kernel) rfl (Nat.le_of_ble_eq_true rfl) ha (fun x hq => ?_)
  show G l D (tysL τ) (LX τ) a mX6_exchangeOnce x 0 [(0, .ref (a 0)), (1, .ref (a (15 + 4 * m)))] [] V
  refine g_aload_n 1 dX6_exchangeOnce_0 rfl rfl ?_
  refine g_getf (15 + 4 * m) (.int (iN (V (15 + 4 * m) 5))) fX6_274 (ox_M (m := m) hm) dX6_exchangeOnce_1 rfl ?_
  refine g_top (show V (15 + 4 * m) 5 = (n : Int) from hn) ?_
  refine g_iconst dX6_exchangeOnce_4 ?_
  refine g_icmp_ge 10 dX6_exchangeOnce_5 (by decide) (fun c_1 => ?_) (fun c_1 => ?_)
  · refine g_aload_n 0 dX6_exchangeOnce_10 rfl rfl ?_
    refine g_getf 0 (.ref (a 1)) fX6_72 ox_0 dX6_exchangeOnce_11 rfl ?_
    refine g_aload_n 1 dX6_exchangeOnce_14 rfl rfl ?_
    refine g_getf (15 + 4 * m) (.int (iN (V (15 + 4 * m) 5))) fX6_274 (ox_M (m := m) hm) dX6_exchangeOnce_15 rfl ?_
    refine g_top (show V (15 + 4 * m) 5 = (n : Int) from hn) ?_
    refine g_callI (k := 1) [.int (iN (n : Int))] (met_X0_next (V := V) ha (n : Int) (by omega)) vX6_267 ox_1 rfl rfl ⟨rfl, rfl, Nat.le_of_ble_eq_true rfl, Nat.le_of_ble_eq_true rfl⟩ rfl (Nat.le_of_ble_eq_true rfl) dX6_exchangeOnce_18 rfl ?_
    rintro z9 Va ⟨hz9, eVa⟩
    have ha0 := drw_in (lcg (V 1 0))
    change z9 = drw (lcg (V 1 0)) % (n : Int) at hz9
    have hma0 : 0 ≤ drw (lcg (V 1 0)) % (n : Int) ∧ drw (lcg (V 1 0)) % (n : Int) < n := ⟨Int.emod_nonneg _ (by omega), Int.emod_lt_of_pos _ (by omega)⟩
    obtain ⟨a0, hda0⟩ : ∃ q : Nat, (q : Int) = drw (lcg (V 1 0)) % (n : Int) := ⟨(drw (lcg (V 1 0)) % (n : Int)).toNat, by omega⟩
    rw [← hda0] at hz9
    replace hz9 := hz9.symm
    subst hz9
    refine g_istore_n [(2, .int (iN (a0 : Int))), (0, .ref (a 0)), (1, .ref (a (15 + 4 * m)))] dX6_exchangeOnce_21 rfl (by decide) rfl ?_
    refine g_aload_n 1 dX6_exchangeOnce_22 rfl rfl ?_
    refine g_getf 0 (.ref (a 1)) fX6_72 ox_0 dX6_exchangeOnce_23 rfl ?_
    refine g_aload_n 2 dX6_exchangeOnce_26 rfl rfl ?_
    refine g_getf (15 + 4 * m) (.int (iN (Va (15 + 4 * m) 5))) fX6_274 (ox_M (m := m) hm) dX6_exchangeOnce_27 rfl ?_
    refine g_top (show Va (15 + 4 * m) 5 = (n : Int) from by rw [show Va (15 + 4 * m) = V (15 + 4 * m) from (by rw [eVa]; exact up_ne1 (by omega))]; exact hn) ?_
    refine g_callI (k := 1) [.int (iN (n : Int))] (met_X0_next (V := Va) ha (n : Int) (by omega)) vX6_267 ox_1 rfl rfl ⟨rfl, rfl, Nat.le_of_ble_eq_true rfl, Nat.le_of_ble_eq_true rfl⟩ rfl (Nat.le_of_ble_eq_true rfl) dX6_exchangeOnce_30 rfl ?_
    rintro z9 Vb ⟨hz9, eVb⟩
    have hb0 := drw_in (lcg (lcg (V 1 0)))
    rw [eVa, up_eq] at hz9 eVb
    change z9 = drw (lcg (lcg (V 1 0))) % (n : Int) at hz9
    have hmb0 : 0 ≤ drw (lcg (lcg (V 1 0))) % (n : Int) ∧ drw (lcg (lcg (V 1 0))) % (n : Int) < n := ⟨Int.emod_nonneg _ (by omega), Int.emod_lt_of_pos _ (by omega)⟩
    obtain ⟨b0, hdb0⟩ : ∃ q : Nat, (q : Int) = drw (lcg (lcg (V 1 0))) % (n : Int) := ⟨(drw (lcg (lcg (V 1 0))) % (n : Int)).toNat, by omega⟩
    rw [← hdb0] at hz9
    replace hz9 := hz9.symm
    subst hz9
    refine g_istore_n [(3, .int (iN (b0 : Int))), (2, .int (iN (a0 : Int))), (0, .ref (a 0)), (1, .ref (a (15 + 4 * m)))] dX6_exchangeOnce_33 rfl (by decide) rfl ?_
    have ob : ∀ c, c ≠ 1 → Vb c = V c := fun c h => by rw [eVb, up_ne1 h, up_ne1 h]
    have bC : Vb (15 + 4 * m) = V (15 + 4 * m) := ob _ (by omega)
    have bR : Vb (15 + 4 * m + 1) = V (15 + 4 * m + 1) := ob _ (by omega)
    have b13 : Vb 13 = V 13 := ob 13 (by omega)
    have hra := hrw a0 (by omega)
    have hrb := hrw b0 (by omega)
    have hd1 : (0 : Int) ≤ ((a0 / cr : Nat) : Int) := Int.natCast_nonneg _
    have hd2 : (0 : Int) ≤ ((b0 / cr : Nat) : Int) := Int.natCast_nonneg _
    have hd3 : a0 / cr ≤ a0 := Nat.div_le_self _ _
    have hd4 : b0 / cr ≤ b0 := Nat.div_le_self _ _
    refine g_aload_n 2 dX6_exchangeOnce_34 rfl rfl ?_
    refine g_getf 0 (.ref (a 9)) fX6_19 ox_0 dX6_exchangeOnce_35 rfl ?_
    refine g_aload_n 3 dX6_exchangeOnce_38 rfl rfl ?_
    refine g_getf (15 + 4 * m) (.ref (a (15 + 4 * m + 1))) fX6_277 (ox_M (m := m) hm) dX6_exchangeOnce_39 rfl ?_
    refine g_iload_n 1 dX6_exchangeOnce_42 rfl rfl ?_
    refine g_iald (15 + 4 * m + 1) a0 (ax_R (m := m) (by omega)) dX6_exchangeOnce_43 rfl (by omega) ?_
    refine g_top (show Vb (15 + 4 * m + 1) a0 = (((V (15 + 4 * m + 1) a0).toNat : Nat) : Int) from by rw [bR]; omega) ?_
    refine g_aload_n 3 dX6_exchangeOnce_44 rfl rfl ?_
    refine g_getf (15 + 4 * m) (.ref (a (15 + 4 * m + 1))) fX6_277 (ox_M (m := m) hm) dX6_exchangeOnce_45 rfl ?_
    refine g_iload_n 0 dX6_exchangeOnce_48 rfl rfl ?_
    refine g_iald (15 + 4 * m + 1) b0 (ax_R (m := m) (by omega)) dX6_exchangeOnce_49 rfl (by omega) ?_
    refine g_top (show Vb (15 + 4 * m + 1) b0 = (((V (15 + 4 * m + 1) b0).toNat : Nat) : Int) from by rw [bR]; omega) ?_
    refine g_callI (k := 9) [.int (iN (((V (15 + 4 * m + 1) a0).toNat : Nat) : Int)), .int (iN (((V (15 + 4 * m + 1) b0).toNat : Nat) : Int))] (met_X3_sameHeight (V := Vb) ha ((V (15 + 4 * m + 1) a0).toNat) ((V (15 + 4 * m + 1) b0).toNat) (by omega) (by omega) (by rw [b13]; exact hh)) vX6_280 ox_9 rfl rfl ⟨rfl, rfl, Nat.le_of_ble_eq_true rfl, Nat.le_of_ble_eq_true rfl⟩ rfl (Nat.le_of_ble_eq_true rfl) dX6_exchangeOnce_50 rfl ?_
    rintro z9 V9 ⟨hp9, hV9⟩
    replace hV9 := hV9.symm
    subst hV9
    rcases hp9 with ⟨hz9, b_2⟩ | ⟨hz9, b_2⟩
    · subst hz9
      refine g_if_eq 69 dX6_exchangeOnce_53 (by decide) (fun c_3 => absurd c_3 (by decide)) (fun _ => ?_)
      refine g_aload_n 3 dX6_exchangeOnce_56 rfl rfl ?_
      refine g_iload_n 1 dX6_exchangeOnce_57 rfl rfl ?_
      have c4_3 : Vb (15 + 4 * m) 4 = (cr : Int) := by rw [show Vb (15 + 4 * m) = V (15 + 4 * m) from bC]; exact hcr
      refine g_callI (k := 15 + 4 * m) [.int (iN (a0 : Int))] (met_X2_tripAt (V := Vb) ha hm (a0 : Int) (by omega) (by rw [c4_3]; omega)) vX6_163 (ox_M (m := m) hm) rfl rfl ⟨rfl, rfl, Nat.le_of_ble_eq_true rfl, Nat.le_of_ble_eq_true rfl⟩ rfl (Nat.le_of_ble_eq_true rfl) dX6_exchangeOnce_58 rfl ?_
      rintro z9 V9 ⟨hz9, hV9⟩
      replace hV9 := hV9.symm
      subst hV9
      rw [c4_3, ← Int.natCast_ediv] at hz9
      replace hz9 := hz9.symm
      subst hz9
      refine g_aload_n 3 dX6_exchangeOnce_61 rfl rfl ?_
      refine g_iload_n 0 dX6_exchangeOnce_62 rfl rfl ?_
      have c4_4 : Vb (15 + 4 * m) 4 = (cr : Int) := by rw [show Vb (15 + 4 * m) = V (15 + 4 * m) from bC]; exact hcr
      refine g_callI (k := 15 + 4 * m) [.int (iN (b0 : Int))] (met_X2_tripAt (V := Vb) ha hm (b0 : Int) (by omega) (by rw [c4_4]; omega)) vX6_163 (ox_M (m := m) hm) rfl rfl ⟨rfl, rfl, Nat.le_of_ble_eq_true rfl, Nat.le_of_ble_eq_true rfl⟩ rfl (Nat.le_of_ble_eq_true rfl) dX6_exchangeOnce_63 rfl ?_
      rintro z9 V9 ⟨hz9, hV9⟩
      replace hV9 := hV9.symm
      subst hV9
      rw [c4_4, ← Int.natCast_ediv] at hz9
      replace hz9 := hz9.symm
      subst hz9
      refine g_icmp_ne 71 dX6_exchangeOnce_66 (by decide) (fun c_6 => ?_) (fun c_6 => ?_)
      · refine g_aload_n 3 dX6_exchangeOnce_71 rfl rfl ?_
        refine g_getf (15 + 4 * m) (.ref (a (15 + 4 * m + 1))) fX6_277 (ox_M (m := m) hm) dX6_exchangeOnce_72 rfl ?_
        refine g_iconst dX6_exchangeOnce_75 ?_
        refine g_aload_n 2 dX6_exchangeOnce_76 rfl rfl ?_
        refine g_getf 0 (.ref (a 120)) fX6_44 ox_0 dX6_exchangeOnce_77 rfl ?_
        refine g_iconst dX6_exchangeOnce_80 ?_
        refine g_aload_n 3 dX6_exchangeOnce_81 rfl rfl ?_
        refine g_getf (15 + 4 * m) (.int (iN (Vb (15 + 4 * m) 5))) fX6_274 (ox_M (m := m) hm) dX6_exchangeOnce_82 rfl ?_
        refine g_top (show Vb (15 + 4 * m) 5 = (n : Int) from by rw [show Vb (15 + 4 * m) = V (15 + 4 * m) from bC]; exact hn) ?_
        refine g_copy (15 + 4 * m + 1) 120 n vX6_284 (ax_R (m := m) (by omega)) ax_120 (by omega) (by omega) (by omega) (by decide +kernel) (Nat.le_of_ble_eq_true rfl) dX6_exchangeOnce_85 ?_
        obtain ⟨V_7, eV_7⟩ : ∃ V9 : Mem, V9 = cpyM Vb (15 + 4 * m + 1) 120 n := ⟨_, rfl⟩
        refine g_mem eV_7.symm ?_
        refine g_aload_n 3 dX6_exchangeOnce_88 rfl rfl ?_
        refine g_getf (15 + 4 * m) (.ref (a (15 + 4 * m + 1))) fX6_277 (ox_M (m := m) hm) dX6_exchangeOnce_89 rfl ?_
        refine g_iload_n 1 dX6_exchangeOnce_92 rfl rfl ?_
        refine g_aload_n 2 dX6_exchangeOnce_93 rfl rfl ?_
        refine g_getf 0 (.ref (a 120)) fX6_44 ox_0 dX6_exchangeOnce_94 rfl ?_
        refine g_iload_n 0 dX6_exchangeOnce_97 rfl rfl ?_
        refine g_iald 120 b0 ax_120 dX6_exchangeOnce_98 rfl (by omega) ?_
        refine g_top (show V_7 120 b0 = V (15 + 4 * m + 1) b0 from by rw [eV_7, cpyM_in (by omega), bR]) ?_
        refine g_iast (15 + 4 * m + 1) a0 (ax_R (m := m) (by omega)) dX6_exchangeOnce_99 rfl (by omega) ?_
        obtain ⟨V_8, eV_8⟩ : ∃ V9 : Mem, V9 = up V_7 (15 + 4 * m + 1) a0 (V (15 + 4 * m + 1) b0) := ⟨_, rfl⟩
        refine g_mem eV_8.symm ?_
        refine g_aload_n 3 dX6_exchangeOnce_100 rfl rfl ?_
        refine g_getf (15 + 4 * m) (.ref (a (15 + 4 * m + 1))) fX6_277 (ox_M (m := m) hm) dX6_exchangeOnce_101 rfl ?_
        refine g_iload_n 0 dX6_exchangeOnce_104 rfl rfl ?_
        refine g_aload_n 2 dX6_exchangeOnce_105 rfl rfl ?_
        refine g_getf 0 (.ref (a 120)) fX6_44 ox_0 dX6_exchangeOnce_106 rfl ?_
        refine g_iload_n 1 dX6_exchangeOnce_109 rfl rfl ?_
        refine g_iald 120 a0 ax_120 dX6_exchangeOnce_110 rfl (by omega) ?_
        refine g_top (show _ = V_7 120 a0 from by rw [eV_8, up_ne (by omega)]) ?_
        refine g_top (show V_7 120 a0 = V (15 + 4 * m + 1) a0 from by rw [eV_7, cpyM_in (by omega), bR]) ?_
        refine g_iast (15 + 4 * m + 1) b0 (ax_R (m := m) (by omega)) dX6_exchangeOnce_111 rfl (by omega) ?_
        obtain ⟨V_9, eV_9⟩ : ∃ V9 : Mem, V9 = up V_8 (15 + 4 * m + 1) b0 (V (15 + 4 * m + 1) a0) := ⟨_, rfl⟩
        refine g_mem eV_9.symm ?_
        obtain ⟨Vd, eVd⟩ : ∃ q, q = V_9 := ⟨_, rfl⟩
        have d0 : ∀ c, c ≠ 1 → c ≠ 120 → c ≠ 15 + 4 * m + 1 → Vd c = V c := fun c h1 h2 h3 => by rw [eVd, eV_9, up_ne1 h3, eV_8, up_ne1 h3, eV_7, cpyM_ne h2]; exact ob c h1
        have dR : Vd (15 + 4 * m + 1) = swp (V (15 + 4 * m + 1)) a0 b0 := by
          rw [eVd, eV_9, up_self, eV_8, up_self, eV_7, cpyM_ne (by omega), bR]; rfl
        have d120 : ∀ j, j < n → Vd 120 j = V (15 + 4 * m + 1) j := fun j hj => by
          rw [eVd, eV_9, up_ne1 (by omega), eV_8, up_ne1 (by omega), eV_7, cpyM_in hj, bR]
        have d1 : Vd 1 = Vb 1 := by rw [eVd, eV_9, up_ne1 (by omega), eV_8, up_ne1 (by omega), eV_7, cpyM_ne (by omega)]
        have VdC : Vd (15 + 4 * m) = V (15 + 4 * m) := d0 _ (by omega) (by omega) (by omega)
        have Vdr : ∀ i, i < n → 0 ≤ Vd (15 + 4 * m + 1) i ∧ Vd (15 + 4 * m + 1) i < 40 := fun i hi => by
          rw [dR]; unfold swp up1
          have := hrw i hi
          split
          · omega
          · split <;> omega
        refine g_mem eVd.symm ?_
        have Vd4 : Vd 4 = V 4 := d0 4 (by omega) (by omega) (by omega)
        have Vd9 : Vd 9 = V 9 := d0 9 (by omega) (by omega) (by omega)
        have Vd10 : Vd 10 = V 10 := d0 10 (by omega) (by omega) (by omega)
        have Vd11 : Vd 11 = V 11 := d0 11 (by omega) (by omega) (by omega)
        have Vd12 : Vd 12 = V 12 := d0 12 (by omega) (by omega) (by omega)
        have Vd13 : Vd 13 = V 13 := d0 13 (by omega) (by omega) (by omega)
        refine g_aload_n 2 dX6_exchangeOnce_112 rfl rfl ?_
        refine g_getf 0 (.ref (a 44)) fX6_40 ox_0 dX6_exchangeOnce_113 rfl ?_
        refine g_aload_n 2 dX6_exchangeOnce_116 rfl rfl ?_
        refine g_getf 0 (.ref (a 9)) fX6_19 ox_0 dX6_exchangeOnce_117 rfl ?_
        refine g_aload_n 3 dX6_exchangeOnce_120 rfl rfl ?_
        refine g_aload_n 3 dX6_exchangeOnce_121 rfl rfl ?_
        refine g_iload_n 1 dX6_exchangeOnce_122 rfl rfl ?_
        have c4_9 : Vd (15 + 4 * m) 4 = (cr : Int) := by rw [show Vd (15 + 4 * m) = V (15 + 4 * m) from VdC]; exact hcr
        refine g_callI (k := 15 + 4 * m) [.int (iN (a0 : Int))] (met_X2_tripAt (V := Vd) ha hm (a0 : Int) (by omega) (by rw [c4_9]; omega)) vX6_163 (ox_M (m := m) hm) rfl rfl ⟨rfl, rfl, Nat.le_of_ble_eq_true rfl, Nat.le_of_ble_eq_true rfl⟩ rfl (Nat.le_of_ble_eq_true rfl) dX6_exchangeOnce_123 rfl ?_
        rintro z9 V9 ⟨hz9, hV9⟩
        replace hV9 := hV9.symm
        subst hV9
        rw [c4_9, ← Int.natCast_ediv] at hz9
        replace hz9 := hz9.symm
        subst hz9
        have hfl0 : a0 / cr * cr ≤ a0 := Nat.div_mul_le_self _ _
        refine g_callV (k := 44) [.ref (a 9), .ref (a (15 + 4 * m)), .int (iN ((a0 / cr : Nat) : Int))] (met_X5_arrange (V := Vd) ha hm (a0 / cr) cr n (a0 / cr * cr) (min cr (n - a0 / cr * cr)) (by rw [VdC]; exact hcr) hcr6 (by rw [VdC]; exact hn) hn40 rfl (by omega) rfl (by omega) Vdr (by rw [Vd9]; exact hc) (by rw [Vd13]; exact hh) (by rw [Vd11]; exact hx) (by rw [Vd12]; exact hy)) vX6_251 ox_44 rfl rfl ⟨rfl, rfl, Nat.le_of_ble_eq_true rfl, Nat.le_of_ble_eq_true rfl⟩ rfl (Nat.le_of_ble_eq_true rfl) dX6_exchangeOnce_126 rfl ?_
        rintro Ve ⟨g0, hg0, hr0, ho0⟩
        have VeC : Ve (15 + 4 * m) = V (15 + 4 * m) := (ho0 _ (by omega) (by omega)).trans VdC
        have Ve4 : Ve 4 = V 4 := (ho0 4 (by omega) (by omega)).trans Vd4
        have Ve9 : Ve 9 = V 9 := (ho0 9 (by omega) (by omega)).trans Vd9
        have Ve10 : Ve 10 = V 10 := (ho0 10 (by omega) (by omega)).trans Vd10
        have Ve11 : Ve 11 = V 11 := (ho0 11 (by omega) (by omega)).trans Vd11
        have Ve12 : Ve 12 = V 12 := (ho0 12 (by omega) (by omega)).trans Vd12
        have Ve13 : Ve 13 = V 13 := (ho0 13 (by omega) (by omega)).trans Vd13
        have Ver : ∀ i, i < n → 0 ≤ Ve (15 + 4 * m + 1) i ∧ Ve (15 + 4 * m + 1) i < 40 := fun i hi => by
          rw [hr0]
          split
          · exact isArr_all (P := fun z => 0 ≤ z ∧ z < 40) hg0 (fun i hi => Vdr _ (by omega)) _ (by omega)
          · exact Vdr i hi
        refine g_aload_n 2 dX6_exchangeOnce_129 rfl rfl ?_
        refine g_getf 0 (.ref (a 44)) fX6_40 ox_0 dX6_exchangeOnce_130 rfl ?_
        refine g_aload_n 2 dX6_exchangeOnce_133 rfl rfl ?_
        refine g_getf 0 (.ref (a 9)) fX6_19 ox_0 dX6_exchangeOnce_134 rfl ?_
        refine g_aload_n 3 dX6_exchangeOnce_137 rfl rfl ?_
        refine g_aload_n 3 dX6_exchangeOnce_138 rfl rfl ?_
        refine g_iload_n 0 dX6_exchangeOnce_139 rfl rfl ?_
        have c4_10 : Ve (15 + 4 * m) 4 = (cr : Int) := by rw [show Ve (15 + 4 * m) = V (15 + 4 * m) from VeC]; exact hcr
        refine g_callI (k := 15 + 4 * m) [.int (iN (b0 : Int))] (met_X2_tripAt (V := Ve) ha hm (b0 : Int) (by omega) (by rw [c4_10]; omega)) vX6_163 (ox_M (m := m) hm) rfl rfl ⟨rfl, rfl, Nat.le_of_ble_eq_true rfl, Nat.le_of_ble_eq_true rfl⟩ rfl (Nat.le_of_ble_eq_true rfl) dX6_exchangeOnce_140 rfl ?_
        rintro z9 V9 ⟨hz9, hV9⟩
        replace hV9 := hV9.symm
        subst hV9
        rw [c4_10, ← Int.natCast_ediv] at hz9
        replace hz9 := hz9.symm
        subst hz9
        have hfl1 : b0 / cr * cr ≤ b0 := Nat.div_mul_le_self _ _
        refine g_callV (k := 44) [.ref (a 9), .ref (a (15 + 4 * m)), .int (iN ((b0 / cr : Nat) : Int))] (met_X5_arrange (V := Ve) ha hm (b0 / cr) cr n (b0 / cr * cr) (min cr (n - b0 / cr * cr)) (by rw [VeC]; exact hcr) hcr6 (by rw [VeC]; exact hn) hn40 rfl (by omega) rfl (by omega) Ver (by rw [Ve9]; exact hc) (by rw [Ve13]; exact hh) (by rw [Ve11]; exact hx) (by rw [Ve12]; exact hy)) vX6_251 ox_44 rfl rfl ⟨rfl, rfl, Nat.le_of_ble_eq_true rfl, Nat.le_of_ble_eq_true rfl⟩ rfl (Nat.le_of_ble_eq_true rfl) dX6_exchangeOnce_143 rfl ?_
        rintro Vf ⟨g1, hg1, hr1, ho1⟩
        have VfC : Vf (15 + 4 * m) = V (15 + 4 * m) := (ho1 _ (by omega) (by omega)).trans VeC
        have Vf4 : Vf 4 = V 4 := (ho1 4 (by omega) (by omega)).trans Ve4
        have Vf9 : Vf 9 = V 9 := (ho1 9 (by omega) (by omega)).trans Ve9
        have Vf10 : Vf 10 = V 10 := (ho1 10 (by omega) (by omega)).trans Ve10
        have Vf11 : Vf 11 = V 11 := (ho1 11 (by omega) (by omega)).trans Ve11
        have Vf12 : Vf 12 = V 12 := (ho1 12 (by omega) (by omega)).trans Ve12
        have Vf13 : Vf 13 = V 13 := (ho1 13 (by omega) (by omega)).trans Ve13
        have Vfr : ∀ i, i < n → 0 ≤ Vf (15 + 4 * m + 1) i ∧ Vf (15 + 4 * m + 1) i < 40 := fun i hi => by
          rw [hr1]
          split
          · exact isArr_all (P := fun z => 0 ≤ z ∧ z < 40) hg1 (fun i hi => Ver _ (by omega)) _ (by omega)
          · exact Ver i hi
        refine g_aload_n 2 dX6_exchangeOnce_146 rfl rfl ?_
        refine g_aload_n 3 dX6_exchangeOnce_147 rfl rfl ?_
        refine g_callI (k := 0) [.ref (a (15 + 4 * m))] (met_X6_moveTime (V := Vf) ha hm n (by rw [VfC]; exact hn) hn40 Vfr cr (by rw [VfC]; exact hcr) hcr6 (by rw [Vf10]; exact hko) (by rw [Vf4]; exact hnz) (by rw [Vf9]; exact hc) (by rw [Vf11]; exact hx) (by rw [Vf12]; exact hy)) vX6_255 ox_0 rfl rfl ⟨rfl, rfl, Nat.le_of_ble_eq_true rfl, Nat.le_of_ble_eq_true rfl⟩ rfl (Nat.le_of_ble_eq_true rfl) dX6_exchangeOnce_148 rfl ?_
        rintro z9 V9 ⟨hz9, hV9⟩
        replace hV9 := hV9.symm
        subst hV9
        rw [Vf11, Vf12, Vf9, Vf10, Vf4] at hz9
        have hWY : ∀ p q, 0 ≤ way (V 11) (V 12) (V 9 4) p q ∧ way (V 11) (V 12) (V 9 4) p q ≤ 100000 := fun p q => way_in hx hy hc.2
        have hT := moveT_in (cr := cr) (f := Vf (15 + 4 * m + 1)) (g := fun i => V 4 (V 10 (Vf (15 + 4 * m + 1) i).toNat).toNat) hWY n hn40
        rw [← hz9] at hT
        refine g_istore [(4, .int (iN z9)), (3, .int (iN (b0 : Int))), (2, .int (iN (a0 : Int))), (0, .ref (a 0)), (1, .ref (a (15 + 4 * m)))] dX6_exchangeOnce_151 (by decide) rfl ?_
        refine g_iload 0 dX6_exchangeOnce_153 rfl ?_
        refine g_aload_n 4 dX6_exchangeOnce_155 rfl rfl ?_
        refine g_getf (15 + 4 * m) (.int (iN (Vf (15 + 4 * m) 6))) fX6_258 (ox_M (m := m) hm) dX6_exchangeOnce_156 rfl ?_
        refine g_top (show Vf (15 + 4 * m) 6 = V (15 + 4 * m) 6 from by rw [VfC]) ?_
        refine g_icmp_ge 170 dX6_exchangeOnce_159 (by decide) (fun c_12 => ?_) (fun c_12 => ?_)
        · refine g_aload_n 3 dX6_exchangeOnce_170 rfl rfl ?_
          refine g_getf 0 (.ref (a 120)) fX6_44 ox_0 dX6_exchangeOnce_171 rfl ?_
          refine g_iconst dX6_exchangeOnce_174 ?_
          refine g_aload_n 4 dX6_exchangeOnce_175 rfl rfl ?_
          refine g_getf (15 + 4 * m) (.ref (a (15 + 4 * m + 1))) fX6_277 (ox_M (m := m) hm) dX6_exchangeOnce_176 rfl ?_
          refine g_iconst dX6_exchangeOnce_179 ?_
          refine g_aload_n 4 dX6_exchangeOnce_180 rfl rfl ?_
          refine g_getf (15 + 4 * m) (.int (iN (Vf (15 + 4 * m) 5))) fX6_274 (ox_M (m := m) hm) dX6_exchangeOnce_181 rfl ?_
          refine g_top (show Vf (15 + 4 * m) 5 = (n : Int) from by rw [show Vf (15 + 4 * m) = V (15 + 4 * m) from VfC]; exact hn) ?_
          refine g_copy 120 (15 + 4 * m + 1) n vX6_284 ax_120 (ax_R (m := m) (by omega)) (by omega) (by omega) (by omega) (by decide +kernel) (Nat.le_of_ble_eq_true rfl) dX6_exchangeOnce_184 ?_
          obtain ⟨V_13, eV_13⟩ : ∃ V9 : Mem, V9 = cpyM Vf 120 (15 + 4 * m + 1) n := ⟨_, rfl⟩
          refine g_mem eV_13.symm ?_
          refine g_iconst dX6_exchangeOnce_187 ?_
          exact g_iret hq rfl rfl dX6_exchangeOnce_188 (Or.inr ⟨by omega, by rw [eV_13, cpyM_ne (by omega), ho1 1 (by omega) (by omega), ho0 1 (by omega) (by omega), d1, eVb, up_eq]; rfl, fun c h1 h2 h3 h4 => by rw [eV_13, cpyM_ne h4, ho1 c (by omega) h4, ho0 c (by omega) h4]; exact d0 c h2 (by omega) h4, fun j hj => by rw [eV_13, cpyM_ne (by omega), VfC], a0, b0, hda0, hdb0, by omega, by omega, Or.inr ⟨by rw [b13] at b_2; exact b_2, by omega, Ve (15 + 4 * m + 1), Vf (15 + 4 * m + 1), ⟨g0, by rw [Vd13, Vd11, Vd12, Vd9, dR] at hg0; exact hg0, fun j => by rw [hr0, dR]⟩, ⟨g1, by rw [Ve13, Ve11, Ve12, Ve9] at hg1; exact hg1, hr1⟩, Or.inr ⟨rfl, by rw [← hz9]; omega, by rw [eV_13, cpyM_ne (by omega), VfC], fun j hj => by rw [eV_13, cpyM_in hj, ho1 120 (by omega) (by omega), ho0 120 (by omega) (by omega), d120 j hj]⟩⟩⟩)
        · refine g_aload_n 4 dX6_exchangeOnce_162 rfl rfl ?_
          refine g_iload 0 dX6_exchangeOnce_163 rfl ?_
          refine g_putf (15 + 4 * m) (v := z9) (.int (iN z9)) pX6_258 (ox_M (m := m) hm) dX6_exchangeOnce_165 rfl rfl (Nat.le_of_ble_eq_true rfl) rfl ?_
          obtain ⟨V_14, eV_14⟩ : ∃ V9 : Mem, V9 = up Vf (15 + 4 * m) 6 z9 := ⟨_, rfl⟩
          refine g_mem eV_14.symm ?_
          refine g_iconst dX6_exchangeOnce_168 ?_
          exact g_iret hq rfl rfl dX6_exchangeOnce_169 (Or.inr ⟨by omega, by rw [eV_14, up_ne (by omega), ho1 1 (by omega) (by omega), ho0 1 (by omega) (by omega), d1, eVb, up_eq]; rfl, fun c h1 h2 h3 h4 => by rw [eV_14, up_ne1 h3, ho1 c (by omega) h4, ho0 c (by omega) h4]; exact d0 c h2 (by omega) h4, fun j hj => by rw [eV_14, up_ne (by omega), VfC], a0, b0, hda0, hdb0, by omega, by omega, Or.inr ⟨by rw [b13] at b_2; exact b_2, by omega, Ve (15 + 4 * m + 1), Vf (15 + 4 * m + 1), ⟨g0, by rw [Vd13, Vd11, Vd12, Vd9, dR] at hg0; exact hg0, fun j => by rw [hr0, dR]⟩, ⟨g1, by rw [Ve13, Ve11, Ve12, Ve9] at hg1; exact hg1, hr1⟩, Or.inl ⟨rfl, by rw [← hz9]; omega, by rw [eV_14, up_eq, hz9], by rw [eV_14, up_ne1 (by omega)]⟩⟩⟩)
      · refine g_iconst dX6_exchangeOnce_69 ?_
        exact g_iret hq rfl rfl dX6_exchangeOnce_70 (Or.inr ⟨by omega, by rw [eVb, up_eq]; rfl, fun c _ h1 _ _ => ob c h1, fun j _ => by rw [bC], a0, b0, hda0, hdb0, by omega, by omega, Or.inl ⟨rfl, Or.inr (by omega), by rw [bC], bR⟩⟩)
    · subst hz9
      refine g_if_eq 69 dX6_exchangeOnce_53 (by decide) (fun _ => ?_) (fun c_15 => absurd c_15 (by decide))
      refine g_iconst dX6_exchangeOnce_69 ?_
      exact g_iret hq rfl rfl dX6_exchangeOnce_70 (Or.inr ⟨by omega, by rw [eVb, up_eq]; rfl, fun c _ h1 _ _ => ob c h1, fun j _ => by rw [bC], a0, b0, hda0, hdb0, by omega, by omega, Or.inl ⟨rfl, by rw [b13] at b_2; exact Or.inl b_2, by rw [bC], bR⟩⟩)
  · refine g_iconst dX6_exchangeOnce_8 ?_
    exact g_iret hq rfl rfl dX6_exchangeOnce_9 (Or.inl ⟨by omega, rfl, rfl⟩)
