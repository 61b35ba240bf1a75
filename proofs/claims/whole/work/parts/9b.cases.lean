set_option maxHeartbeats 4000000 in
theorem case_kind {l : Launch} {D : va_G} {τ : Nat → ClassId} {a : Nat → Nat} {x : Ctx} {b N i c0 s0 : Nat} {xs : Nat → Int32} {V W : Mem} {o : Int} (ha : Apart (LL τ) a) (hx : scr x b N xs) (z0 : zer x) (rd : rdy x) (hi : i + 8 ≤ N) (hN : N ≤ 4098) (hR : c0 + 1 ≤ 601024 ∧ s0 + 6 ≤ 7293000) (hl : l.stackTraces = false) (hinv : inv V W) (kk : ∀ V' W' o', inv V' W' → G l D (tysL τ) (LL τ) a iLaw (bmp x (c0 + 1) (s0 + 6)) 1422 (LV a b i) [] (mem3 V' W' o')) : G l D (tysL τ) (LL τ) a iLaw (bmp x c0 s0) 144 (LV a b i) [] (mem3 V W o) := by
  have hok := hinv.1.1
  have hokR := okR_of hinv
  obtain ⟨r1, r2, r3, r4, r5, r6, -⟩ := hinv.2
  obtain ⟨k1_, c2, c3, c4, c5, -⟩ := hok
  have hok := hinv.1.1
  have aX := ap_X ha
  have aM := ap_M ha
  by_cases hg : 1 ≤ (xs (i + 1)).toInt ∧ (xs (i + 1)).toInt ≤ 4 ∧ 0 ≤ (xs (i + 2)).toInt ∧ (xs (i + 2)).toInt ≤ 7
  · have hH := hel_kind (l := l) (D := D) (W := W) (z := o) ha (xs (i + 1)).toInt (xs (i + 2)).toInt (met_X6_kind aX (xs (i + 1)).toInt (xs (i + 2)).toInt hok (by omega) (by omega))
    have hM := met_X7_kind (l := l) (D := D) aM (xs (i + 1)).toInt (xs (i + 2)).toInt hokR (by omega) (by omega)
    refine law_kind ha hx z0 rd hi hN hR hH hM (fun r U hP => ?_) kk
    obtain ⟨rfl, z1, V1, h1, rfl⟩ := hP
    refine ⟨V1, _, rfl, by omega, fun z2 W2 h2 => ?_⟩
    obtain ⟨e1, e2, e3, -⟩ := ans_kind (xs (i + 1)).toInt (xs (i + 2)).toInt (by omega) (by omega) hinv h1 h2
    subst e1
    exact ⟨e2, e3, fun _ => rfl⟩
  · have hH := hel_kind_IA (l := l) (D := D) (W := W) (z := o) ha (xs (i + 1)).toInt (xs (i + 2)).toInt (thr_X6_kind_IA hl aX (xs (i + 1)).toInt (xs (i + 2)).toInt hok (s_in _) (s_in _) hg)
    have hM := met_X7_kind_b1 (l := l) (D := D) aM (xs (i + 1)).toInt (xs (i + 2)).toInt hokR (s_in _) (s_in _) hg
    refine law_kind ha hx z0 rd hi hN hR hH hM (fun r U hP => ?_) kk
    obtain ⟨rfl, rfl⟩ := hP
    refine ⟨V, o, rfl, by omega, fun z2 W2 h2 => ?_⟩
    rw [h2]
    exact ⟨inv_thr hinv, up_eq, fun c => absurd c (by decide)⟩
set_option maxHeartbeats 4000000 in
theorem case_part {l : Launch} {D : va_G} {τ : Nat → ClassId} {a : Nat → Nat} {x : Ctx} {b N i c0 s0 : Nat} {xs : Nat → Int32} {V W : Mem} {o : Int} (ha : Apart (LL τ) a) (hx : scr x b N xs) (z0 : zer x) (rd : rdy x) (hi : i + 8 ≤ N) (hN : N ≤ 4098) (hR : c0 + 1 ≤ 601024 ∧ s0 + 6 ≤ 7293000) (hl : l.stackTraces = false) (hinv : inv V W) (kk : ∀ V' W' o', inv V' W' → G l D (tysL τ) (LL τ) a iLaw (bmp x (c0 + 1) (s0 + 6)) 1422 (LV a b i) [] (mem3 V' W' o')) : G l D (tysL τ) (LL τ) a iLaw (bmp x c0 s0) 212 (LV a b i) [] (mem3 V W o) := by
  have hok := hinv.1.1
  have hokR := okR_of hinv
  obtain ⟨r1, r2, r3, r4, r5, r6, -⟩ := hinv.2
  obtain ⟨k1_, c2, c3, c4, c5, -⟩ := hok
  have hok := hinv.1.1
  have aX := ap_X ha
  have aM := ap_M ha
  by_cases hg : (0 ≤ (xs (i + 1)).toInt ∧ (xs (i + 1)).toInt < V 2 6) ∧ (0 ≤ (lng (xs (i + 2)).toInt (xs (i + 3)).toInt) ∧ (lng (xs (i + 2)).toInt (xs (i + 3)).toInt) ≤ 100000 ∧ 0 ≤ (lng (xs (i + 4)).toInt (xs (i + 5)).toInt) ∧ (lng (xs (i + 4)).toInt (xs (i + 5)).toInt) ≤ 100000 ∧ 0 ≤ (lng (xs (i + 6)).toInt (xs (i + 7)).toInt) ∧ (lng (xs (i + 6)).toInt (xs (i + 7)).toInt) ≤ 10000)
  · have hH := hel_part (l := l) (D := D) (W := W) (z := o) ha (xs (i + 1)).toInt (lng (xs (i + 2)).toInt (xs (i + 3)).toInt) (lng (xs (i + 4)).toInt (xs (i + 5)).toInt) (lng (xs (i + 6)).toInt (xs (i + 7)).toInt) (met_X6_part aX (xs (i + 1)).toInt (lng (xs (i + 2)).toInt (xs (i + 3)).toInt) (lng (xs (i + 4)).toInt (xs (i + 5)).toInt) (lng (xs (i + 6)).toInt (xs (i + 7)).toInt) hok hg.1 (by omega) (by omega) (by omega))
    have hM := met_X7_part (l := l) (D := D) aM (xs (i + 1)).toInt (lng (xs (i + 2)).toInt (xs (i + 3)).toInt) (lng (xs (i + 4)).toInt (xs (i + 5)).toInt) (lng (xs (i + 6)).toInt (xs (i + 7)).toInt) hokR (by omega) (by omega) (by omega) (by omega)
    refine law_part ha hx z0 rd hi hN hR hH hM (fun r U hP => ?_) kk
    obtain ⟨rfl, z1, V1, h1, rfl⟩ := hP
    refine ⟨V1, _, rfl, by omega, fun z2 W2 h2 => ?_⟩
    obtain ⟨e1, e2, e3, -⟩ := ans_part (xs (i + 1)).toInt (lng (xs (i + 2)).toInt (xs (i + 3)).toInt) (lng (xs (i + 4)).toInt (xs (i + 5)).toInt) (lng (xs (i + 6)).toInt (xs (i + 7)).toInt) hg.1 (by omega) (by omega) (by omega) hinv h1 h2
    subst e1
    exact ⟨e2, e3, fun _ => rfl⟩
  · by_cases hg2 : ¬ (0 ≤ (xs (i + 1)).toInt ∧ (xs (i + 1)).toInt < V 2 6)
    · have hH := hel_part_IO (l := l) (D := D) (W := W) (z := o) ha (xs (i + 1)).toInt (lng (xs (i + 2)).toInt (xs (i + 3)).toInt) (lng (xs (i + 4)).toInt (xs (i + 5)).toInt) (lng (xs (i + 6)).toInt (xs (i + 7)).toInt) (thr_X6_part_IO hl aX (xs (i + 1)).toInt (lng (xs (i + 2)).toInt (xs (i + 3)).toInt) (lng (xs (i + 4)).toInt (xs (i + 5)).toInt) (lng (xs (i + 6)).toInt (xs (i + 7)).toInt) hok (s_in _) (lng_in _ _) (lng_in _ _) (lng_in _ _) hg2)
      have hM := met_X7_part_b1 (l := l) (D := D) aM (xs (i + 1)).toInt (lng (xs (i + 2)).toInt (xs (i + 3)).toInt) (lng (xs (i + 4)).toInt (xs (i + 5)).toInt) (lng (xs (i + 6)).toInt (xs (i + 7)).toInt) hokR (s_in _) (lng_in _ _) (lng_in _ _) (lng_in _ _) (by omega)
      refine law_part ha hx z0 rd hi hN hR hH hM (fun r U hP => ?_) kk
      obtain ⟨rfl, rfl⟩ := hP
      refine ⟨V, o, rfl, by omega, fun z2 W2 h2 => ?_⟩
      rw [h2]
      exact ⟨inv_thr hinv, up_eq, fun c => absurd c (by decide)⟩
    · have hH := hel_part_IA (l := l) (D := D) (W := W) (z := o) ha (xs (i + 1)).toInt (lng (xs (i + 2)).toInt (xs (i + 3)).toInt) (lng (xs (i + 4)).toInt (xs (i + 5)).toInt) (lng (xs (i + 6)).toInt (xs (i + 7)).toInt) (thr_X6_part_IA hl aX (xs (i + 1)).toInt (lng (xs (i + 2)).toInt (xs (i + 3)).toInt) (lng (xs (i + 4)).toInt (xs (i + 5)).toInt) (lng (xs (i + 6)).toInt (xs (i + 7)).toInt) hok (s_in _) (lng_in _ _) (lng_in _ _) (lng_in _ _) (by omega) (fun q => hg ⟨by omega, q⟩))
      have hM := met_X7_part_b2 (l := l) (D := D) aM (xs (i + 1)).toInt (lng (xs (i + 2)).toInt (xs (i + 3)).toInt) (lng (xs (i + 4)).toInt (xs (i + 5)).toInt) (lng (xs (i + 6)).toInt (xs (i + 7)).toInt) hokR (s_in _) (lng_in _ _) (lng_in _ _) (lng_in _ _) (by omega) (fun q => hg ⟨by omega, q⟩)
      refine law_part ha hx z0 rd hi hN hR hH hM (fun r U hP => ?_) kk
      obtain ⟨rfl, rfl⟩ := hP
      refine ⟨V, o, rfl, by omega, fun z2 W2 h2 => ?_⟩
      rw [h2]
      exact ⟨inv_thr hinv, up_eq, fun c => absurd c (by decide)⟩
set_option maxHeartbeats 4000000 in
theorem case_machine {l : Launch} {D : va_G} {τ : Nat → ClassId} {a : Nat → Nat} {x : Ctx} {b N i c0 s0 : Nat} {xs : Nat → Int32} {V W : Mem} {o : Int} (ha : Apart (LL τ) a) (hx : scr x b N xs) (z0 : zer x) (rd : rdy x) (hi : i + 8 ≤ N) (hN : N ≤ 4098) (hR : c0 + 1 ≤ 601024 ∧ s0 + 6 ≤ 7293000) (hl : l.stackTraces = false) (hinv : inv V W) (kk : ∀ V' W' o', inv V' W' → G l D (tysL τ) (LL τ) a iLaw (bmp x (c0 + 1) (s0 + 6)) 1422 (LV a b i) [] (mem3 V' W' o')) : G l D (tysL τ) (LL τ) a iLaw (bmp x c0 s0) 404 (LV a b i) [] (mem3 V W o) := by
  have hok := hinv.1.1
  have hokR := okR_of hinv
  obtain ⟨r1, r2, r3, r4, r5, r6, -⟩ := hinv.2
  obtain ⟨k1_, c2, c3, c4, c5, -⟩ := hok
  have hok := hinv.1.1
  have aX := ap_X ha
  have aM := ap_M ha
  obtain ⟨mc, hmc⟩ : ∃ q : Nat, V 0 8 = (q : Int) := ⟨_, (Int.toNat_of_nonneg c2.1).symm⟩
  by_cases hg : 0 ≤ (xs (i + 1)).toInt ∧ (xs (i + 1)).toInt ≤ 255 ∧ 1 ≤ (xs (i + 2)).toInt ∧ (xs (i + 2)).toInt ≤ 6
  · have hH := hel_machine (l := l) (D := D) (W := W) (z := o) ha (xs (i + 1)).toInt (xs (i + 2)).toInt (met_X6_machine aX (xs (i + 1)).toInt (xs (i + 2)).toInt mc hok hmc (by omega) (by omega))
    have hM := met_X7_machine (l := l) (D := D) aM (xs (i + 1)).toInt (xs (i + 2)).toInt hokR (by omega) (by omega)
    refine law_machine ha hx z0 rd hi hN hR hH hM (fun r U hP => ?_) kk
    obtain ⟨rfl, z1, V1, h1, rfl⟩ := hP
    refine ⟨V1, _, rfl, by omega, fun z2 W2 h2 => ?_⟩
    obtain ⟨e1, e2, e3, -⟩ := ans_machine (xs (i + 1)).toInt (xs (i + 2)).toInt mc hmc (by omega) (by omega) hinv h1 h2
    subst e1
    exact ⟨e2, e3, fun _ => rfl⟩
  · have hH := hel_machine_IA (l := l) (D := D) (W := W) (z := o) ha (xs (i + 1)).toInt (xs (i + 2)).toInt (thr_X6_machine_IA hl aX (xs (i + 1)).toInt (xs (i + 2)).toInt hok (s_in _) (s_in _) hg)
    have hM := met_X7_machine_b1 (l := l) (D := D) aM (xs (i + 1)).toInt (xs (i + 2)).toInt hokR (s_in _) (s_in _) hg
    refine law_machine ha hx z0 rd hi hN hR hH hM (fun r U hP => ?_) kk
    obtain ⟨rfl, rfl⟩ := hP
    refine ⟨V, o, rfl, by omega, fun z2 W2 h2 => ?_⟩
    rw [h2]
    exact ⟨inv_thr hinv, up_eq, fun c => absurd c (by decide)⟩
set_option maxHeartbeats 4000000 in
theorem case_fixed {l : Launch} {D : va_G} {τ : Nat → ClassId} {a : Nat → Nat} {x : Ctx} {b N i c0 s0 : Nat} {xs : Nat → Int32} {V W : Mem} {o : Int} (ha : Apart (LL τ) a) (hx : scr x b N xs) (z0 : zer x) (rd : rdy x) (hi : i + 8 ≤ N) (hN : N ≤ 4098) (hR : c0 + 1 ≤ 601024 ∧ s0 + 6 ≤ 7293000) (hl : l.stackTraces = false) (hinv : inv V W) (kk : ∀ V' W' o', inv V' W' → G l D (tysL τ) (LL τ) a iLaw (bmp x (c0 + 1) (s0 + 6)) 1422 (LV a b i) [] (mem3 V' W' o')) : G l D (tysL τ) (LL τ) a iLaw (bmp x c0 s0) 472 (LV a b i) [] (mem3 V W o) := by
  have hok := hinv.1.1
  have hokR := okR_of hinv
  obtain ⟨r1, r2, r3, r4, r5, r6, -⟩ := hinv.2
  obtain ⟨k1_, c2, c3, c4, c5, -⟩ := hok
  have hok := hinv.1.1
  have aX := ap_X ha
  have aM := ap_M ha
  by_cases hg : 0 ≤ (xs (i + 1)).toInt ∧ (xs (i + 1)).toInt < V 2 6 ∧ 0 ≤ (xs (i + 2)).toInt ∧ (xs (i + 2)).toInt < V 0 0
  · obtain ⟨k, hk⟩ : ∃ q : Nat, (xs (i + 1)).toInt = (q : Int) := ⟨_, (Int.toNat_of_nonneg (by omega)).symm⟩
    have hH := hel_fixed (l := l) (D := D) (W := W) (z := o) ha (k : Int) (xs (i + 2)).toInt (met_X6_fixed aX k (xs (i + 2)).toInt hok (by omega) (by omega))
    have hM := met_X7_fixed (l := l) (D := D) aM k (xs (i + 2)).toInt hokR (by omega) (by omega)
    rw [← hk] at hH hM
    refine law_fixed ha hx z0 rd hi hN hR hH hM (fun r U hP => ?_) kk
    obtain ⟨rfl, z1, V1, h1, rfl⟩ := hP
    refine ⟨V1, _, rfl, by omega, fun z2 W2 h2 => ?_⟩
    obtain ⟨e1, e2, e3, -⟩ := ans_fixed k (xs (i + 2)).toInt (by omega) (by omega) hinv h1 h2
    subst e1
    exact ⟨e2, e3, fun _ => rfl⟩
  · have hH := hel_fixed_IO (l := l) (D := D) (W := W) (z := o) ha (xs (i + 1)).toInt (xs (i + 2)).toInt (thr_X6_fixed_IO hl aX (xs (i + 1)).toInt (xs (i + 2)).toInt hok (s_in _) (s_in _) hg)
    have hM := met_X7_fixed_b1 (l := l) (D := D) aM (xs (i + 1)).toInt (xs (i + 2)).toInt hokR (s_in _) (s_in _) (by omega)
    refine law_fixed ha hx z0 rd hi hN hR hH hM (fun r U hP => ?_) kk
    obtain ⟨rfl, rfl⟩ := hP
    refine ⟨V, o, rfl, by omega, fun z2 W2 h2 => ?_⟩
    rw [h2]
    exact ⟨inv_thr hinv, up_eq, fun c => absurd c (by decide)⟩
set_option maxHeartbeats 4000000 in
theorem case_run {l : Launch} {D : va_G} {τ : Nat → ClassId} {a : Nat → Nat} {x : Ctx} {b N i c0 s0 : Nat} {xs : Nat → Int32} {V W : Mem} {o : Int} (ha : Apart (LL τ) a) (hx : scr x b N xs) (z0 : zer x) (rd : rdy x) (hi : i + 8 ≤ N) (hN : N ≤ 4098) (hR : c0 + 1 ≤ 601024 ∧ s0 + 6 ≤ 7293000) (hl : l.stackTraces = false) (hinv : inv V W) (kk : ∀ V' W' o', inv V' W' → G l D (tysL τ) (LL τ) a iLaw (bmp x (c0 + 1) (s0 + 6)) 1422 (LV a b i) [] (mem3 V' W' o')) : G l D (tysL τ) (LL τ) a iLaw (bmp x c0 s0) 547 (LV a b i) [] (mem3 V W o) := by
  have hok := hinv.1.1
  have hokR := okR_of hinv
  obtain ⟨r1, r2, r3, r4, r5, r6, -⟩ := hinv.2
  obtain ⟨k1_, c2, c3, c4, c5, -⟩ := hok
  have hok := hinv.1.1
  have aX := ap_X ha
  have aM := ap_M ha
  by_cases hg : 0 ≤ (xs (i + 1)).toInt ∧ (xs (i + 1)).toInt ≤ 3 ∧ 0 ≤ (lng (xs (i + 2)).toInt (xs (i + 3)).toInt) ∧ (lng (xs (i + 2)).toInt (xs (i + 3)).toInt) ≤ 200
  · obtain ⟨st, hst⟩ : ∃ q : Nat, (lng (xs (i + 2)).toInt (xs (i + 3)).toInt) = (q : Int) := ⟨_, (Int.toNat_of_nonneg (by omega)).symm⟩
    obtain ⟨us, hus⟩ : ∃ q : Nat, min (xs (i + 1)).toInt (V 0 8) = (q : Int) := ⟨_, (Int.toNat_of_nonneg (by omega)).symm⟩
    have hH := hel_run (l := l) (D := D) (W := W) (z := o) ha (xs (i + 1)).toInt (st : Int) (met_X6_run aX (xs (i + 1)).toInt st us hok hus.symm (by omega) (by omega))
    have hM := met_X7_run (l := l) (D := D) aM (xs (i + 1)).toInt st us hokR (by omega) (by omega) (by omega) (by obtain ⟨k1, -, k3, -⟩ := hinv.2.2.2.2.2.2.2.1; rw [r3, r2, k1, k3]; exact hinv.1.2.2.2.1)
    rw [← hst] at hH hM
    refine law_run ha hx z0 rd hi hN hR hH hM (fun r U hP => ?_) kk
    obtain ⟨rfl, z1, V1, h1, rfl⟩ := hP
    refine ⟨V1, _, rfl, by omega, fun z2 W2 h2 => ?_⟩
    obtain ⟨e1, e2, e3, -⟩ := run_rel hinv (us := us) (by omega) h1 h2
    subst e1
    exact ⟨e2, e3, fun _ => rfl⟩
  · have hH := hel_run_IA (l := l) (D := D) (W := W) (z := o) ha (xs (i + 1)).toInt (lng (xs (i + 2)).toInt (xs (i + 3)).toInt) (thr_X6_run_IA hl aX (xs (i + 1)).toInt (lng (xs (i + 2)).toInt (xs (i + 3)).toInt) hok (s_in _) (lng_in _ _) hg)
    have hM := met_X7_run_b1 (l := l) (D := D) aM (xs (i + 1)).toInt (lng (xs (i + 2)).toInt (xs (i + 3)).toInt) hokR (s_in _) (lng_in _ _) hg
    refine law_run ha hx z0 rd hi hN hR hH hM (fun r U hP => ?_) kk
    obtain ⟨rfl, rfl⟩ := hP
    refine ⟨V, o, rfl, by omega, fun z2 W2 h2 => ?_⟩
    rw [h2]
    exact ⟨inv_thr hinv, up_eq, fun c => absurd c (by decide)⟩
set_option maxHeartbeats 4000000 in
theorem case_slot {l : Launch} {D : va_G} {τ : Nat → ClassId} {a : Nat → Nat} {x : Ctx} {b N i c0 s0 : Nat} {xs : Nat → Int32} {V W : Mem} {o : Int} (ha : Apart (LL τ) a) (hx : scr x b N xs) (z0 : zer x) (rd : rdy x) (hi : i + 8 ≤ N) (hN : N ≤ 4098) (hR : c0 + 1 ≤ 601024 ∧ s0 + 6 ≤ 7293000) (hl : l.stackTraces = false) (hinv : inv V W) (kk : ∀ V' W' o', inv V' W' → G l D (tysL τ) (LL τ) a iLaw (bmp x (c0 + 1) (s0 + 6)) 1422 (LV a b i) [] (mem3 V' W' o')) : G l D (tysL τ) (LL τ) a iLaw (bmp x c0 s0) 647 (LV a b i) [] (mem3 V W o) := by
  have hok := hinv.1.1
  have hokR := okR_of hinv
  obtain ⟨r1, r2, r3, r4, r5, r6, -⟩ := hinv.2
  obtain ⟨k1_, c2, c3, c4, c5, -⟩ := hok
  have hok := hinv.1.1
  have aX := ap_X ha
  have aM := ap_M ha
  by_cases hg : 0 ≤ (xs (i + 1)).toInt ∧ (xs (i + 1)).toInt < V 0 8 ∧ 0 ≤ (xs (i + 2)).toInt ∧ (xs (i + 2)).toInt < V 2 6
  · obtain ⟨m, hm⟩ : ∃ q : Nat, (xs (i + 1)).toInt = (q : Int) := ⟨_, (Int.toNat_of_nonneg (by omega)).symm⟩
    obtain ⟨k, hk⟩ : ∃ q : Nat, (xs (i + 2)).toInt = (q : Int) := ⟨_, (Int.toNat_of_nonneg (by omega)).symm⟩
    have hH := hel_slot (l := l) (D := D) (W := W) (z := o) ha (m : Int) (k : Int) (met_X6_slot aX m k hok (by omega) (by omega))
    have hM := met_X7_slot (l := l) (D := D) aM m k hokR (by omega) (by omega)
    rw [← hm] at hH hM
    rw [← hk] at hH hM
    refine law_slot ha hx z0 rd hi hN hR hH hM (fun r U hP => ?_) kk
    obtain ⟨rfl, z1, V1, h1, rfl⟩ := hP
    refine ⟨V1, _, rfl, by omega, fun z2 W2 h2 => ?_⟩
    obtain ⟨e1, e2, e3, -⟩ := ans_slot m k (by omega) (by omega) hinv h1 h2
    subst e1
    exact ⟨e2, e3, fun _ => rfl⟩
  · have hH := hel_slot_IO (l := l) (D := D) (W := W) (z := o) ha (xs (i + 1)).toInt (xs (i + 2)).toInt (thr_X6_slot_IO hl aX (xs (i + 1)).toInt (xs (i + 2)).toInt hok (s_in _) (s_in _) hg)
    have hM := met_X7_slot_b1 (l := l) (D := D) aM (xs (i + 1)).toInt (xs (i + 2)).toInt hokR (s_in _) (s_in _) (by omega)
    refine law_slot ha hx z0 rd hi hN hR hH hM (fun r U hP => ?_) kk
    obtain ⟨rfl, rfl⟩ := hP
    refine ⟨V, o, rfl, by omega, fun z2 W2 h2 => ?_⟩
    rw [h2]
    exact ⟨inv_thr hinv, up_eq, fun c => absurd c (by decide)⟩
set_option maxHeartbeats 4000000 in
theorem case_order {l : Launch} {D : va_G} {τ : Nat → ClassId} {a : Nat → Nat} {x : Ctx} {b N i c0 s0 : Nat} {xs : Nat → Int32} {V W : Mem} {o : Int} (ha : Apart (LL τ) a) (hx : scr x b N xs) (z0 : zer x) (rd : rdy x) (hi : i + 8 ≤ N) (hN : N ≤ 4098) (hR : c0 + 1 ≤ 601024 ∧ s0 + 6 ≤ 7293000) (hl : l.stackTraces = false) (hinv : inv V W) (kk : ∀ V' W' o', inv V' W' → G l D (tysL τ) (LL τ) a iLaw (bmp x (c0 + 1) (s0 + 6)) 1422 (LV a b i) [] (mem3 V' W' o')) : G l D (tysL τ) (LL τ) a iLaw (bmp x c0 s0) 715 (LV a b i) [] (mem3 V W o) := by
  have hok := hinv.1.1
  have hokR := okR_of hinv
  obtain ⟨r1, r2, r3, r4, r5, r6, -⟩ := hinv.2
  obtain ⟨k1_, c2, c3, c4, c5, -⟩ := hok
  have hok := hinv.1.1
  have aX := ap_X ha
  have aM := ap_M ha
  by_cases hg : 0 ≤ (xs (i + 1)).toInt ∧ (xs (i + 1)).toInt < V 0 8
  · obtain ⟨m, hm⟩ : ∃ q : Nat, (xs (i + 1)).toInt = (q : Int) := ⟨_, (Int.toNat_of_nonneg (by omega)).symm⟩
    have hH := hel_order (l := l) (D := D) (W := W) (z := o) ha (m : Int) (xs (i + 2)).toInt (met_X6_order aX m (xs (i + 2)).toInt hok (by omega) (s_in _))
    have hM := met_X7_order (l := l) (D := D) aM m (xs (i + 2)).toInt hokR (by omega) (s_in _)
    rw [← hm] at hH hM
    refine law_order ha hx z0 rd hi hN hR hH hM (fun r U hP => ?_) kk
    obtain ⟨rfl, z1, V1, h1, rfl⟩ := hP
    refine ⟨V1, _, rfl, by omega, fun z2 W2 h2 => ?_⟩
    obtain ⟨e1, e2, e3, -⟩ := ans_order m (xs (i + 2)).toInt (by omega) hinv h1 h2
    subst e1
    exact ⟨e2, e3, fun _ => rfl⟩
  · have hH := hel_order_IO (l := l) (D := D) (W := W) (z := o) ha (xs (i + 1)).toInt (xs (i + 2)).toInt (thr_X6_order_IO hl aX (xs (i + 1)).toInt (xs (i + 2)).toInt hok (s_in _) hg)
    have hM := met_X7_order_b1 (l := l) (D := D) aM (xs (i + 1)).toInt (xs (i + 2)).toInt hokR (s_in _) (s_in _) (by omega)
    refine law_order ha hx z0 rd hi hN hR hH hM (fun r U hP => ?_) kk
    obtain ⟨rfl, rfl⟩ := hP
    refine ⟨V, o, rfl, by omega, fun z2 W2 h2 => ?_⟩
    rw [h2]
    exact ⟨inv_thr hinv, up_eq, fun c => absurd c (by decide)⟩
set_option maxHeartbeats 4000000 in
theorem case_trip {l : Launch} {D : va_G} {τ : Nat → ClassId} {a : Nat → Nat} {x : Ctx} {b N i c0 s0 : Nat} {xs : Nat → Int32} {V W : Mem} {o : Int} (ha : Apart (LL τ) a) (hx : scr x b N xs) (z0 : zer x) (rd : rdy x) (hi : i + 8 ≤ N) (hN : N ≤ 4098) (hR : c0 + 1 ≤ 601024 ∧ s0 + 6 ≤ 7293000) (hl : l.stackTraces = false) (hinv : inv V W) (kk : ∀ V' W' o', inv V' W' → G l D (tysL τ) (LL τ) a iLaw (bmp x (c0 + 1) (s0 + 6)) 1422 (LV a b i) [] (mem3 V' W' o')) : G l D (tysL τ) (LL τ) a iLaw (bmp x c0 s0) 783 (LV a b i) [] (mem3 V W o) := by
  have hok := hinv.1.1
  have hokR := okR_of hinv
  obtain ⟨r1, r2, r3, r4, r5, r6, -⟩ := hinv.2
  obtain ⟨k1_, c2, c3, c4, c5, -⟩ := hok
  have hok := hinv.1.1
  have aX := ap_X ha
  have aM := ap_M ha
  by_cases hg : 0 ≤ (xs (i + 1)).toInt ∧ (xs (i + 1)).toInt < V 0 8 ∧ 0 ≤ (xs (i + 2)).toInt ∧ (xs (i + 2)).toInt < V 9 4
  · obtain ⟨m, hm⟩ : ∃ q : Nat, (xs (i + 1)).toInt = (q : Int) := ⟨_, (Int.toNat_of_nonneg (by omega)).symm⟩
    have hH := hel_trip (l := l) (D := D) (W := W) (z := o) ha (m : Int) (xs (i + 2)).toInt (met_X6_trip aX m (xs (i + 2)).toInt hok (by omega) (by omega))
    have hM := met_X7_trip (l := l) (D := D) aM m (xs (i + 2)).toInt hokR (by omega) (by omega)
    rw [← hm] at hH hM
    refine law_trip ha hx z0 rd hi hN hR hH hM (fun r U hP => ?_) kk
    obtain ⟨rfl, z1, V1, h1, rfl⟩ := hP
    refine ⟨V1, _, rfl, by omega, fun z2 W2 h2 => ?_⟩
    obtain ⟨e1, e2, e3, -⟩ := ans_trip m (xs (i + 2)).toInt (by omega) hinv h1 h2
    subst e1
    exact ⟨e2, e3, fun _ => rfl⟩
  · have hH := hel_trip_IO (l := l) (D := D) (W := W) (z := o) ha (xs (i + 1)).toInt (xs (i + 2)).toInt (thr_X6_trip_IO hl aX (xs (i + 1)).toInt (xs (i + 2)).toInt hok (s_in _) (s_in _) hg)
    have hM := met_X7_trip_b1 (l := l) (D := D) aM (xs (i + 1)).toInt (xs (i + 2)).toInt hokR (s_in _) (s_in _) (by omega)
    refine law_trip ha hx z0 rd hi hN hR hH hM (fun r U hP => ?_) kk
    obtain ⟨rfl, rfl⟩ := hP
    refine ⟨V, o, rfl, by omega, fun z2 W2 h2 => ?_⟩
    rw [h2]
    exact ⟨inv_thr hinv, up_eq, fun c => absurd c (by decide)⟩
set_option maxHeartbeats 4000000 in
theorem case_lower {l : Launch} {D : va_G} {τ : Nat → ClassId} {a : Nat → Nat} {x : Ctx} {b N i c0 s0 : Nat} {xs : Nat → Int32} {V W : Mem} {o : Int} (ha : Apart (LL τ) a) (hx : scr x b N xs) (z0 : zer x) (rd : rdy x) (hi : i + 8 ≤ N) (hN : N ≤ 4098) (hR : c0 + 1 ≤ 601024 ∧ s0 + 6 ≤ 7293000) (hl : l.stackTraces = false) (hinv : inv V W) (kk : ∀ V' W' o', inv V' W' → G l D (tysL τ) (LL τ) a iLaw (bmp x (c0 + 1) (s0 + 6)) 1422 (LV a b i) [] (mem3 V' W' o')) : G l D (tysL τ) (LL τ) a iLaw (bmp x c0 s0) 878 (LV a b i) [] (mem3 V W o) := by
  have hok := hinv.1.1
  have hokR := okR_of hinv
  obtain ⟨r1, r2, r3, r4, r5, r6, -⟩ := hinv.2
  obtain ⟨k1_, c2, c3, c4, c5, -⟩ := hok
  have hok := hinv.1.1
  have aX := ap_X ha
  have aM := ap_M ha
  obtain ⟨us, hus⟩ : ∃ q : Nat, V 0 9 = (q : Int) := ⟨_, (Int.toNat_of_nonneg c3.1).symm⟩
  by_cases hg : 0 ≤ (xs (i + 1)).toInt ∧ (xs (i + 1)).toInt < V 9 4 ∧ 0 ≤ (xs (i + 2)).toInt ∧ (xs (i + 2)).toInt < V 9 4
  · have hH := hel_lower (l := l) (D := D) (W := W) (z := o) ha (xs (i + 1)).toInt (xs (i + 2)).toInt (met_X6_lower aX (xs (i + 1)).toInt (xs (i + 2)).toInt us hok hus (by omega) (by omega))
    have hM := met_X7_lower (l := l) (D := D) aM (xs (i + 1)).toInt (xs (i + 2)).toInt us hokR (by omega) (by omega) (by omega)
    refine law_lower ha hx z0 rd hi hN hR hH hM (fun r U hP => ?_) kk
    obtain ⟨rfl, z1, V1, h1, rfl⟩ := hP
    refine ⟨V1, _, rfl, by omega, fun z2 W2 h2 => ?_⟩
    obtain ⟨e1, e2, e3, -⟩ := ans_lower (xs (i + 1)).toInt (xs (i + 2)).toInt us hus hinv h1 h2
    subst e1
    exact ⟨e2, e3, fun _ => rfl⟩
  · have hH := hel_lower_IO (l := l) (D := D) (W := W) (z := o) ha (xs (i + 1)).toInt (xs (i + 2)).toInt (thr_X6_lower_IO hl aX (xs (i + 1)).toInt (xs (i + 2)).toInt hok (s_in _) (s_in _) hg)
    have hM := met_X7_lower_b1 (l := l) (D := D) aM (xs (i + 1)).toInt (xs (i + 2)).toInt hokR (s_in _) (s_in _) (by omega)
    refine law_lower ha hx z0 rd hi hN hR hH hM (fun r U hP => ?_) kk
    obtain ⟨rfl, rfl⟩ := hP
    refine ⟨V, o, rfl, by omega, fun z2 W2 h2 => ?_⟩
    rw [h2]
    exact ⟨inv_thr hinv, up_eq, fun c => absurd c (by decide)⟩
set_option maxHeartbeats 4000000 in
theorem case_refill {l : Launch} {D : va_G} {τ : Nat → ClassId} {a : Nat → Nat} {x : Ctx} {b N i c0 s0 : Nat} {xs : Nat → Int32} {V W : Mem} {o : Int} (ha : Apart (LL τ) a) (hx : scr x b N xs) (z0 : zer x) (rd : rdy x) (hi : i + 8 ≤ N) (hN : N ≤ 4098) (hR : c0 + 1 ≤ 601024 ∧ s0 + 6 ≤ 7293000) (hl : l.stackTraces = false) (hinv : inv V W) (kk : ∀ V' W' o', inv V' W' → G l D (tysL τ) (LL τ) a iLaw (bmp x (c0 + 1) (s0 + 6)) 1422 (LV a b i) [] (mem3 V' W' o')) : G l D (tysL τ) (LL τ) a iLaw (bmp x c0 s0) 953 (LV a b i) [] (mem3 V W o) := by
  have hok := hinv.1.1
  have hokR := okR_of hinv
  obtain ⟨r1, r2, r3, r4, r5, r6, -⟩ := hinv.2
  obtain ⟨k1_, c2, c3, c4, c5, -⟩ := hok
  have hok := hinv.1.1
  have aX := ap_X ha
  have aM := ap_M ha
  by_cases hg : (0 ≤ (xs (i + 1)).toInt ∧ (xs (i + 1)).toInt < V 2 6) ∧ 0 ≤ (xs (i + 2)).toInt
  · obtain ⟨k, hk⟩ : ∃ q : Nat, (xs (i + 1)).toInt = (q : Int) := ⟨_, (Int.toNat_of_nonneg (by omega)).symm⟩
    have hH := hel_refill (l := l) (D := D) (W := W) (z := o) ha (k : Int) (xs (i + 2)).toInt (met_X6_refill aX k (xs (i + 2)).toInt hok (by omega) (by have := s_in (xs (i + 2)); omega))
    have hM := met_X7_refill (l := l) (D := D) aM k (xs (i + 2)).toInt hokR (by omega) (by have := s_in (xs (i + 2)); omega)
    rw [← hk] at hH hM
    refine law_refill ha hx z0 rd hi hN hR hH hM (fun r U hP => ?_) kk
    obtain ⟨rfl, z1, V1, h1, rfl⟩ := hP
    refine ⟨V1, _, rfl, by omega, fun z2 W2 h2 => ?_⟩
    obtain ⟨e1, e2, e3, -⟩ := ans_refill k (xs (i + 2)).toInt (by omega) (by have := s_in (xs (i + 2)); omega) hinv h1 h2
    subst e1
    exact ⟨e2, e3, fun _ => rfl⟩
  · by_cases hg2 : ¬ (0 ≤ (xs (i + 1)).toInt ∧ (xs (i + 1)).toInt < V 2 6)
    · have hH := hel_refill_IO (l := l) (D := D) (W := W) (z := o) ha (xs (i + 1)).toInt (xs (i + 2)).toInt (thr_X6_refill_IO hl aX (xs (i + 1)).toInt (xs (i + 2)).toInt hok (s_in _) hg2)
      have hM := met_X7_refill_b1 (l := l) (D := D) aM (xs (i + 1)).toInt (xs (i + 2)).toInt hokR (s_in _) (s_in _) (by omega)
      refine law_refill ha hx z0 rd hi hN hR hH hM (fun r U hP => ?_) kk
      obtain ⟨rfl, rfl⟩ := hP
      refine ⟨V, o, rfl, by omega, fun z2 W2 h2 => ?_⟩
      rw [h2]
      exact ⟨inv_thr hinv, up_eq, fun c => absurd c (by decide)⟩
    · have hH := hel_refill_IA (l := l) (D := D) (W := W) (z := o) ha (xs (i + 1)).toInt (xs (i + 2)).toInt (thr_X6_refill_IA hl aX (xs (i + 1)).toInt (xs (i + 2)).toInt hok (s_in _) (by omega) (by omega))
      have hM := met_X7_refill_b2 (l := l) (D := D) aM (xs (i + 1)).toInt (xs (i + 2)).toInt hokR (s_in _) (s_in _) (by omega) (by omega)
      refine law_refill ha hx z0 rd hi hN hR hH hM (fun r U hP => ?_) kk
      obtain ⟨rfl, rfl⟩ := hP
      refine ⟨V, o, rfl, by omega, fun z2 W2 h2 => ?_⟩
      rw [h2]
      exact ⟨inv_thr hinv, up_eq, fun c => absurd c (by decide)⟩
set_option maxHeartbeats 4000000 in
theorem case_reject {l : Launch} {D : va_G} {τ : Nat → ClassId} {a : Nat → Nat} {x : Ctx} {b N i c0 s0 : Nat} {xs : Nat → Int32} {V W : Mem} {o : Int} (ha : Apart (LL τ) a) (hx : scr x b N xs) (z0 : zer x) (rd : rdy x) (hi : i + 8 ≤ N) (hN : N ≤ 4098) (hR : c0 + 1 ≤ 601024 ∧ s0 + 6 ≤ 7293000) (hl : l.stackTraces = false) (hinv : inv V W) (kk : ∀ V' W' o', inv V' W' → G l D (tysL τ) (LL τ) a iLaw (bmp x (c0 + 1) (s0 + 6)) 1422 (LV a b i) [] (mem3 V' W' o')) : G l D (tysL τ) (LL τ) a iLaw (bmp x c0 s0) 1028 (LV a b i) [] (mem3 V W o) := by
  have hok := hinv.1.1
  have hokR := okR_of hinv
  obtain ⟨r1, r2, r3, r4, r5, r6, -⟩ := hinv.2
  obtain ⟨k1_, c2, c3, c4, c5, -⟩ := hok
  have hok := hinv.1.1
  have aX := ap_X ha
  have aM := ap_M ha
  by_cases hg : (0 ≤ (xs (i + 1)).toInt ∧ (xs (i + 1)).toInt < V 2 6) ∧ (1 ≤ (lng (xs (i + 4)).toInt (xs (i + 5)).toInt) ∧ (lng (xs (i + 4)).toInt (xs (i + 5)).toInt) ≤ 1000 ∧ 0 ≤ (lng (xs (i + 2)).toInt (xs (i + 3)).toInt) ∧ (lng (xs (i + 2)).toInt (xs (i + 3)).toInt) < (lng (xs (i + 4)).toInt (xs (i + 5)).toInt))
  · obtain ⟨k, hk⟩ : ∃ q : Nat, (xs (i + 1)).toInt = (q : Int) := ⟨_, (Int.toNat_of_nonneg (by omega)).symm⟩
    have hH := hel_reject (l := l) (D := D) (W := W) (z := o) ha (k : Int) (lng (xs (i + 2)).toInt (xs (i + 3)).toInt) (lng (xs (i + 4)).toInt (xs (i + 5)).toInt) (met_X6_reject aX k (lng (xs (i + 2)).toInt (xs (i + 3)).toInt) (lng (xs (i + 4)).toInt (xs (i + 5)).toInt) hok (by omega) (by omega) (by omega))
    have hM := met_X7_reject (l := l) (D := D) aM k (lng (xs (i + 2)).toInt (xs (i + 3)).toInt) (lng (xs (i + 4)).toInt (xs (i + 5)).toInt) hokR (by omega) (by omega) (by omega)
    rw [← hk] at hH hM
    refine law_reject ha hx z0 rd hi hN hR hH hM (fun r U hP => ?_) kk
    obtain ⟨rfl, z1, V1, h1, rfl⟩ := hP
    refine ⟨V1, _, rfl, by omega, fun z2 W2 h2 => ?_⟩
    obtain ⟨e1, e2, e3, -⟩ := ans_reject k (lng (xs (i + 2)).toInt (xs (i + 3)).toInt) (lng (xs (i + 4)).toInt (xs (i + 5)).toInt) (by omega) (by omega) (by omega) hinv h1 h2
    subst e1
    exact ⟨e2, e3, fun _ => rfl⟩
  · by_cases hg2 : ¬ (0 ≤ (xs (i + 1)).toInt ∧ (xs (i + 1)).toInt < V 2 6)
    · have hH := hel_reject_IO (l := l) (D := D) (W := W) (z := o) ha (xs (i + 1)).toInt (lng (xs (i + 2)).toInt (xs (i + 3)).toInt) (lng (xs (i + 4)).toInt (xs (i + 5)).toInt) (thr_X6_reject_IO hl aX (xs (i + 1)).toInt (lng (xs (i + 2)).toInt (xs (i + 3)).toInt) (lng (xs (i + 4)).toInt (xs (i + 5)).toInt) hok (s_in _) hg2)
      have hM := met_X7_reject_b1 (l := l) (D := D) aM (xs (i + 1)).toInt (lng (xs (i + 2)).toInt (xs (i + 3)).toInt) (lng (xs (i + 4)).toInt (xs (i + 5)).toInt) hokR (s_in _) (lng_in _ _) (lng_in _ _) (by omega)
      refine law_reject ha hx z0 rd hi hN hR hH hM (fun r U hP => ?_) kk
      obtain ⟨rfl, rfl⟩ := hP
      refine ⟨V, o, rfl, by omega, fun z2 W2 h2 => ?_⟩
      rw [h2]
      exact ⟨inv_thr hinv, up_eq, fun c => absurd c (by decide)⟩
    · have hH := hel_reject_IA (l := l) (D := D) (W := W) (z := o) ha (xs (i + 1)).toInt (lng (xs (i + 2)).toInt (xs (i + 3)).toInt) (lng (xs (i + 4)).toInt (xs (i + 5)).toInt) (thr_X6_reject_IA hl aX (xs (i + 1)).toInt (lng (xs (i + 2)).toInt (xs (i + 3)).toInt) (lng (xs (i + 4)).toInt (xs (i + 5)).toInt) hok (lng_in _ _) (lng_in _ _) (by omega) (fun q => hg ⟨by omega, q⟩))
      have hM := met_X7_reject_b2 (l := l) (D := D) aM (xs (i + 1)).toInt (lng (xs (i + 2)).toInt (xs (i + 3)).toInt) (lng (xs (i + 4)).toInt (xs (i + 5)).toInt) hokR (s_in _) (lng_in _ _) (lng_in _ _) (by omega) (fun q => hg ⟨by omega, q⟩)
      refine law_reject ha hx z0 rd hi hN hR hH hM (fun r U hP => ?_) kk
      obtain ⟨rfl, rfl⟩ := hP
      refine ⟨V, o, rfl, by omega, fun z2 W2 h2 => ?_⟩
      rw [h2]
      exact ⟨inv_thr hinv, up_eq, fun c => absurd c (by decide)⟩
set_option maxHeartbeats 4000000 in
theorem case_machineOf {l : Launch} {D : va_G} {τ : Nat → ClassId} {a : Nat → Nat} {x : Ctx} {b N i c0 s0 : Nat} {xs : Nat → Int32} {V W : Mem} {o : Int} (ha : Apart (LL τ) a) (hx : scr x b N xs) (z0 : zer x) (rd : rdy x) (hi : i + 8 ≤ N) (hN : N ≤ 4098) (hR : c0 + 1 ≤ 601024 ∧ s0 + 6 ≤ 7293000) (hl : l.stackTraces = false) (hinv : inv V W) (kk : ∀ V' W' o', inv V' W' → G l D (tysL τ) (LL τ) a iLaw (bmp x (c0 + 1) (s0 + 6)) 1422 (LV a b i) [] (mem3 V' W' o')) : G l D (tysL τ) (LL τ) a iLaw (bmp x c0 s0) 1179 (LV a b i) [] (mem3 V W o) := by
  have hok := hinv.1.1
  have hokR := okR_of hinv
  obtain ⟨r1, r2, r3, r4, r5, r6, -⟩ := hinv.2
  obtain ⟨k1_, c2, c3, c4, c5, -⟩ := hok
  have hok := hinv.1.1
  have aX := ap_X ha
  have aM := ap_M ha
  obtain ⟨us, hus⟩ : ∃ q : Nat, V 0 9 = (q : Int) := ⟨_, (Int.toNat_of_nonneg c3.1).symm⟩
  by_cases hg : 0 ≤ (xs (i + 1)).toInt ∧ (xs (i + 1)).toInt < V 9 4
  · have hH := hel_machineOf (l := l) (D := D) (W := W) (z := o) ha (xs (i + 1)).toInt (met_X6_machineOf aX (xs (i + 1)).toInt us hok hus (by omega))
    have hM := met_X7_machineOf (l := l) (D := D) aM (xs (i + 1)).toInt us hokR (by omega) (by omega)
    refine law_machineOf ha hx z0 rd hi hN hR hH hM (fun r U hP => ?_) kk
    obtain ⟨rfl, z1, V1, h1, rfl⟩ := hP
    refine ⟨V1, _, rfl, by omega, fun z2 W2 h2 => ?_⟩
    obtain ⟨e1, e2, e3, -⟩ := ans_machineOf (xs (i + 1)).toInt us hus hinv h1 h2
    subst e1
    exact ⟨e2, e3, fun _ => rfl⟩
  · have hH := hel_machineOf_IO (l := l) (D := D) (W := W) (z := o) ha (xs (i + 1)).toInt (thr_X6_machineOf_IO hl aX (xs (i + 1)).toInt hok (s_in _) hg)
    have hM := met_X7_machineOf_b1 (l := l) (D := D) aM (xs (i + 1)).toInt hokR (s_in _) (by omega)
    refine law_machineOf ha hx z0 rd hi hN hR hH hM (fun r U hP => ?_) kk
    obtain ⟨rfl, rfl⟩ := hP
    refine ⟨V, o, rfl, by omega, fun z2 W2 h2 => ?_⟩
    rw [h2]
    exact ⟨inv_thr hinv, up_eq, fun c => absurd c (by decide)⟩
set_option maxHeartbeats 4000000 in
theorem case_improve {l : Launch} {D : va_G} {τ : Nat → ClassId} {a : Nat → Nat} {x : Ctx} {b N i c0 s0 : Nat} {xs : Nat → Int32} {V W : Mem} {o : Int} (ha : Apart (LL τ) a) (hx : scr x b N xs) (z0 : zer x) (rd : rdy x) (hi : i + 8 ≤ N) (hN : N ≤ 4098) (hR : c0 + 1 ≤ 601024 ∧ s0 + 6 ≤ 7293000) (hl : l.stackTraces = false) (hinv : inv V W) (kk : ∀ V' W' o', inv V' W' → G l D (tysL τ) (LL τ) a iLaw (bmp x (c0 + 1) (s0 + 6)) 1422 (LV a b i) [] (mem3 V' W' o')) : G l D (tysL τ) (LL τ) a iLaw (bmp x c0 s0) 1235 (LV a b i) [] (mem3 V W o) := by
  have hok := hinv.1.1
  have hokR := okR_of hinv
  obtain ⟨r1, r2, r3, r4, r5, r6, -⟩ := hinv.2
  obtain ⟨k1_, c2, c3, c4, c5, -⟩ := hok
  have hok := hinv.1.1
  have aX := ap_X ha
  have aM := ap_M ha
  obtain ⟨us, hus⟩ : ∃ q : Nat, V 0 9 = (q : Int) := ⟨_, (Int.toNat_of_nonneg c3.1).symm⟩
  obtain ⟨kc, hkc⟩ : ∃ q : Nat, V 2 6 = (q : Int) := ⟨_, (Int.toNat_of_nonneg c4.1).symm⟩
  by_cases hg : 0 ≤ (xs (i + 1)).toInt ∧ (xs (i + 1)).toInt ≤ 200
  · obtain ⟨st, hst⟩ : ∃ q : Nat, (xs (i + 1)).toInt = (q : Int) := ⟨_, (Int.toNat_of_nonneg (by omega)).symm⟩
    have hH := hel_improve (l := l) (D := D) (W := W) (z := o) ha (st : Int) (met_X6_improve aX st us hok hus (by omega))
    have hM := met_X7_improve (l := l) (D := D) aM kc (by omega) us (by omega) st hokR (by omega)
    rw [← hst] at hH hM
    refine law_improve ha hx z0 rd hi hN hR hH hM (fun r U hP => ?_) kk
    obtain ⟨rfl, z1, V1, h1, rfl⟩ := hP
    refine ⟨V1, _, rfl, by omega, fun z2 W2 h2 => ?_⟩
    obtain ⟨e1, e2, e3, -⟩ := ans_improve kc st hinv h1 h2
    subst e1
    exact ⟨e2, e3, fun _ => rfl⟩
  · have hH := hel_improve_IA (l := l) (D := D) (W := W) (z := o) ha (xs (i + 1)).toInt (thr_X6_improve_IA hl aX (xs (i + 1)).toInt hok (s_in _) hg)
    have hM := met_X7_improve_b1 (l := l) (D := D) aM (xs (i + 1)).toInt hokR (s_in _) hg
    refine law_improve ha hx z0 rd hi hN hR hH hM (fun r U hP => ?_) kk
    obtain ⟨rfl, rfl⟩ := hP
    refine ⟨V, o, rfl, by omega, fun z2 W2 h2 => ?_⟩
    rw [h2]
    exact ⟨inv_thr hinv, up_eq, fun c => absurd c (by decide)⟩
set_option maxHeartbeats 4000000 in
theorem case_common {l : Launch} {D : va_G} {τ : Nat → ClassId} {a : Nat → Nat} {x : Ctx} {b N i c0 s0 : Nat} {xs : Nat → Int32} {V W : Mem} {o : Int} (ha : Apart (LL τ) a) (hx : scr x b N xs) (z0 : zer x) (rd : rdy x) (hi : i + 8 ≤ N) (hN : N ≤ 4098) (hR : c0 + 1 ≤ 601024 ∧ s0 + 6 ≤ 7293000) (hl : l.stackTraces = false) (hinv : inv V W) (kk : ∀ V' W' o', inv V' W' → G l D (tysL τ) (LL τ) a iLaw (bmp x (c0 + 1) (s0 + 6)) 1422 (LV a b i) [] (mem3 V' W' o')) : G l D (tysL τ) (LL τ) a iLaw (bmp x c0 s0) 1291 (LV a b i) [] (mem3 V W o) := by
  have hok := hinv.1.1
  have hokR := okR_of hinv
  obtain ⟨r1, r2, r3, r4, r5, r6, -⟩ := hinv.2
  obtain ⟨k1_, c2, c3, c4, c5, -⟩ := hok
  have hok := hinv.1.1
  have aX := ap_X ha
  have aM := ap_M ha
  obtain ⟨kc, hkc⟩ : ∃ q : Nat, V 2 6 = (q : Int) := ⟨_, (Int.toNat_of_nonneg c4.1).symm⟩
  by_cases hg : 0 ≤ (xs (i + 1)).toInt ∧ (xs (i + 1)).toInt < V 0 8 ∧ 0 ≤ (xs (i + 2)).toInt ∧ (xs (i + 2)).toInt < V 0 8
  · obtain ⟨m, hm⟩ : ∃ q : Nat, (xs (i + 1)).toInt = (q : Int) := ⟨_, (Int.toNat_of_nonneg (by omega)).symm⟩
    obtain ⟨n, hn⟩ : ∃ q : Nat, (xs (i + 2)).toInt = (q : Int) := ⟨_, (Int.toNat_of_nonneg (by omega)).symm⟩
    have hH := hel_common (l := l) (D := D) (W := W) (z := o) ha (m : Int) (n : Int) (met_X6_common aX m n kc hok hkc (by omega) (by omega))
    have hM := met_X7_common (l := l) (D := D) aM m n kc hokR (by omega) (by omega) (by omega)
    rw [← hm] at hH hM
    rw [← hn] at hH hM
    refine law_common ha hx z0 rd hi hN hR hH hM (fun r U hP => ?_) kk
    obtain ⟨rfl, z1, V1, h1, rfl⟩ := hP
    refine ⟨V1, _, rfl, by omega, fun z2 W2 h2 => ?_⟩
    obtain ⟨e1, e2, e3, -⟩ := ans_common m n kc hkc (by omega) (by omega) hinv h1 h2
    subst e1
    exact ⟨e2, e3, fun _ => rfl⟩
  · have hH := hel_common_IO (l := l) (D := D) (W := W) (z := o) ha (xs (i + 1)).toInt (xs (i + 2)).toInt (thr_X6_common_IO hl aX (xs (i + 1)).toInt (xs (i + 2)).toInt hok (s_in _) (s_in _) hg)
    have hM := met_X7_common_b1 (l := l) (D := D) aM (xs (i + 1)).toInt (xs (i + 2)).toInt hokR (s_in _) (s_in _) (by omega)
    refine law_common ha hx z0 rd hi hN hR hH hM (fun r U hP => ?_) kk
    obtain ⟨rfl, rfl⟩ := hP
    refine ⟨V, o, rfl, by omega, fun z2 W2 h2 => ?_⟩
    rw [h2]
    exact ⟨inv_thr hinv, up_eq, fun c => absurd c (by decide)⟩
set_option maxHeartbeats 4000000 in
theorem case_changes {l : Launch} {D : va_G} {τ : Nat → ClassId} {a : Nat → Nat} {x : Ctx} {b N i c0 s0 : Nat} {xs : Nat → Int32} {V W : Mem} {o : Int} (ha : Apart (LL τ) a) (hx : scr x b N xs) (z0 : zer x) (rd : rdy x) (hi : i + 8 ≤ N) (hN : N ≤ 4098) (hR : c0 + 1 ≤ 601024 ∧ s0 + 6 ≤ 7293000) (hl : l.stackTraces = false) (hinv : inv V W) (kk : ∀ V' W' o', inv V' W' → G l D (tysL τ) (LL τ) a iLaw (bmp x (c0 + 1) (s0 + 6)) 1422 (LV a b i) [] (mem3 V' W' o')) : G l D (tysL τ) (LL τ) a iLaw (bmp x c0 s0) 1366 (LV a b i) [] (mem3 V W o) := by
  have hok := hinv.1.1
  have hokR := okR_of hinv
  obtain ⟨r1, r2, r3, r4, r5, r6, -⟩ := hinv.2
  obtain ⟨k1_, c2, c3, c4, c5, -⟩ := hok
  have hok := hinv.1.1
  have aX := ap_X ha
  have aM := ap_M ha
  by_cases hg : 0 ≤ (xs (i + 1)).toInt ∧ (xs (i + 1)).toInt < V 0 8
  · obtain ⟨m, hm⟩ : ∃ q : Nat, (xs (i + 1)).toInt = (q : Int) := ⟨_, (Int.toNat_of_nonneg (by omega)).symm⟩
    have hH := hel_changes (l := l) (D := D) (W := W) (z := o) ha (m : Int) (met_X6_changes aX m hok (by omega))
    have hM := met_X7_changes (l := l) (D := D) aM m hokR (by omega)
    rw [← hm] at hH hM
    refine law_changes ha hx z0 rd hi hN hR hH hM (fun r U hP => ?_) kk
    obtain ⟨rfl, z1, V1, h1, rfl⟩ := hP
    refine ⟨V1, _, rfl, by omega, fun z2 W2 h2 => ?_⟩
    obtain ⟨e1, e2, e3, -⟩ := ans_changes m (by omega) hinv h1 h2
    subst e1
    exact ⟨e2, e3, fun _ => rfl⟩
  · have hH := hel_changes_IO (l := l) (D := D) (W := W) (z := o) ha (xs (i + 1)).toInt (thr_X6_changes_IO hl aX (xs (i + 1)).toInt hok (s_in _) hg)
    have hM := met_X7_changes_b1 (l := l) (D := D) aM (xs (i + 1)).toInt hokR (s_in _) (by omega)
    refine law_changes ha hx z0 rd hi hN hR hH hM (fun r U hP => ?_) kk
    obtain ⟨rfl, rfl⟩ := hP
    refine ⟨V, o, rfl, by omega, fun z2 W2 h2 => ?_⟩
    rw [h2]
    exact ⟨inv_thr hinv, up_eq, fun c => absurd c (by decide)⟩
