theorem vcell : LkS RL 64 yL_cell iL_cell 2 := ⟨tm_2 (List.mem_of_getElem? (i := 34) rfl) rfl, tm_2 (List.mem_of_getElem? (i := 35) rfl) rfl, tm_1 (List.mem_of_getElem? (i := 0) rfl) rfl, tm_2 (List.mem_of_getElem? (i := 36) rfl) rfl, by decide +kernel, by decide +kernel, by decide +kernel, rfl⟩
theorem l70 : LkN RL 70 yX6_init iX6 2 := ⟨Or.inl (tm_1 (List.mem_of_getElem? (i := 20) rfl) rfl), tm_1 (List.mem_of_getElem? (i := 21) rfl) rfl, tm_1 (List.mem_of_getElem? (i := 1) rfl) rfl, tm_1 (List.mem_of_getElem? (i := 22) rfl) rfl, rfl, rfl, by decide +kernel, by decide +kernel, by decide +kernel⟩
theorem l75 : LkN RL 75 yX7_init iX7 2 := ⟨Or.inl (tm_3 (List.mem_of_getElem? (i := 210) rfl) rfl), tm_3 (List.mem_of_getElem? (i := 211) rfl) rfl, tm_1 (List.mem_of_getElem? (i := 10) rfl) rfl, tm_3 (List.mem_of_getElem? (i := 212) rfl) rfl, rfl, rfl, by decide +kernel, by decide +kernel, by decide +kernel⟩
theorem n8 : Cond.classLink RL 8 RX6 ∈ gw ∧ Cond.instantiable RX6 10 ∈ gw ∧ Cond.initialized RX6 ∈ gw := ⟨tm_1 (List.mem_of_getElem? (i := 18) rfl) rfl, tm_1 (List.mem_of_getElem? (i := 19) rfl) rfl, tm_1 (List.mem_of_getElem? (i := 1) rfl) rfl⟩
theorem n73 : Cond.classLink RL 73 RX7 ∈ gw ∧ Cond.instantiable RX7 29 ∈ gw ∧ Cond.initialized RX7 ∈ gw := ⟨tm_3 (List.mem_of_getElem? (i := 208) rfl) rfl, tm_3 (List.mem_of_getElem? (i := 209) rfl) rfl, tm_1 (List.mem_of_getElem? (i := 10) rfl) rfl⟩
theorem wJ : Cond.arrayClass .long ∈ gw := tm_1 (List.mem_of_getElem? (i := 161) rfl) rfl
/-- how the law's walk must end -/
def lawQ (x : Ctx) (b : Nat) : Prop := match x with
  | (_, _, s, _, args, below, _, _, _, _, Q, A) => args = #[Value.ref b] ∧ Q = lw_Z below #[Value.ref b] s ∧ ∀ q, A q → s.heap.size ≤ q
theorem g_lawret {l : Launch} {D : va_G} {tys : List (ClassId × FieldType)} {L : Lay} {a : Nat → Nat} {x : Ctx} {pc : Nat} {lv : List (Nat × Value)} {V : Mem} {b c0 s0 : Nat} (z0 : zer x) (hQ : lawQ x b) (hR : c0 ≤ 601024 ∧ s0 ≤ 7293000) (d : decode code pc = .ok (.ireturn, 1)) : G l D tys L a iLaw (bmp x c0 s0) pc lv [.int (iN 1)] V := by
  obtain ⟨p, e, s, m, args, below, meth, c, cells, slots, Q, A⟩ := x
  obtain ⟨rfl, rfl⟩ := z0
  obtain ⟨rfl, rfl, hA⟩ := hQ
  exact fun cx ls H locs hl hP hS => va_forget (fun q hq => hA _ (hS.2.2 q hq)) (W.widen (k := 601024) (n := 7293000) (by omega) (by omega) (lw_ret cx.1 cx.2.1 cx.2.2.2.2.2.2.2.2.2.1 cx.2.2.2.2.2.2.2.2.2.2.1 d))
set_option maxHeartbeats 8000000 in
theorem law_loop {l : Launch} {D : va_G} {τ : Nat → ClassId} {a : Nat → Nat} {x : Ctx} {b N : Nat} {xs : Nat → Int32} (hl : l.stackTraces = false) (ha : Apart (LL τ) a) (hx : scr x b N xs) (z0 : zer x) (rd : rdy x) (hQ : lawQ x b) (hN : N ≤ 4098) : ∀ (fuel i it : Nat) (V W : Mem) (o : Int), i = 2 + 8 * it → it ≤ 512 → N + 8 - i < fuel → inv V W → G l D (tysL τ) (LL τ) a iLaw (bmp x (144 + it) (2496 + 6 * it)) 45 (LV a b i) [] (mem3 V W o) := by
  intro fuel
  induction fuel with
  | zero => intro i it V W o _ _ hf; exact absurd hf (Nat.not_lt_zero _)
  | succ fuel ih =>
    intro i it V W o hit hle hf hinv
    refine g_iload 4 dL_law_45 rfl ?_
    refine g_aload_n 0 dL_law_47 rfl rfl ?_
    refine g_slen hx.bmp dL_law_48 ?_
    refine g_bipush dL_law_49 rfl ?_
    refine g_isub dL_law_51 ?_
    refine g_icmp_gt 1428 dL_law_52 (by decide) (fun c1 => ?_) (fun c1 => ?_) (by omega) (by omega)
    · refine g_iconst dL_law_1428 ?_
      exact g_lawret z0 hQ ⟨by omega, by omega⟩ dL_law_1429
    have hi : i + 8 ≤ N := by omega
    have kk : ∀ V' W' o', inv V' W' → G l D (tysL τ) (LL τ) a iLaw (bmp x (144 + it + 1) (2496 + 6 * it + 6)) 1422 (LV a b i) [] (mem3 V' W' o') := fun V' W' o' h' => by
      refine g_iinc 4 [(4, .int (iN ((i : Int) + 8))), (0, .ref b), (1, .ref (a 0)), (2, .ref (a 121)), (3, .ref (a 143))] dL_law_1422 rfl (by decide) rfl ?_
      refine g_goto 45 dL_law_1425 (by decide) ?_
      refine g_lv (lv' := LV a b (i + 8)) [1, 2, 3, 4, 0] rfl ?_
      exact ih (i + 8) (it + 1) V' W' o' (by omega) (by omega) (by omega) h'
    have hR : 144 + it + 1 ≤ 601024 ∧ 2496 + 6 * it + 6 ≤ 7293000 := ⟨by omega, by omega⟩
    refine g_aload_n 0 dL_law_55 rfl rfl ?_
    refine g_iload 4 dL_law_56 rfl ?_
    refine g_sld (i := i) hx.bmp rfl (by omega) (by omega) dL_law_58 ?_
    refine g_bipush dL_law_59 rfl ?_
    obtain ⟨t, ht, et⟩ := and31 (xs i).toInt
    refine g_iand (t : Int) dL_law_61 et ?_
    by_cases e0 : t = 0
    · subst e0
      refine g_tswI (tgt := 144) dL_law_62 (by decide) (by decide) (by decide) rfl (by decide) ?_
      exact case_kind ha hx z0 rd hi hN hR hl hinv kk
    by_cases e1 : t = 1
    · subst e1
      refine g_tswI (tgt := 212) dL_law_62 (by decide) (by decide) (by decide) rfl (by decide) ?_
      exact case_part ha hx z0 rd hi hN hR hl hinv kk
    by_cases e2 : t = 2
    · subst e2
      refine g_tswI (tgt := 404) dL_law_62 (by decide) (by decide) (by decide) rfl (by decide) ?_
      exact case_machine ha hx z0 rd hi hN hR hl hinv kk
    by_cases e3 : t = 3
    · subst e3
      refine g_tswI (tgt := 472) dL_law_62 (by decide) (by decide) (by decide) rfl (by decide) ?_
      exact case_fixed ha hx z0 rd hi hN hR hl hinv kk
    by_cases e4 : t = 4
    · subst e4
      refine g_tswI (tgt := 547) dL_law_62 (by decide) (by decide) (by decide) rfl (by decide) ?_
      exact case_run ha hx z0 rd hi hN hR hl hinv kk
    by_cases e5 : t = 5
    · subst e5
      refine g_tswI (tgt := 647) dL_law_62 (by decide) (by decide) (by decide) rfl (by decide) ?_
      exact case_slot ha hx z0 rd hi hN hR hl hinv kk
    by_cases e6 : t = 6
    · subst e6
      refine g_tswI (tgt := 715) dL_law_62 (by decide) (by decide) (by decide) rfl (by decide) ?_
      exact case_order ha hx z0 rd hi hN hR hl hinv kk
    by_cases e7 : t = 7
    · subst e7
      refine g_tswI (tgt := 783) dL_law_62 (by decide) (by decide) (by decide) rfl (by decide) ?_
      exact case_trip ha hx z0 rd hi hN hR hl hinv kk
    by_cases e8 : t = 8
    · subst e8
      refine g_tswI (tgt := 851) dL_law_62 (by decide) (by decide) (by decide) rfl (by decide) ?_
      exact law_proved ha hx z0 rd hi hN hR hinv kk
    by_cases e9 : t = 9
    · subst e9
      refine g_tswI (tgt := 864) dL_law_62 (by decide) (by decide) (by decide) rfl (by decide) ?_
      exact law_bound ha hx z0 rd hi hN hR hinv kk
    by_cases e10 : t = 10
    · subst e10
      refine g_tswI (tgt := 878) dL_law_62 (by decide) (by decide) (by decide) rfl (by decide) ?_
      exact case_lower ha hx z0 rd hi hN hR hl hinv kk
    by_cases e11 : t = 11
    · subst e11
      refine g_tswI (tgt := 953) dL_law_62 (by decide) (by decide) (by decide) rfl (by decide) ?_
      exact case_refill ha hx z0 rd hi hN hR hl hinv kk
    by_cases e12 : t = 12
    · subst e12
      refine g_tswI (tgt := 1028) dL_law_62 (by decide) (by decide) (by decide) rfl (by decide) ?_
      exact case_reject ha hx z0 rd hi hN hR hl hinv kk
    by_cases e13 : t = 13
    · subst e13
      refine g_tswI (tgt := 1179) dL_law_62 (by decide) (by decide) (by decide) rfl (by decide) ?_
      exact case_machineOf ha hx z0 rd hi hN hR hl hinv kk
    by_cases e14 : t = 14
    · subst e14
      refine g_tswI (tgt := 1235) dL_law_62 (by decide) (by decide) (by decide) rfl (by decide) ?_
      exact case_improve ha hx z0 rd hi hN hR hl hinv kk
    by_cases e15 : t = 15
    · subst e15
      refine g_tswI (tgt := 1291) dL_law_62 (by decide) (by decide) (by decide) rfl (by decide) ?_
      exact case_common ha hx z0 rd hi hN hR hl hinv kk
    by_cases e16 : t = 16
    · subst e16
      refine g_tswI (tgt := 1366) dL_law_62 (by decide) (by decide) (by decide) rfl (by decide) ?_
      exact case_changes ha hx z0 rd hi hN hR hl hinv kk
    refine g_tswO (tgt := 1422) dL_law_62 (by omega) (by omega) (by decide) ?_
    refine g_wid z0 (c1 := 144 + it + 1) (s1 := 2496 + 6 * it + 6) (by omega) (by omega) hR ?_
    exact kk V W o hinv
theorem eqv.refl0 (e : va_E) : eqv e e := fun _ _ _ _ z => z
theorem LM2 {τ : Nat → ClassId} : (LM τ).2 = shM τ := rfl
theorem LX2 {τ : Nat → ClassId} : (LX τ).2 = shX τ := rfl
theorem eqv.l {c : ClassId} {N : Nat} {f g : Nat → Int} (h : ∀ j, j < N → f j = g j) : eqv (arL c N f) (arL c N g) := fun D cl q H z => by
  have z1 : H[q]? = some (vp_cell c (N, .inr (.inl (fun j => jN (f j))))) := z
  show H[q]? = some (vp_cell c (N, .inr (.inl (fun j => jN (g j)))))
  rw [z1, vp_cell_l, vp_cell_l]
  exact congrArg some (arrV_congr (fun j hj => by rw [h j hj]))
theorem start_eqv {τ : Nat → ClassId} {a0 b1 b2 : Nat → Nat} {E0 : Nat → (Nat → Int) → va_E} {q1 q2 q3 : Nat} {V W : Mem} {o1 o2 : (Nat → Int) → va_E} (hb1 : b1 0 = q1) (hb2 : b2 0 = q2) (hW : W 22 = fun _ => 0) : ∀ k, k < 144 → eqv (upf (jE (upf (jE (upf E0 0 o1) 1 0 (LX τ) b1) 121 o2) 122 121 (LM τ) b2) 143 (arL (τ 1) 1) k (jV (jV Z0 1 0 V) 122 121 W k)) ((LL τ).2 (upf (jA (upf (jA (upf a0 0 q1) 1 b1) 121 q2) 122 b2) 143 q3) k (mem3 V W 0 k)) := by
  intro k hk
  have aX : ∀ i, i < 121 → b1 i = upf (jA (upf (jA (upf a0 0 q1) 1 b1) 121 q2) 122 b2) 143 q3 i := fun i hi => by
    rw [upf_ne (by omega)]
    unfold jA
    rw [if_pos (by omega), upf_ne (by omega)]
    by_cases c : i < 1
    · rw [if_pos c, show i = 0 by omega, upf_eq]; exact hb1
    · rw [if_neg c, show i - 1 + 1 = i by omega]
  have aM : ∀ i, i < 22 → b2 i = (fun i => upf (jA (upf (jA (upf a0 0 q1) 1 b1) 121 q2) 122 b2) 143 q3 (121 + i)) i := fun i hi => by
    show b2 i = upf (jA (upf (jA (upf a0 0 q1) 1 b1) 121 q2) 122 b2) 143 q3 (121 + i)
    rw [upf_ne (by omega)]
    by_cases c : i = 0
    · subst c
      show b2 0 = jA (upf (jA (upf a0 0 q1) 1 b1) 121 q2) 122 b2 121
      unfold jA
      rw [if_pos (by omega), upf_eq]; exact hb2
    · show b2 i = jA (upf (jA (upf a0 0 q1) 1 b1) 121 q2) 122 b2 (121 + i)
      rw [show jA (upf (jA (upf a0 0 q1) 1 b1) 121 q2) 122 b2 (121 + i) = b2 (121 + i - 122 + 1) from if_neg (by omega), show 121 + i - 122 + 1 = i by omega]
  generalize upf (jA (upf (jA (upf a0 0 q1) 1 b1) 121 q2) 122 b2) 143 q3 = a at aX aM ⊢
  by_cases c1 : k < 121
  · rw [show (LL τ).2 a k (mem3 V W 0 k) = shX τ a k (V k) from by
      show (if k < 121 then shX τ a k (mem3 V W 0 k) else _) = _
      rw [if_pos c1]
      unfold mem3
      rw [if_pos c1]]
    rw [upf_ne (by omega), show jV (jV Z0 1 0 V) 122 121 W k = V k from by
      unfold jV
      rw [if_neg (by omega), if_pos (by omega)]
      by_cases c : k = 0
      · rw [if_pos c, c]
      · rw [if_neg c, if_neg (by omega), show k - 1 + 1 = k by omega]]
    rw [show jE (upf (jE (upf E0 0 o1) 1 0 (LX τ) b1) 121 o2) 122 121 (LM τ) b2 k (V k) = shX τ b1 k (V k) from by
      unfold jE
      rw [if_neg (by omega), if_pos (by omega), upf_ne (by omega)]
      by_cases c : k = 0
      · rw [if_pos c, c, LX2]
      · rw [if_neg c, if_neg (by omega), show k - 1 + 1 = k by omega, LX2]]
    exact shX_dep aX c1 _
  · by_cases c2 : k < 143
    · rw [show (LL τ).2 a k (mem3 V W 0 k) = shM τ (fun i => a (121 + i)) (k - 121) (W (k - 121)) from by
        show (if k < 121 then _ else if k < 143 then shM τ (fun i => a (121 + i)) (k - 121) (mem3 V W 0 k) else _) = _
        rw [if_neg c1, if_pos c2]
        unfold mem3
        rw [if_neg c1, if_pos c2]]
      rw [upf_ne (by omega), show jV (jV Z0 1 0 V) 122 121 W k = W (k - 121) from by
        unfold jV
        by_cases c : k = 121
        · rw [if_pos c, c]
        · rw [if_neg c, if_neg (by omega), show k - 122 + 1 = k - 121 by omega]]
      rw [show jE (upf (jE (upf E0 0 o1) 1 0 (LX τ) b1) 121 o2) 122 121 (LM τ) b2 k (W (k - 121)) = shM τ b2 (k - 121) (W (k - 121)) from by
        unfold jE
        by_cases c : k = 121
        · rw [if_pos c, c, LM2]
        · rw [if_neg c, if_neg (by omega), show k - 122 + 1 = k - 121 by omega, LM2]]
      rw [shM_dep (k := k - 121) (b := fun i => a (121 + i)) aM (W (k - 121))]
      exact eqv.refl0 _
    · have : k = 143 := by omega
      subst this
      rw [upf_eq]
      show eqv (arL (τ 1) 1 (jV (jV Z0 1 0 V) 122 121 W 143)) (arL (τ 1) 1 (rw0 0))
      exact eqv.l (fun j hj => by
        have e : jV (jV Z0 1 0 V) 122 121 W 143 = W 22 := by
          unfold jV
          rw [if_neg (by omega), if_neg (by omega)]
        rw [e, hW]
        unfold rw0
        rw [if_pos (by omega)])
set_option maxHeartbeats 8000000 in
set_option maxRecDepth 100000 in
theorem law_begin {l : Launch} {D : va_G} {τ : Nat → ClassId} {a0 : Nat → Nat} {E0 : Nat → (Nat → Int) → va_E} {x : Ctx} {b N : Nat} {xs : Nat → Int32} (hl : l.stackTraces = false) (hx : scr x b N xs) (z0 : zer x) (z2 : nst x) (rd : rdy x) (hQ : lawQ x b) (hN : N ≤ 4098) : G l D (tysL τ) (cE 0 E0) a0 iLaw (bmp x 0 0) 0 [(0, .ref b)] [] Z0 := by
  obtain ⟨v0, hv0, e0⟩ : ∃ v : Int, (-2147483648 ≤ v ∧ v ≤ 2147483647) ∧ v = (if 0 < N then (xs 0).toInt else 0) := by
    by_cases c : 0 < N
    · exact ⟨_, s_in (xs 0), (if_pos c).symm⟩
    · exact ⟨0, by omega, (if_neg c).symm⟩
  obtain ⟨v1, hv1, e1⟩ : ∃ v : Int, (-2147483648 ≤ v ∧ v ≤ 2147483647) ∧ v = (if 1 < N then (xs 1).toInt else 0) := by
    by_cases c : 1 < N
    · exact ⟨_, s_in (xs 1), (if_pos c).symm⟩
    · exact ⟨0, by omega, (if_neg c).symm⟩
  refine g_newO (ci := 6) (N := 10) (fs := [.int (iN 0), .null, .null, .null, .null, .null, .null, .null, .int (iN 0), .int (iN 0)]) z0 rfl inX6 tyX6_ok n8 dfX6 ⟨by decide, by decide⟩ dL_law_0 (fun q1 => ?_)
  refine g_dup dL_law_3 rfl ?_
  refine g_aload_n 0 dL_law_4 rfl rfl ?_
  refine g_iconst dL_law_5 ?_
  refine g_cell [.ref b, .int (iN 0)] hx.bmp (met_cell hN 0 (by omega)) vcell ⟨rfl, rfl, by decide, by decide⟩ rfl (Nat.le_of_ble_eq_true rfl) dL_law_6 rfl (fun z _ hz => ?_)
  rw [hz, ← e0]
  refine g_i2l dL_law_9 hv0 ?_
  refine g_aload_n 0 dL_law_10 rfl rfl ?_
  refine g_iconst dL_law_11 ?_
  refine g_cell [.ref b, .int (iN 1)] hx.bmp (met_cell hN 1 (by omega)) vcell ⟨rfl, rfl, by decide, by decide⟩ rfl (Nat.le_of_ble_eq_true rfl) dL_law_12 rfl (fun z _ hz => ?_)
  rw [hz, ← e1]
  refine g_ctor 0 [.long (jN v0), .int (iN v1)] z0 z2 (met_X6_init _ v0 v1 hv1) (by decide) rfl l70 ⟨by decide, by decide⟩ ⟨by decide, by decide⟩ (Nat.le_of_ble_eq_true rfl) rfl (Nat.le_of_ble_eq_true rfl) dL_law_15 rfl (fun b1 hb1 => ?_)
  refine g_astore_n [(1, .ref q1), (0, .ref b)] dL_law_18 rfl (by decide) rfl ?_
  refine g_newO (ci := 7) (N := 29) (fs := [.int (iN 0), .long (jN 0), .int (iN 0), .int (iN 0), .null, .null, .null, .null, .null, .null, .int (iN 0), .null, .null, .null, .null, .int (iN 0), .null, .null, .int (iN 0), .null, .null, .null, .null, .null, .null, .int (iN 0), .null, .null, .null]) z0 rfl inX7 tyX7_ok n73 dfX7 ⟨by decide, by decide⟩ dL_law_19 (fun q2 => ?_)
  refine g_dup dL_law_22 rfl ?_
  refine g_aload_n 1 dL_law_23 rfl rfl ?_
  refine g_iconst dL_law_24 ?_
  refine g_cell [.ref b, .int (iN 0)] hx.bmp (met_cell hN 0 (by omega)) vcell ⟨rfl, rfl, by decide, by decide⟩ rfl (Nat.le_of_ble_eq_true rfl) dL_law_25 rfl (fun z _ hz => ?_)
  rw [hz, ← e0]
  refine g_i2l dL_law_28 hv0 ?_
  refine g_aload_n 1 dL_law_29 rfl rfl ?_
  refine g_iconst dL_law_30 ?_
  refine g_cell [.ref b, .int (iN 1)] hx.bmp (met_cell hN 1 (by omega)) vcell ⟨rfl, rfl, by decide, by decide⟩ rfl (Nat.le_of_ble_eq_true rfl) dL_law_31 rfl (fun z _ hz => ?_)
  rw [hz, ← e1]
  refine g_ctor 121 [.long (jN v0), .int (iN v1)] z0 z2 (met_X7_init _ v0 v1 hv1) (Nat.le_of_ble_eq_true rfl) rfl l75 ⟨by decide, by decide⟩ ⟨by decide, by decide⟩ (Nat.le_of_ble_eq_true rfl) rfl (Nat.le_of_ble_eq_true rfl) dL_law_34 rfl (fun b2 hb2 => ?_)
  refine g_astore_n [(2, .ref q2), (1, .ref q1), (0, .ref b)] dL_law_37 rfl (by decide) rfl ?_
  refine g_iconst dL_law_38 ?_
  refine g_newA (t := 1) (N := 1) (ty := .long) (v := arL (τ 1) 1) z0 rfl (fun C h => by cases h) rfl wJ (by decide) (by decide) ⟨_, rfl, rfl⟩ ⟨by decide, by decide⟩ dL_law_39 (fun q3 => ?_)
  refine g_astore_n [(3, .ref q3), (2, .ref q2), (1, .ref q1), (0, .ref b)] dL_law_41 rfl (by decide) rfl ?_
  refine g_iconst dL_law_42 ?_
  refine g_istore [(4, .int (iN 2)), (3, .ref q3), (2, .ref q2), (1, .ref q1), (0, .ref b)] dL_law_43 (by decide) rfl ?_
  refine g_lv (lv' := [(0, .ref b), (1, .ref q1), (2, .ref q2), (3, .ref q3), (4, .int (iN 2))]) [4, 3, 2, 1, 0] rfl ?_
  refine g_layE (L' := LL τ) (V' := mem3 (V6x v0 v1) (fillM (V7a v0 v1) 13 30 (-1)) 0) rfl ?_ (g_apart (fun ha => law_loop hl ha hx z0 rd hQ hN _ 2 0 _ _ 0 rfl (by omega) (Nat.lt_succ_self _) (inv_0 v0 v1)))
  exact start_eqv hb1 hb2 (V7_row (by omega) (by omega))
