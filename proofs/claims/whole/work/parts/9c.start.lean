/-! the law's start -/
theorem g_layE {l : Launch} {D : va_G} {tys : List (ClassId × FieldType)} {L L' : Lay} {a : Nat → Nat} {M : MInf} {x : Ctx} {pc : Nat} {lv : List (Nat × Value)} {st : List Value} {V V' : Mem} (h1 : L'.1 = L.1) (h2 : ∀ k, k < L.1 → eqv (L.2 a k (V k)) (L'.2 a k (V' k))) (k : G l D tys L' a M x pc lv st V') : G l D tys L a M x pc lv st V := by
  obtain ⟨p, e, s, m, args, below, meth, c, cells, slots, Q, A⟩ := x
  refine fun cx ls H locs hl hP hS => k ⟨cx.1, cx.2.1, cx.2.2.1, cx.2.2.2.1, cx.2.2.2.2.1, cx.2.2.2.2.2.1, fun i j hi hj => cx.2.2.2.2.2.2.1 i j (h1 ▸ hi) (h1 ▸ hj), fun i hi => cx.2.2.2.2.2.2.2.1 i (h1 ▸ hi), cx.2.2.2.2.2.2.2.2⟩ ls H locs hl ?_ hS
  rw [wsP] at hP ⊢
  intro i hi
  rw [h1] at hi
  exact h2 i hi D vwCl (a i) H (hP i hi)
theorem shX_dep {τ : Nat → ClassId} {a b : Nat → Nat} (h : ∀ i, i < 121 → a i = b i) {k : Nat} (hk : k < 121) (r : Nat → Int) : eqv (shX τ a k r) (shX τ b k r) := by
  unfold shX
  by_cases c0 : k = 0
  · rw [if_pos c0, if_pos c0]
    unfold fsX6
    rw [h 1 (by omega), h 2 (by omega), h 9 (by omega), h 14 (by omega), h 27 (by omega), h 44 (by omega), h 120 (by omega)]
    exact eqv.of rfl
  rw [if_neg c0, if_neg c0]
  by_cases c1 : k = 1
  · rw [if_pos c1, if_pos c1]; exact eqv.of rfl
  rw [if_neg c1, if_neg c1]
  by_cases c2 : k = 2
  · rw [if_pos c2, if_pos c2]
    unfold fsX1
    rw [h 3 (by omega), h 4 (by omega), h 5 (by omega), h 6 (by omega), h 7 (by omega), h 8 (by omega)]
    exact eqv.of rfl
  rw [if_neg c2, if_neg c2]
  by_cases c3 : k < 9
  · rw [if_pos c3, if_pos c3]; exact eqv.of rfl
  rw [if_neg c3, if_neg c3]
  by_cases c4 : k = 9
  · rw [if_pos c4, if_pos c4]
    unfold fsX3
    rw [h 10 (by omega), h 11 (by omega), h 12 (by omega), h 13 (by omega)]
    exact eqv.of rfl
  rw [if_neg c4, if_neg c4]
  by_cases c5 : k < 14
  · rw [if_pos c5, if_pos c5]; exact eqv.of rfl
  rw [if_neg c5, if_neg c5]
  by_cases c6 : k = 14
  · rw [if_pos c6, if_pos c6]
    exact eqv.q (fun j hj => by rw [h (15 + 4 * j) (by omega)])
  rw [if_neg c6, if_neg c6]
  by_cases c7 : k < 27
  · rw [if_pos c7, if_pos c7]
    by_cases d1 : (k - 15) % 4 = 0
    · rw [if_pos d1, if_pos d1]
      unfold fsX2
      rw [h (k + 1) (by omega), h (k + 2) (by omega), h (k + 3) (by omega)]
      exact eqv.of rfl
    · rw [if_neg d1, if_neg d1]; exact eqv.of rfl
  rw [if_neg c7, if_neg c7]
  by_cases c8 : k = 27
  · rw [if_pos c8, if_pos c8]
    unfold fsX4
    rw [h 28 (by omega), h 29 (by omega), h 30 (by omega), h 31 (by omega), h 32 (by omega)]
    exact eqv.of rfl
  rw [if_neg c8, if_neg c8]
  by_cases c9 : k < 32
  · rw [if_pos c9, if_pos c9]; exact eqv.of rfl
  rw [if_neg c9, if_neg c9]
  by_cases c10 : k = 32
  · rw [if_pos c10, if_pos c10]
    exact eqv.q (fun j hj => by rw [h (33 + j) (by omega)])
  rw [if_neg c10, if_neg c10]
  by_cases c11 : k < 44
  · rw [if_pos c11, if_pos c11]; exact eqv.of rfl
  rw [if_neg c11, if_neg c11]
  by_cases c12 : k = 44
  · rw [if_pos c12, if_pos c12]
    unfold fsX5
    rw [h 45 (by omega), h 46 (by omega), h 47 (by omega), h 55 (by omega)]
    exact eqv.of rfl
  rw [if_neg c12, if_neg c12]
  by_cases c13 : k < 47
  · rw [if_pos c13, if_pos c13]; exact eqv.of rfl
  rw [if_neg c13, if_neg c13]
  by_cases c14 : k = 47
  · rw [if_pos c14, if_pos c14]
    exact eqv.q (fun j hj => by rw [h (48 + j) (by omega)])
  rw [if_neg c14, if_neg c14]
  by_cases c15 : k < 55
  · rw [if_pos c15, if_pos c15]; exact eqv.of rfl
  rw [if_neg c15, if_neg c15]
  by_cases c16 : k = 55
  · rw [if_pos c16, if_pos c16]
    exact eqv.q (fun j hj => by rw [h (56 + j) (by omega)])
  rw [if_neg c16, if_neg c16]
  exact eqv.of rfl
theorem shM_dep {τ : Nat → ClassId} {a b : Nat → Nat} (h : ∀ i, i < 22 → a i = b i) {k : Nat} (r : Nat → Int) : shM τ a k r = shM τ b k r := by
  unfold shM fsM
  rw [h 1 (by omega), h 2 (by omega), h 3 (by omega), h 4 (by omega), h 5 (by omega), h 6 (by omega), h 7 (by omega), h 8 (by omega), h 9 (by omega), h 10 (by omega), h 11 (by omega), h 12 (by omega), h 13 (by omega), h 14 (by omega), h 15 (by omega), h 16 (by omega), h 17 (by omega), h 18 (by omega), h 19 (by omega), h 20 (by omega), h 21 (by omega)]
/-! cell(script, k) -/
abbrev cL_cell : ByteArray := method_2_code
def yL_cell : MethodName := ⟨RL, "cell", "([II)I"⟩
abbrev iL_cell : MInf := (cL_cell, 2, RL, some .int, { frames := 0, cells := 0, slots := 0, locals := 0 })
theorem dL_cell_0 : decode cL_cell 0 = .ok (.iload_n 1, 1) := by decide +kernel
theorem dL_cell_1 : decode cL_cell 1 = .ok (.aload_n 0, 1) := by decide +kernel
theorem dL_cell_2 : decode cL_cell 2 = .ok (.arraylength, 1) := by decide +kernel
theorem dL_cell_3 : decode cL_cell 3 = .ok (.if_icmp .ge 9, 3) := by decide +kernel
theorem dL_cell_6 : decode cL_cell 6 = .ok (.aload_n 0, 1) := by decide +kernel
theorem dL_cell_7 : decode cL_cell 7 = .ok (.iload_n 1, 1) := by decide +kernel
theorem dL_cell_8 : decode cL_cell 8 = .ok (.iaload, 1) := by decide +kernel
theorem dL_cell_9 : decode cL_cell 9 = .ok (.goto 4, 3) := by decide +kernel
theorem dL_cell_12 : decode cL_cell 12 = .ok (.iconst 0, 1) := by decide +kernel
theorem dL_cell_13 : decode cL_cell 13 = .ok (.ireturn, 1) := by decide +kernel
def L00 : Lay := (0, fun _ _ _ => .inr (0, []))
def PcS (D : va_G) (tys : List (ClassId × FieldType)) (b N : Nat) (xs : Nat → Int32) (av : List Value) (sz : Nat) : Array Value → State → Prop := va_Pc av (fun U => U.heap.size = sz ∧ va_K D vwCl tys U ∧ va_X b N xs U U.heap ∧ b < sz)
def CS (l : Launch) (D : va_G) (tys : List (ClassId × FieldType)) (b N : Nat) (xs : Nat → Int32) (y : MethodName) (M : MInf) (av : List Value) (post : Int → Mem → Prop) : Prop :=
  ∀ sz, Met l y (wsM y M) M.2.2.2.2 (PcS D tys b N xs av sz) (va_Qi (fun r V' => ∃ z, r = iN z ∧ post z V') (fun V' t => va_P D vwCl (wsOf L00 (fun _ => 0) V') t.heap) (rgA L00 (fun _ => 0) sz)) 0 0 (rgA L00 (fun _ => 0) sz)
theorem P00 {D : va_G} {V : Mem} {H : Heap} : va_P D vwCl (wsOf L00 (fun _ => 0) V) H := by
  rw [wsP]
  intro k hk
  exact absurd hk (Nat.not_lt_zero _)
section LC
variable {l : Launch} {D : va_G} {tys : List (ClassId × FieldType)} {L : Lay} {a : Nat → Nat} {M : MInf} {x : Ctx} {pc : Nat} {lv lv' : List (Nat × Value)} {st : List Value} {V : Mem}
theorem met_cell {b N : Nat} {xs : Nat → Int32} (hN : N ≤ 4098) (k : Nat) (hk : k ≤ 1) : CS l D tys b N xs yL_cell iL_cell [.ref b, .int (iN (k : Int))] (fun z _ => z = if k < N then (xs k).toInt else 0) := by
  intro sz
  refine Met.ofW (cc := iL_cell.1) (maxL := iL_cell.2.1) (ret := iL_cell.2.2.2.1) (by decide +kernel) rfl ?_
  intro p e s m args below meth c s₁ B hml hv
  obtain ⟨rfl, hsz, hK, hX, hb⟩ := hv
  subst hsz
  have hl := lv_entry [.ref b, .int (iN (k : Int))] (n := iL_cell.2.1) (Nat.le_of_ble_eq_true rfl)
  rw [lg_entry_eq]
  have hq : QI l D L00 (fun _ => 0) (fun z _ => z = if k < N then (xs k).toInt else 0) (p, e, s, m, ([.ref b, .int (iN (k : Int))] : List Value).toArray, below, meth, c, 0, 0, MQ below (va_Qi (fun r V' => ∃ z, r = iN z ∧ (fun z _ => z = if k < N then (xs k).toInt else 0) z V') (fun V' t => va_P D vwCl (wsOf L00 (fun _ => 0) V') t.heap) (rgA L00 (fun _ => 0) s.heap.size)) ([.ref b, .int (iN (k : Int))] : List Value).toArray s 0 0 (rgA L00 (fun _ => 0) s.heap.size), rgA L00 (fun _ => 0) s.heap.size) := ⟨rfl, rfl, rfl⟩
  have hx : scr (p, e, s, m, ([.ref b, .int (iN (k : Int))] : List Value).toArray, below, meth, c, 0, 0, MQ below (va_Qi (fun r V' => ∃ z, r = iN z ∧ (fun z _ => z = if k < N then (xs k).toInt else 0) z V') (fun V' t => va_P D vwCl (wsOf L00 (fun _ => 0) V') t.heap) (rgA L00 (fun _ => 0) s.heap.size)) ([.ref b, .int (iN (k : Int))] : List Value).toArray s 0 0 (rgA L00 (fun _ => 0) s.heap.size), rgA L00 (fun _ => 0) s.heap.size) b N xs := ⟨hX, hb, by
    rintro (⟨j, hj, -⟩ | h)
    · exact absurd hj (Nat.not_lt_zero _)
    · exact absurd h (by omega)⟩
  have body : G l D tys L00 (fun _ => 0) iL_cell (p, e, s, m, ([.ref b, .int (iN (k : Int))] : List Value).toArray, below, meth, c, 0, 0, MQ below (va_Qi (fun r V' => ∃ z, r = iN z ∧ (fun z _ => z = if k < N then (xs k).toInt else 0) z V') (fun V' t => va_P D vwCl (wsOf L00 (fun _ => 0) V') t.heap) (rgA L00 (fun _ => 0) s.heap.size)) ([.ref b, .int (iN (k : Int))] : List Value).toArray s 0 0 (rgA L00 (fun _ => 0) s.heap.size), rgA L00 (fun _ => 0) s.heap.size) 0 [(0, .ref b), (1, .int (iN (k : Int)))] [] Z0 := by
    refine g_iload_n 1 dL_cell_0 rfl rfl ?_
    refine g_aload_n 0 dL_cell_1 rfl rfl ?_
    refine g_slen hx dL_cell_2 ?_
    refine g_icmp_ge 12 dL_cell_3 (by decide) (fun c1 => ?_) (fun c1 => ?_) (by omega) (by omega)
    · refine g_iconst dL_cell_12 ?_
      exact g_iret hq rfl rfl dL_cell_13 (by show (0 : Int) = _; rw [if_neg (by omega)])
    · refine g_aload_n 0 dL_cell_6 rfl rfl ?_
      refine g_iload_n 1 dL_cell_7 rfl rfl ?_
      refine g_sld (i := k) hx rfl (by omega) (by omega) dL_cell_8 ?_
      refine g_goto 13 dL_cell_9 (by decide) ?_
      exact g_iret hq rfl rfl dL_cell_13 (by show (xs k).toInt = _; rw [if_pos (by omega)])
  exact body ⟨B.exec, B.bytes, hml, findClass_of_methodNamed B.named, fun w hw => atoms_spec (ws := wsM yL_cell iL_cell) B.pre w (List.mem_cons_of_mem _ hw), hK, fun i j hi => absurd hi (Nat.not_lt_zero _), fun i hi => absurd hi (Nat.not_lt_zero _), fun q h => Or.inr h, B.returns, B.notSynchronized, Nat.zero_le _, Nat.zero_le _⟩ _ _ _ hl P00 va_S.rf
theorem blindS {b N sz : Nat} {xs : Nat → Int32} {av : List Value} : FrameBlind (PcS D tys b N xs av sz) := fun v U g mk q => by
  obtain ⟨q0, q1, qK, qX, qb⟩ := q
  exact ⟨q0, q1, va_K.moved (u := U) (U := U.calling g mk v) (Vm.Alike.refl U.vm) qK, va_X.moved (u := U) (U := U.calling g mk v) (Vm.Alike.refl U.vm) qX, qb⟩
theorem g_cell {b N idx n : Nat} {xs : Nat → Int32} {y : MethodName} {M2 : MInf} (As : List Value) {post : Int → Mem → Prop} {st0 : List Value} (hx : scr x b N xs) (hM : CS l D tys b N xs y M2 As post) (hk : LkS M.2.2.1 idx y M2 n) (hrm : rmOk M M2) (hn : As.length = n) (hst : (st.map fun v => v.category).sum ≤ 8) (d : decode M.1 pc = .ok (.invokestatic idx, 3)) (hs0 : st0 = As.reverse ++ st) (kk : ∀ z V', post z V' → G l D tys L a M x (pc + 3) lv (.int (iN z) :: st) V) : G l D tys L a M x pc lv st0 V := by
  obtain ⟨p, e, s, m, args, below, meth, c, cells, slots, Q, A⟩ := x
  subst hs0
  refine fun cx ls H locs hl hP hS => ?_
  have hXb : H[b]? = s.heap[b]? := hS.2.1 b hx.2.1 hx.2.2
  have hrg : ∀ q, rgA L00 (fun _ => 0) H.size q → A q := by
    rintro q (⟨j, hj, -⟩ | h)
    · exact absurd hj (Nat.not_lt_zero _)
    · exact cx.2.2.2.2.2.2.2.2.1 q (Nat.le_trans hS.1 h)
  refine va_calli (va_runS (As := As) (rest := st) ⟨cx.1, cx.2.1, cx.2.2.1, cx.2.2.2.1, cx.2.2.2.2.1⟩ (hM H.size) (cwS n cx.2.2.2.2.1 (good_S hk) rfl hrm.1 hrm.2.1 ⟨hk.2.2.2.2.2.2.2, hk.2.2.2.2.1, hk.2.2.2.2.2.1, hk.2.2.2.2.2.2.1⟩ ⟨hrm.2.2.1, hrm.2.2.2⟩) ⟨blindS, fun U hU hW => ⟨rfl, by rw [hU], va_K.moved hW.alike cx.2.2.2.2.2.1, (hx.1.moved hW.alike).kept (by rw [hU]; exact hXb), Nat.lt_of_lt_of_le hx.2.1 hS.1⟩⟩ rfl hn hl.1 rfl (lv_room hst) d ⟨cx.2.2.2.2.2.2.2.2.2.2.2.1, cx.2.2.2.2.2.2.2.2.2.2.2.2⟩) hS (fun q _ h => hrg q h) hrg (fun r u t H1 locs1 ht hvm hw hB hz1 hk1 hS1 => ?_)
  obtain ⟨z, rfl, hp⟩ := hw
  refine kk z u hp cx ls H1 locs1 hl (hP.kept (fun k q hq => hk1 _ (hP k q hq).lt ?_)) hS1
  rintro (⟨j, hj, -⟩ | h)
  · exact absurd hj (Nat.not_lt_zero _)
  · have h1 := (hP k q hq).lt
    have h2 : H.size ≤ q.1 := h
    omega
theorem g_tswI {dflt lo hi : Int} {offs : Array Int} {len : Nat} {u off : Int} {tgt : Nat} (d : decode M.1 pc = .ok (.tableswitch dflt lo hi offs, len)) (hu : -2147483648 ≤ u ∧ u ≤ 2147483647) (h1 : lo ≤ u) (h2 : u ≤ hi) (ho : offs[(u - lo).toNat]? = some off) (ht : (pc : Int) + off = (tgt : Int)) (k : G l D tys L a M x tgt lv st V) : G l D tys L a M x pc lv (.int (iN u) :: st) V := by
  obtain ⟨p, e, s, m, args, below, meth, c, cells, slots, Q, A⟩ := x
  exact fun cx ls H locs hl hP hS => lv_tableIn cx.1 cx.2.1 d (by rw [iN_toInt hu]; omega) (by rw [iN_toInt hu]; omega) (by rw [iN_toInt hu]; exact ho) ht (k cx ls H locs hl hP hS)
theorem g_tswO {dflt lo hi : Int} {offs : Array Int} {len : Nat} {u : Int} {tgt : Nat} (d : decode M.1 pc = .ok (.tableswitch dflt lo hi offs, len)) (hu : -2147483648 ≤ u ∧ u ≤ 2147483647) (h : u < lo ∨ hi < u) (ht : (pc : Int) + dflt = (tgt : Int)) (k : G l D tys L a M x tgt lv st V) : G l D tys L a M x pc lv (.int (iN u) :: st) V := by
  obtain ⟨p, e, s, m, args, below, meth, c, cells, slots, Q, A⟩ := x
  exact fun cx ls H locs hl hP hS => lv_tableOut cx.1 cx.2.1 d (by rw [iN_toInt hu]; exact h) ht (k cx ls H locs hl hP hS)
end LC
theorem and31 (w : Int) : ∃ t : Nat, t ≤ 31 ∧ iN w &&& iN 31 = iN (t : Int) := by
  obtain ⟨n, hn⟩ : ∃ n : Nat, iN w = iN (n : Int) := ⟨(iN w).toBitVec.toNat, by
    rw [iN_nI]
    show iN w = Int32.ofNat _
    apply Int32.toBitVec_inj.mp
    simp⟩
  exact ⟨n &&& 31, Nat.and_le_right, by rw [hn]; exact iN_and n 31⟩
