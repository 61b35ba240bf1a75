def RJ0 : String := "java/util/Arrays"
abbrev cJ0_fill : ByteArray := prog_19_method_103_code
def yJ0_fill : MethodName := ⟨RJ0, "fill", "([II)V"⟩
abbrev mJ0_fill : MInf := (cJ0_fill, 4, RJ0, none, { frames := 0, cells := 0, slots := 0, locals := 0 })
theorem dJ0_fill_0 : decode cJ0_fill 0 = .ok (.iconst 0, 1) := by decide +kernel
theorem dJ0_fill_1 : decode cJ0_fill 1 = .ok (.istore_n 2, 1) := by decide +kernel
theorem dJ0_fill_2 : decode cJ0_fill 2 = .ok (.aload_n 0, 1) := by decide +kernel
theorem dJ0_fill_3 : decode cJ0_fill 3 = .ok (.arraylength, 1) := by decide +kernel
theorem dJ0_fill_4 : decode cJ0_fill 4 = .ok (.istore_n 3, 1) := by decide +kernel
theorem dJ0_fill_5 : decode cJ0_fill 5 = .ok (.iload_n 2, 1) := by decide +kernel
theorem dJ0_fill_6 : decode cJ0_fill 6 = .ok (.iload_n 3, 1) := by decide +kernel
theorem dJ0_fill_7 : decode cJ0_fill 7 = .ok (.if_icmp .ge 13, 3) := by decide +kernel
theorem dJ0_fill_10 : decode cJ0_fill 10 = .ok (.aload_n 0, 1) := by decide +kernel
theorem dJ0_fill_11 : decode cJ0_fill 11 = .ok (.iload_n 2, 1) := by decide +kernel
theorem dJ0_fill_12 : decode cJ0_fill 12 = .ok (.iload_n 1, 1) := by decide +kernel
theorem dJ0_fill_13 : decode cJ0_fill 13 = .ok (.iastore, 1) := by decide +kernel
theorem dJ0_fill_14 : decode cJ0_fill 14 = .ok (.iinc 2 1, 3) := by decide +kernel
theorem dJ0_fill_17 : decode cJ0_fill 17 = .ok (.goto (-12), 3) := by decide +kernel
theorem dJ0_fill_20 : decode cJ0_fill 20 = .ok (.return_, 1) := by decide +kernel
theorem vX2_34 : LkX RX2 34 yJ0_fill mJ0_fill 2 := ⟨tm_1 (List.mem_of_getElem? (i := 95) rfl) rfl, tm_1 (List.mem_of_getElem? (i := 96) rfl) rfl, tm_1 (List.mem_of_getElem? (i := 5) rfl) rfl, tm_1 (List.mem_of_getElem? (i := 97) rfl) rfl, by decide +kernel, by decide +kernel, by decide +kernel⟩
theorem vX4_36 : LkX RX4 36 yJ0_fill mJ0_fill 2 := ⟨tm_2 (List.mem_of_getElem? (i := 192) rfl) rfl, tm_1 (List.mem_of_getElem? (i := 96) rfl) rfl, tm_1 (List.mem_of_getElem? (i := 5) rfl) rfl, tm_1 (List.mem_of_getElem? (i := 97) rfl) rfl, by decide +kernel, by decide +kernel, by decide +kernel⟩
/-- an array's n places all v -/
def fillM (V : Mem) (k n : Nat) (v : Int) : Mem := fun c j => if c = k ∧ j < n then v else V c j
theorem fillM_0 {V : Mem} {k : Nat} {v : Int} : fillM V k 0 v = V := funext fun c => funext fun j => if_neg (fun h => Nat.not_lt_zero _ h.2)
theorem fillM_s {V : Mem} {k n : Nat} {v : Int} : up (fillM V k n v) k n v = fillM V k (n + 1) v := funext fun c => funext fun j => by
  unfold up fillM
  by_cases h : c = k
  · subst h
    by_cases h2 : j = n
    · subst h2; simp
    · by_cases h3 : j < n
      · simp [h2, h3, show j < n + 1 by omega]
      · simp [h2, h3, show ¬ j < n + 1 by omega]
  · simp [h]
theorem fillM_in {V : Mem} {k n : Nat} {v : Int} {j : Nat} (h : j < n) : fillM V k n v k j = v := if_pos ⟨rfl, h⟩
theorem fillM_ne {V : Mem} {k n : Nat} {v : Int} {c j : Nat} (h : c ≠ k ∨ n ≤ j) : fillM V k n v c j = V c j := if_neg (fun q => h.elim (fun z => z q.1) (fun z => Nat.not_lt.mpr z q.2))
set_option maxHeartbeats 4000000 in
/-- Arrays.fill(int[], int) -/
theorem met_J0_fill {l : Launch} {D : va_G} {tys : List (ClassId × FieldType)} {L : Lay} {a : Nat → Nat} (ha : Apart L a) {V : Mem} {k n : Nat} (hk : ArI L a tys k n) (v : Int) : CV l D tys L a yJ0_fill mJ0_fill [.ref (a k), .int (iN v)] V (fun V' => V' = fillM V k n v) := by
  refine CV.of (by decide +kernel) rfl (Nat.le_of_ble_eq_true rfl) ha (fun x hq => ?_)
  have hn := hk.2.1
  show G l D tys L a mJ0_fill x 0 [(0, .ref (a k)), (1, .int (iN v))] [] V
  refine g_iconst dJ0_fill_0 ?_
  refine g_istore_n [(2, .int (iN 0)), (0, .ref (a k)), (1, .int (iN v))] dJ0_fill_1 rfl (by decide) rfl ?_
  refine g_aload_n 1 dJ0_fill_2 rfl rfl ?_
  refine g_alen k hk dJ0_fill_3 ?_
  refine g_istore_n [(3, .int (iN (n : Int))), (2, .int (iN 0)), (0, .ref (a k)), (1, .int (iN v))] dJ0_fill_4 rfl (by decide) rfl ?_
  have lp_5 : ∀ (fuel : Nat) (i : Nat) (U : Mem), (i ≤ n) → (U = fillM V k i v) → (n - i) < fuel → G l D tys L a mJ0_fill x 5 [(0, .ref (a k)), (1, .int (iN v)), (2, .int (iN (i : Int))), (3, .int (iN (n : Int)))] [] U := by
    intro fuel
    induction fuel with
    | zero => intro i U hi hU hfu; exact absurd hfu (Nat.not_lt_zero _)
    | succ fuel ih_5 =>
      intro i U hi hU hfu
      refine g_iload_n 2 dJ0_fill_5 rfl rfl ?_
      refine g_iload_n 3 dJ0_fill_6 rfl rfl ?_
      refine g_icmp_ge 20 dJ0_fill_7 (by decide) (fun c_1 => ?_) (fun c_1 => ?_)
      · exact g_vret hq rfl dJ0_fill_20 (by rw [hU, show i = n by omega])
      · refine g_aload_n 0 dJ0_fill_10 rfl rfl ?_
        refine g_iload_n 2 dJ0_fill_11 rfl rfl ?_
        refine g_iload_n 1 dJ0_fill_12 rfl rfl ?_
        refine g_iast k i hk dJ0_fill_13 rfl (by omega) ?_
        obtain ⟨V_2, eV_2⟩ : ∃ q, q = up U k i v := ⟨_, rfl⟩
        refine g_mem eV_2.symm ?_
        refine g_iinc 2 [(2, .int (iN ((i : Int) + 1))), (0, .ref (a k)), (1, .int (iN v)), (3, .int (iN (n : Int)))] dJ0_fill_14 rfl (by decide) rfl ?_
        refine g_goto 5 dJ0_fill_17 (by decide) ?_
        refine g_lv [1, 2, 0, 3] rfl ?_
        exact ih_5 (i + 1) V_2 (by omega) (by rw [eV_2, hU, fillM_s]) (by omega)
  refine g_lv [2, 3, 1, 0] rfl ?_
  exact lp_5 _ 0 V (Nat.zero_le _) fillM_0.symm (Nat.lt_succ_self _)
