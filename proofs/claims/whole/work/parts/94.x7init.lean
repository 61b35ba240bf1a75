def V7a (sd sl : Int) : Mem := fun k => if k = 0 then (fun j => if j = 1 then sd else if j = 2 then max 1 (min 120 sl) else 0) else fun _ => 0
theorem g_retL {l : Launch} {D : va_G} {tys : List (ClassId × FieldType)} {L : Lay} {a : Nat → Nat} {M : MInf} {x : Ctx} {pc : Nat} {lv : List (Nat × Value)} {V : Mem} {c0 s0 o : Nat} {Vp : Mem} (hq : QN D L Vp o M x) (hc : c0 = M.2.2.2.2.cells ∧ s0 = M.2.2.2.2.slots) (hn0 : 0 < L.1) (h0 : a 0 = o) (hE : V = Vp) (hr : M.2.2.2.1 = none) (d : decode M.1 pc = .ok (.return_, 1)) : G l D tys L a M (bmp x c0 s0) pc lv [] V := by
  obtain ⟨p, e, s, m, args, below, meth, c, cells, slots, Q, A⟩ := x
  obtain ⟨⟨rfl, rfl⟩, -, -, hA, rfl⟩ := hq
  obtain ⟨rfl, rfl⟩ := hc
  subst hE
  refine fun cx ls H locs hl hP hS => ?_
  rw [Nat.zero_add, Nat.zero_add]
  refine W.vret cx.1 cx.2.1 (cx.2.2.2.2.2.2.2.2.2.1.trans hr) (fun t ht _ => ⟨⟨a, rfl, ⟨h0, fun k h1 h2 => ?_, cx.2.2.2.2.2.2.1⟩, ?_⟩, hS.F ht⟩) hS.2.2 d cx.2.2.2.2.2.2.2.2.2.2.1
  · have := cx.2.2.2.2.2.2.2.1 k h2
    rw [hA] at this
    rcases this with q | q
    · exact absurd (cx.2.2.2.2.2.2.1 k 0 h2 hn0 (q.trans h0.symm)) (by omega)
    · exact q
  · show va_P D vwCl (wsOf L a V) t.heap
    rw [ht]
    exact hP
section S7
variable {l : Launch} {D : va_G} {tys : List (ClassId × FieldType)} {L : Lay} {a : Nat → Nat} {x : Ctx} {st : List Value} {V : Mem} {o : Nat} {sd sl : Int} {τ : Nat → ClassId}
theorem seg7 (hsl : -2147483648 ≤ sl ∧ sl ≤ 2147483647) (k : G l D tys L a iX7 x 197 [(0, .ref o), (1, .long (jN sd)), (3, .int (iN sl))] (.int (iN (max 1 (min 120 sl))) :: st) V) : G l D tys L a iX7 x 176 [(0, .ref o), (1, .long (jN sd)), (3, .int (iN sl))] st V := by
  refine g_iload_n 2 dX7_init_176 rfl rfl ?_
  refine g_iconst dX7_init_177 ?_
  refine g_icmp_ge 185 dX7_init_178 (by decide) (fun c1 => ?_) (fun c1 => ?_)
  · refine g_iload_n 2 dX7_init_185 rfl rfl ?_
    refine g_bipush dX7_init_186 rfl ?_
    refine g_icmp_le 196 dX7_init_188 (by decide) (fun c2 => ?_) (fun c2 => ?_)
    · refine g_iload_n 2 dX7_init_196 rfl rfl ?_
      refine g_top (v := max 1 (min 120 sl)) (by omega) ?_
      exact k
    · refine g_bipush dX7_init_191 rfl ?_
      refine g_goto 197 dX7_init_193 (by decide) ?_
      refine g_top (v := max 1 (min 120 sl)) (by omega) ?_
      exact k
  · refine g_iconst dX7_init_181 ?_
    refine g_goto 197 dX7_init_182 (by decide) ?_
    refine g_top (v := max 1 (min 120 sl)) (by omega) ?_
    exact k
theorem seg7l (h0 : a 0 = o) (k : ∀ lv, G l D (tysL τ) (LM τ) a iX7 x 224 lv [] (fillM V 13 30 (-1))) : G l D (tysL τ) (LM τ) a iX7 x 200 [(0, .ref o), (1, .long (jN sd)), (3, .int (iN sl))] [] V := by
  subst h0
  refine g_iconst dX7_init_200 ?_
  refine g_istore [(4, .int (iN 0)), (0, .ref (a 0)), (1, .long (jN sd)), (3, .int (iN sl))] dX7_init_201 (by decide) rfl ?_
  have lp : ∀ (fuel : Nat) (i : Nat) (U : Mem), (i ≤ 30) → (U = fillM V 13 i (-1)) → (30 - i) < fuel → G l D (tysL τ) (LM τ) a iX7 x 203 [(4, .int (iN (i : Int))), (0, .ref (a 0)), (1, .long (jN sd)), (3, .int (iN sl))] [] U := by
    intro fuel
    induction fuel with
    | zero => intro i U hi hU hfu; exact absurd hfu (Nat.not_lt_zero _)
    | succ fuel ih =>
      intro i U hi hU hfu
      refine g_iload 0 dX7_init_203 rfl ?_
      refine g_bipush dX7_init_205 rfl ?_
      refine g_icmp_ge 224 dX7_init_207 (by decide) (fun c1 => ?_) (fun c1 => ?_)
      · rw [hU, show i = 30 by omega]
        exact k _
      · refine g_aload_n 1 dX7_init_210 rfl rfl ?_
        refine g_getf 0 (.ref (a 13)) fX7_47 om_0 dX7_init_211 rfl ?_
        refine g_iload 0 dX7_init_214 rfl ?_
        refine g_iconst dX7_init_216 ?_
        refine g_iast 13 i am_13 dX7_init_217 rfl (by omega) ?_
        obtain ⟨V_2, eV_2⟩ : ∃ q, q = up U 13 i (-1) := ⟨_, rfl⟩
        refine g_mem eV_2.symm ?_
        refine g_iinc 0 [(4, .int (iN ((i : Int) + 1))), (0, .ref (a 0)), (1, .long (jN sd)), (3, .int (iN sl))] dX7_init_218 rfl (by decide) rfl ?_
        refine g_goto 203 dX7_init_221 (by decide) ?_
        exact ih (i + 1) V_2 (by omega) (by rw [eV_2, hU, fillM_s]) (by omega)
  exact lp _ 0 V (Nat.zero_le _) fillM_0.symm (Nat.lt_succ_self _)
end S7
set_option maxHeartbeats 8000000 in
set_option maxRecDepth 100000 in
/-- FeederOrdersModel(seed, slots) -/
theorem met_X7_init {l : Launch} {D : va_G} {τ : Nat → ClassId} (o : Nat) (sd sl : Int) (hsl : -2147483648 ≤ sl ∧ sl ≤ 2147483647) : CN l D (tysL τ) (LM τ) (fillM (V7a sd sl) 13 30 (-1)) yX7_init iX7 o [.long (jN sd), .int (iN sl)] (.inr (7, [.int (iN 0), .long (jN 0), .int (iN 0), .int (iN 0), .null, .null, .null, .null, .null, .null, .int (iN 0), .null, .null, .null, .null, .int (iN 0), .null, .null, .int (iN 0), .null, .null, .null, .null, .null, .null, .int (iN 0), .null, .null, .null])) := by
  refine CN.of (by decide +kernel) rfl rfl (Nat.le_of_ble_eq_true rfl) (fun x hq => ?_)
  have z0 := hq.zer
  have z1 := hq.ini
  have z2 := hq.nst
  show G l D (tysL τ) (cE 1 (fun _ _ => .inr (7, [.int (iN 0), .long (jN 0), .int (iN 0), .int (iN 0), .null, .null, .null, .null, .null, .null, .int (iN 0), .null, .null, .null, .null, .int (iN 0), .null, .null, .int (iN 0), .null, .null, .null, .null, .null, .null, .int (iN 0), .null, .null, .null]))) (fun _ => o) iX7 (bmp x 0 0) 0 [(0, .ref o), (1, .long (jN sd)), (3, .int (iN sl))] [] Z0
  refine g_aload_n 0 dX7_init_0 rfl rfl ?_
  refine g_objI oX7 ⟨Nat.le_of_ble_eq_true rfl, Nat.le_of_ble_eq_true rfl⟩ (Nat.le_of_ble_eq_true rfl) dX7_init_1 ?_
  refine g_aload_n 0 dX7_init_4 rfl rfl ?_
  refine g_bipush dX7_init_5 rfl ?_
  refine g_newA (t := 0) (N := 10) (ty := .int) (v := arI (τ 0) 10) z0 rfl (fun C h => by cases h) rfl (tm_1 (List.mem_of_getElem? (i := 61) rfl) rfl) (Nat.le_of_ble_eq_true rfl) (Nat.le_of_ble_eq_true rfl) ⟨_, rfl, rfl⟩ ⟨Nat.le_of_ble_eq_true rfl, Nat.le_of_ble_eq_true rfl⟩ dX7_init_7 (fun q1 => ?_)
  refine g_putE (fs := [.int (iN 0), .long (jN 0), .int (iN 0), .int (iN 0), .null, .null, .null, .null, .null, .null, .int (iN 0), .null, .null, .null, .null, .int (iN 0), .null, .null, .int (iN 0), .null, .null, .null, .null, .null, .null, .int (iN 0), .null, .null, .null]) 0 (.ref q1) z1 nX7_7 (Nat.le_of_ble_eq_true rfl) rfl dX7_init_9 rfl rfl (Nat.le_of_ble_eq_true rfl) ?_
  refine g_aload_n 0 dX7_init_12 rfl rfl ?_
  refine g_bipush dX7_init_13 rfl ?_
  refine g_newA (t := 0) (N := 10) (ty := .int) (v := arI (τ 0) 10) z0 rfl (fun C h => by cases h) rfl (tm_1 (List.mem_of_getElem? (i := 61) rfl) rfl) (Nat.le_of_ble_eq_true rfl) (Nat.le_of_ble_eq_true rfl) ⟨_, rfl, rfl⟩ ⟨Nat.le_of_ble_eq_true rfl, Nat.le_of_ble_eq_true rfl⟩ dX7_init_15 (fun q2 => ?_)
  refine g_putE (fs := [.int (iN 0), .long (jN 0), .int (iN 0), .int (iN 0), .ref q1, .null, .null, .null, .null, .null, .int (iN 0), .null, .null, .null, .null, .int (iN 0), .null, .null, .int (iN 0), .null, .null, .null, .null, .null, .null, .int (iN 0), .null, .null, .null]) 0 (.ref q2) z1 nX7_13 (Nat.le_of_ble_eq_true rfl) rfl dX7_init_17 rfl rfl (Nat.le_of_ble_eq_true rfl) ?_
  refine g_aload_n 0 dX7_init_20 rfl rfl ?_
  refine g_bipush dX7_init_21 rfl ?_
  refine g_newA (t := 0) (N := 10) (ty := .int) (v := arI (τ 0) 10) z0 rfl (fun C h => by cases h) rfl (tm_1 (List.mem_of_getElem? (i := 61) rfl) rfl) (Nat.le_of_ble_eq_true rfl) (Nat.le_of_ble_eq_true rfl) ⟨_, rfl, rfl⟩ ⟨Nat.le_of_ble_eq_true rfl, Nat.le_of_ble_eq_true rfl⟩ dX7_init_23 (fun q3 => ?_)
  refine g_putE (fs := [.int (iN 0), .long (jN 0), .int (iN 0), .int (iN 0), .ref q1, .ref q2, .null, .null, .null, .null, .int (iN 0), .null, .null, .null, .null, .int (iN 0), .null, .null, .int (iN 0), .null, .null, .null, .null, .null, .null, .int (iN 0), .null, .null, .null]) 0 (.ref q3) z1 nX7_16 (Nat.le_of_ble_eq_true rfl) rfl dX7_init_25 rfl rfl (Nat.le_of_ble_eq_true rfl) ?_
  refine g_aload_n 0 dX7_init_28 rfl rfl ?_
  refine g_bipush dX7_init_29 rfl ?_
  refine g_newA (t := 0) (N := 10) (ty := .int) (v := arI (τ 0) 10) z0 rfl (fun C h => by cases h) rfl (tm_1 (List.mem_of_getElem? (i := 61) rfl) rfl) (Nat.le_of_ble_eq_true rfl) (Nat.le_of_ble_eq_true rfl) ⟨_, rfl, rfl⟩ ⟨Nat.le_of_ble_eq_true rfl, Nat.le_of_ble_eq_true rfl⟩ dX7_init_31 (fun q4 => ?_)
  refine g_putE (fs := [.int (iN 0), .long (jN 0), .int (iN 0), .int (iN 0), .ref q1, .ref q2, .ref q3, .null, .null, .null, .int (iN 0), .null, .null, .null, .null, .int (iN 0), .null, .null, .int (iN 0), .null, .null, .null, .null, .null, .null, .int (iN 0), .null, .null, .null]) 0 (.ref q4) z1 nX7_19 (Nat.le_of_ble_eq_true rfl) rfl dX7_init_33 rfl rfl (Nat.le_of_ble_eq_true rfl) ?_
  refine g_aload_n 0 dX7_init_36 rfl rfl ?_
  refine g_bipush dX7_init_37 rfl ?_
  refine g_newA (t := 1) (N := 10) (ty := .long) (v := arL (τ 1) 10) z0 rfl (fun C h => by cases h) rfl (tm_1 (List.mem_of_getElem? (i := 161) rfl) rfl) (Nat.le_of_ble_eq_true rfl) (Nat.le_of_ble_eq_true rfl) ⟨_, rfl, rfl⟩ ⟨Nat.le_of_ble_eq_true rfl, Nat.le_of_ble_eq_true rfl⟩ dX7_init_39 (fun q5 => ?_)
  refine g_putE (fs := [.int (iN 0), .long (jN 0), .int (iN 0), .int (iN 0), .ref q1, .ref q2, .ref q3, .ref q4, .null, .null, .int (iN 0), .null, .null, .null, .null, .int (iN 0), .null, .null, .int (iN 0), .null, .null, .null, .null, .null, .null, .int (iN 0), .null, .null, .null]) 0 (.ref q5) z1 nX7_22 (Nat.le_of_ble_eq_true rfl) rfl dX7_init_41 rfl rfl (Nat.le_of_ble_eq_true rfl) ?_
  refine g_aload_n 0 dX7_init_44 rfl rfl ?_
  refine g_bipush dX7_init_45 rfl ?_
  refine g_newA (t := 1) (N := 10) (ty := .long) (v := arL (τ 1) 10) z0 rfl (fun C h => by cases h) rfl (tm_1 (List.mem_of_getElem? (i := 161) rfl) rfl) (Nat.le_of_ble_eq_true rfl) (Nat.le_of_ble_eq_true rfl) ⟨_, rfl, rfl⟩ ⟨Nat.le_of_ble_eq_true rfl, Nat.le_of_ble_eq_true rfl⟩ dX7_init_47 (fun q6 => ?_)
  refine g_putE (fs := [.int (iN 0), .long (jN 0), .int (iN 0), .int (iN 0), .ref q1, .ref q2, .ref q3, .ref q4, .ref q5, .null, .int (iN 0), .null, .null, .null, .null, .int (iN 0), .null, .null, .int (iN 0), .null, .null, .null, .null, .null, .null, .int (iN 0), .null, .null, .null]) 0 (.ref q6) z1 nX7_26 (Nat.le_of_ble_eq_true rfl) rfl dX7_init_49 rfl rfl (Nat.le_of_ble_eq_true rfl) ?_
  refine g_aload_n 0 dX7_init_52 rfl rfl ?_
  refine g_bipush dX7_init_53 rfl ?_
  refine g_newA (t := 0) (N := 40) (ty := .int) (v := arI (τ 0) 40) z0 rfl (fun C h => by cases h) rfl (tm_1 (List.mem_of_getElem? (i := 61) rfl) rfl) (Nat.le_of_ble_eq_true rfl) (Nat.le_of_ble_eq_true rfl) ⟨_, rfl, rfl⟩ ⟨Nat.le_of_ble_eq_true rfl, Nat.le_of_ble_eq_true rfl⟩ dX7_init_55 (fun q7 => ?_)
  refine g_putE (fs := [.int (iN 0), .long (jN 0), .int (iN 0), .int (iN 0), .ref q1, .ref q2, .ref q3, .ref q4, .ref q5, .ref q6, .int (iN 0), .null, .null, .null, .null, .int (iN 0), .null, .null, .int (iN 0), .null, .null, .null, .null, .null, .null, .int (iN 0), .null, .null, .null]) 0 (.ref q7) z1 nX7_29 (Nat.le_of_ble_eq_true rfl) rfl dX7_init_57 rfl rfl (Nat.le_of_ble_eq_true rfl) ?_
  refine g_aload_n 0 dX7_init_60 rfl rfl ?_
  refine g_bipush dX7_init_61 rfl ?_
  refine g_newA (t := 1) (N := 40) (ty := .long) (v := arL (τ 1) 40) z0 rfl (fun C h => by cases h) rfl (tm_1 (List.mem_of_getElem? (i := 161) rfl) rfl) (Nat.le_of_ble_eq_true rfl) (Nat.le_of_ble_eq_true rfl) ⟨_, rfl, rfl⟩ ⟨Nat.le_of_ble_eq_true rfl, Nat.le_of_ble_eq_true rfl⟩ dX7_init_63 (fun q8 => ?_)
  refine g_putE (fs := [.int (iN 0), .long (jN 0), .int (iN 0), .int (iN 0), .ref q1, .ref q2, .ref q3, .ref q4, .ref q5, .ref q6, .int (iN 0), .ref q7, .null, .null, .null, .int (iN 0), .null, .null, .int (iN 0), .null, .null, .null, .null, .null, .null, .int (iN 0), .null, .null, .null]) 0 (.ref q8) z1 nX7_32 (Nat.le_of_ble_eq_true rfl) rfl dX7_init_65 rfl rfl (Nat.le_of_ble_eq_true rfl) ?_
  refine g_aload_n 0 dX7_init_68 rfl rfl ?_
  refine g_bipush dX7_init_69 rfl ?_
  refine g_newA (t := 1) (N := 40) (ty := .long) (v := arL (τ 1) 40) z0 rfl (fun C h => by cases h) rfl (tm_1 (List.mem_of_getElem? (i := 161) rfl) rfl) (Nat.le_of_ble_eq_true rfl) (Nat.le_of_ble_eq_true rfl) ⟨_, rfl, rfl⟩ ⟨Nat.le_of_ble_eq_true rfl, Nat.le_of_ble_eq_true rfl⟩ dX7_init_71 (fun q9 => ?_)
  refine g_putE (fs := [.int (iN 0), .long (jN 0), .int (iN 0), .int (iN 0), .ref q1, .ref q2, .ref q3, .ref q4, .ref q5, .ref q6, .int (iN 0), .ref q7, .ref q8, .null, .null, .int (iN 0), .null, .null, .int (iN 0), .null, .null, .null, .null, .null, .null, .int (iN 0), .null, .null, .null]) 0 (.ref q9) z1 nX7_35 (Nat.le_of_ble_eq_true rfl) rfl dX7_init_73 rfl rfl (Nat.le_of_ble_eq_true rfl) ?_
  refine g_aload_n 0 dX7_init_76 rfl rfl ?_
  refine g_bipush dX7_init_77 rfl ?_
  refine g_newA (t := 1) (N := 40) (ty := .long) (v := arL (τ 1) 40) z0 rfl (fun C h => by cases h) rfl (tm_1 (List.mem_of_getElem? (i := 161) rfl) rfl) (Nat.le_of_ble_eq_true rfl) (Nat.le_of_ble_eq_true rfl) ⟨_, rfl, rfl⟩ ⟨Nat.le_of_ble_eq_true rfl, Nat.le_of_ble_eq_true rfl⟩ dX7_init_79 (fun q10 => ?_)
  refine g_putE (fs := [.int (iN 0), .long (jN 0), .int (iN 0), .int (iN 0), .ref q1, .ref q2, .ref q3, .ref q4, .ref q5, .ref q6, .int (iN 0), .ref q7, .ref q8, .ref q9, .null, .int (iN 0), .null, .null, .int (iN 0), .null, .null, .null, .null, .null, .null, .int (iN 0), .null, .null, .null]) 0 (.ref q10) z1 nX7_38 (Nat.le_of_ble_eq_true rfl) rfl dX7_init_81 rfl rfl (Nat.le_of_ble_eq_true rfl) ?_
  refine g_aload_n 0 dX7_init_84 rfl rfl ?_
  refine g_iconst dX7_init_85 ?_
  refine g_newA (t := 0) (N := 3) (ty := .int) (v := arI (τ 0) 3) z0 rfl (fun C h => by cases h) rfl (tm_1 (List.mem_of_getElem? (i := 61) rfl) rfl) (Nat.le_of_ble_eq_true rfl) (Nat.le_of_ble_eq_true rfl) ⟨_, rfl, rfl⟩ ⟨Nat.le_of_ble_eq_true rfl, Nat.le_of_ble_eq_true rfl⟩ dX7_init_86 (fun q11 => ?_)
  refine g_putE (fs := [.int (iN 0), .long (jN 0), .int (iN 0), .int (iN 0), .ref q1, .ref q2, .ref q3, .ref q4, .ref q5, .ref q6, .int (iN 0), .ref q7, .ref q8, .ref q9, .ref q10, .int (iN 0), .null, .null, .int (iN 0), .null, .null, .null, .null, .null, .null, .int (iN 0), .null, .null, .null]) 0 (.ref q11) z1 nX7_41 (Nat.le_of_ble_eq_true rfl) rfl dX7_init_88 rfl rfl (Nat.le_of_ble_eq_true rfl) ?_
  refine g_aload_n 0 dX7_init_91 rfl rfl ?_
  refine g_iconst dX7_init_92 ?_
  refine g_newA (t := 0) (N := 3) (ty := .int) (v := arI (τ 0) 3) z0 rfl (fun C h => by cases h) rfl (tm_1 (List.mem_of_getElem? (i := 61) rfl) rfl) (Nat.le_of_ble_eq_true rfl) (Nat.le_of_ble_eq_true rfl) ⟨_, rfl, rfl⟩ ⟨Nat.le_of_ble_eq_true rfl, Nat.le_of_ble_eq_true rfl⟩ dX7_init_93 (fun q12 => ?_)
  refine g_putE (fs := [.int (iN 0), .long (jN 0), .int (iN 0), .int (iN 0), .ref q1, .ref q2, .ref q3, .ref q4, .ref q5, .ref q6, .int (iN 0), .ref q7, .ref q8, .ref q9, .ref q10, .int (iN 0), .ref q11, .null, .int (iN 0), .null, .null, .null, .null, .null, .null, .int (iN 0), .null, .null, .null]) 0 (.ref q12) z1 nX7_44 (Nat.le_of_ble_eq_true rfl) rfl dX7_init_95 rfl rfl (Nat.le_of_ble_eq_true rfl) ?_
  refine g_aload_n 0 dX7_init_98 rfl rfl ?_
  refine g_bipush dX7_init_99 rfl ?_
  refine g_newA (t := 0) (N := 30) (ty := .int) (v := arI (τ 0) 30) z0 rfl (fun C h => by cases h) rfl (tm_1 (List.mem_of_getElem? (i := 61) rfl) rfl) (Nat.le_of_ble_eq_true rfl) (Nat.le_of_ble_eq_true rfl) ⟨_, rfl, rfl⟩ ⟨Nat.le_of_ble_eq_true rfl, Nat.le_of_ble_eq_true rfl⟩ dX7_init_101 (fun q13 => ?_)
  refine g_putE (fs := [.int (iN 0), .long (jN 0), .int (iN 0), .int (iN 0), .ref q1, .ref q2, .ref q3, .ref q4, .ref q5, .ref q6, .int (iN 0), .ref q7, .ref q8, .ref q9, .ref q10, .int (iN 0), .ref q11, .ref q12, .int (iN 0), .null, .null, .null, .null, .null, .null, .int (iN 0), .null, .null, .null]) 0 (.ref q13) z1 nX7_47 (Nat.le_of_ble_eq_true rfl) rfl dX7_init_103 rfl rfl (Nat.le_of_ble_eq_true rfl) ?_
  refine g_aload_n 0 dX7_init_106 rfl rfl ?_
  refine g_iconst dX7_init_107 ?_
  refine g_newA (t := 0) (N := 3) (ty := .int) (v := arI (τ 0) 3) z0 rfl (fun C h => by cases h) rfl (tm_1 (List.mem_of_getElem? (i := 61) rfl) rfl) (Nat.le_of_ble_eq_true rfl) (Nat.le_of_ble_eq_true rfl) ⟨_, rfl, rfl⟩ ⟨Nat.le_of_ble_eq_true rfl, Nat.le_of_ble_eq_true rfl⟩ dX7_init_108 (fun q14 => ?_)
  refine g_putE (fs := [.int (iN 0), .long (jN 0), .int (iN 0), .int (iN 0), .ref q1, .ref q2, .ref q3, .ref q4, .ref q5, .ref q6, .int (iN 0), .ref q7, .ref q8, .ref q9, .ref q10, .int (iN 0), .ref q11, .ref q12, .int (iN 0), .ref q13, .null, .null, .null, .null, .null, .int (iN 0), .null, .null, .null]) 0 (.ref q14) z1 nX7_50 (Nat.le_of_ble_eq_true rfl) rfl dX7_init_110 rfl rfl (Nat.le_of_ble_eq_true rfl) ?_
  refine g_aload_n 0 dX7_init_113 rfl rfl ?_
  refine g_bipush dX7_init_114 rfl ?_
  refine g_newA (t := 0) (N := 120) (ty := .int) (v := arI (τ 0) 120) z0 rfl (fun C h => by cases h) rfl (tm_1 (List.mem_of_getElem? (i := 61) rfl) rfl) (Nat.le_of_ble_eq_true rfl) (Nat.le_of_ble_eq_true rfl) ⟨_, rfl, rfl⟩ ⟨Nat.le_of_ble_eq_true rfl, Nat.le_of_ble_eq_true rfl⟩ dX7_init_116 (fun q15 => ?_)
  refine g_putE (fs := [.int (iN 0), .long (jN 0), .int (iN 0), .int (iN 0), .ref q1, .ref q2, .ref q3, .ref q4, .ref q5, .ref q6, .int (iN 0), .ref q7, .ref q8, .ref q9, .ref q10, .int (iN 0), .ref q11, .ref q12, .int (iN 0), .ref q13, .ref q14, .null, .null, .null, .null, .int (iN 0), .null, .null, .null]) 0 (.ref q15) z1 nX7_53 (Nat.le_of_ble_eq_true rfl) rfl dX7_init_118 rfl rfl (Nat.le_of_ble_eq_true rfl) ?_
  refine g_aload_n 0 dX7_init_121 rfl rfl ?_
  refine g_bipush dX7_init_122 rfl ?_
  refine g_newA (t := 0) (N := 10) (ty := .int) (v := arI (τ 0) 10) z0 rfl (fun C h => by cases h) rfl (tm_1 (List.mem_of_getElem? (i := 61) rfl) rfl) (Nat.le_of_ble_eq_true rfl) (Nat.le_of_ble_eq_true rfl) ⟨_, rfl, rfl⟩ ⟨Nat.le_of_ble_eq_true rfl, Nat.le_of_ble_eq_true rfl⟩ dX7_init_124 (fun q16 => ?_)
  refine g_putE (fs := [.int (iN 0), .long (jN 0), .int (iN 0), .int (iN 0), .ref q1, .ref q2, .ref q3, .ref q4, .ref q5, .ref q6, .int (iN 0), .ref q7, .ref q8, .ref q9, .ref q10, .int (iN 0), .ref q11, .ref q12, .int (iN 0), .ref q13, .ref q14, .ref q15, .null, .null, .null, .int (iN 0), .null, .null, .null]) 0 (.ref q16) z1 nX7_56 (Nat.le_of_ble_eq_true rfl) rfl dX7_init_126 rfl rfl (Nat.le_of_ble_eq_true rfl) ?_
  refine g_aload_n 0 dX7_init_129 rfl rfl ?_
  refine g_bipush dX7_init_130 rfl ?_
  refine g_newA (t := 0) (N := 10) (ty := .int) (v := arI (τ 0) 10) z0 rfl (fun C h => by cases h) rfl (tm_1 (List.mem_of_getElem? (i := 61) rfl) rfl) (Nat.le_of_ble_eq_true rfl) (Nat.le_of_ble_eq_true rfl) ⟨_, rfl, rfl⟩ ⟨Nat.le_of_ble_eq_true rfl, Nat.le_of_ble_eq_true rfl⟩ dX7_init_132 (fun q17 => ?_)
  refine g_putE (fs := [.int (iN 0), .long (jN 0), .int (iN 0), .int (iN 0), .ref q1, .ref q2, .ref q3, .ref q4, .ref q5, .ref q6, .int (iN 0), .ref q7, .ref q8, .ref q9, .ref q10, .int (iN 0), .ref q11, .ref q12, .int (iN 0), .ref q13, .ref q14, .ref q15, .ref q16, .null, .null, .int (iN 0), .null, .null, .null]) 0 (.ref q17) z1 nX7_59 (Nat.le_of_ble_eq_true rfl) rfl dX7_init_134 rfl rfl (Nat.le_of_ble_eq_true rfl) ?_
  refine g_aload_n 0 dX7_init_137 rfl rfl ?_
  refine g_bipush dX7_init_138 rfl ?_
  refine g_newA (t := 2) (N := 120) (ty := .boolean) (v := arI (τ 2) 120) z0 rfl (fun C h => by cases h) rfl (tm_4 (List.mem_of_getElem? (i := 62) rfl) rfl) (Nat.le_of_ble_eq_true rfl) (Nat.le_of_ble_eq_true rfl) ⟨_, rfl, rfl⟩ ⟨Nat.le_of_ble_eq_true rfl, Nat.le_of_ble_eq_true rfl⟩ dX7_init_140 (fun q18 => ?_)
  refine g_putE (fs := [.int (iN 0), .long (jN 0), .int (iN 0), .int (iN 0), .ref q1, .ref q2, .ref q3, .ref q4, .ref q5, .ref q6, .int (iN 0), .ref q7, .ref q8, .ref q9, .ref q10, .int (iN 0), .ref q11, .ref q12, .int (iN 0), .ref q13, .ref q14, .ref q15, .ref q16, .ref q17, .null, .int (iN 0), .null, .null, .null]) 0 (.ref q18) z1 nX7_62 (Nat.le_of_ble_eq_true rfl) rfl dX7_init_142 rfl rfl (Nat.le_of_ble_eq_true rfl) ?_
  refine g_aload_n 0 dX7_init_145 rfl rfl ?_
  refine g_bipush dX7_init_146 rfl ?_
  refine g_newA (t := 0) (N := 6) (ty := .int) (v := arI (τ 0) 6) z0 rfl (fun C h => by cases h) rfl (tm_1 (List.mem_of_getElem? (i := 61) rfl) rfl) (Nat.le_of_ble_eq_true rfl) (Nat.le_of_ble_eq_true rfl) ⟨_, rfl, rfl⟩ ⟨Nat.le_of_ble_eq_true rfl, Nat.le_of_ble_eq_true rfl⟩ dX7_init_148 (fun q19 => ?_)
  refine g_putE (fs := [.int (iN 0), .long (jN 0), .int (iN 0), .int (iN 0), .ref q1, .ref q2, .ref q3, .ref q4, .ref q5, .ref q6, .int (iN 0), .ref q7, .ref q8, .ref q9, .ref q10, .int (iN 0), .ref q11, .ref q12, .int (iN 0), .ref q13, .ref q14, .ref q15, .ref q16, .ref q17, .ref q18, .int (iN 0), .null, .null, .null]) 0 (.ref q19) z1 nX7_66 (Nat.le_of_ble_eq_true rfl) rfl dX7_init_150 rfl rfl (Nat.le_of_ble_eq_true rfl) ?_
  refine g_aload_n 0 dX7_init_153 rfl rfl ?_
  refine g_sipush dX7_init_154 rfl ?_
  refine g_newA (t := 1) (N := 384) (ty := .long) (v := arL (τ 1) 384) z0 rfl (fun C h => by cases h) rfl (tm_1 (List.mem_of_getElem? (i := 161) rfl) rfl) (Nat.le_of_ble_eq_true rfl) (Nat.le_of_ble_eq_true rfl) ⟨_, rfl, rfl⟩ ⟨Nat.le_of_ble_eq_true rfl, Nat.le_of_ble_eq_true rfl⟩ dX7_init_157 (fun q20 => ?_)
  refine g_putE (fs := [.int (iN 0), .long (jN 0), .int (iN 0), .int (iN 0), .ref q1, .ref q2, .ref q3, .ref q4, .ref q5, .ref q6, .int (iN 0), .ref q7, .ref q8, .ref q9, .ref q10, .int (iN 0), .ref q11, .ref q12, .int (iN 0), .ref q13, .ref q14, .ref q15, .ref q16, .ref q17, .ref q18, .int (iN 0), .ref q19, .null, .null]) 0 (.ref q20) z1 nX7_69 (Nat.le_of_ble_eq_true rfl) rfl dX7_init_159 rfl rfl (Nat.le_of_ble_eq_true rfl) ?_
  refine g_aload_n 0 dX7_init_162 rfl rfl ?_
  refine g_bipush dX7_init_163 rfl ?_
  refine g_newA (t := 0) (N := 40) (ty := .int) (v := arI (τ 0) 40) z0 rfl (fun C h => by cases h) rfl (tm_1 (List.mem_of_getElem? (i := 61) rfl) rfl) (Nat.le_of_ble_eq_true rfl) (Nat.le_of_ble_eq_true rfl) ⟨_, rfl, rfl⟩ ⟨Nat.le_of_ble_eq_true rfl, Nat.le_of_ble_eq_true rfl⟩ dX7_init_165 (fun q21 => ?_)
  refine g_putE (fs := [.int (iN 0), .long (jN 0), .int (iN 0), .int (iN 0), .ref q1, .ref q2, .ref q3, .ref q4, .ref q5, .ref q6, .int (iN 0), .ref q7, .ref q8, .ref q9, .ref q10, .int (iN 0), .ref q11, .ref q12, .int (iN 0), .ref q13, .ref q14, .ref q15, .ref q16, .ref q17, .ref q18, .int (iN 0), .ref q19, .ref q20, .null]) 0 (.ref q21) z1 nX7_72 (Nat.le_of_ble_eq_true rfl) rfl dX7_init_167 rfl rfl (Nat.le_of_ble_eq_true rfl) ?_
  refine g_aload_n 0 dX7_init_170 rfl rfl ?_
  refine g_lload_n 1 dX7_init_171 rfl rfl ?_
  refine g_putE (fs := [.int (iN 0), .long (jN 0), .int (iN 0), .int (iN 0), .ref q1, .ref q2, .ref q3, .ref q4, .ref q5, .ref q6, .int (iN 0), .ref q7, .ref q8, .ref q9, .ref q10, .int (iN 0), .ref q11, .ref q12, .int (iN 0), .ref q13, .ref q14, .ref q15, .ref q16, .ref q17, .ref q18, .int (iN 0), .ref q19, .ref q20, .ref q21]) 0 (.long (jN sd)) z1 nX7_75 (Nat.le_of_ble_eq_true rfl) rfl dX7_init_172 rfl rfl (Nat.le_of_ble_eq_true rfl) ?_
  refine g_aload_n 0 dX7_init_175 rfl rfl ?_
  refine seg7 hsl ?_
  refine g_putE (fs := [.int (iN 0), .long (jN sd), .int (iN 0), .int (iN 0), .ref q1, .ref q2, .ref q3, .ref q4, .ref q5, .ref q6, .int (iN 0), .ref q7, .ref q8, .ref q9, .ref q10, .int (iN 0), .ref q11, .ref q12, .int (iN 0), .ref q13, .ref q14, .ref q15, .ref q16, .ref q17, .ref q18, .int (iN 0), .ref q19, .ref q20, .ref q21]) 0 (.int (iN (max 1 (min 120 sl)))) z1 nX7_79 (Nat.le_of_ble_eq_true rfl) rfl dX7_init_197 rfl rfl (Nat.le_of_ble_eq_true rfl) ?_
  refine g_lay (L' := LM τ) (V' := V7a sd sl) rfl ?_ (seg7l rfl (fun lv => g_retL hq ⟨rfl, rfl⟩ (Nat.le_of_ble_eq_true rfl) rfl rfl rfl dX7_init_224))
  intro k hk
  by_cases e0 : k = 0
  · subst e0; rfl
  by_cases e1 : k = 1
  · subst e1; rfl
  by_cases e2 : k = 2
  · subst e2; rfl
  by_cases e3 : k = 3
  · subst e3; rfl
  by_cases e4 : k = 4
  · subst e4; rfl
  by_cases e5 : k = 5
  · subst e5; rfl
  by_cases e6 : k = 6
  · subst e6; rfl
  by_cases e7 : k = 7
  · subst e7; rfl
  by_cases e8 : k = 8
  · subst e8; rfl
  by_cases e9 : k = 9
  · subst e9; rfl
  by_cases e10 : k = 10
  · subst e10; rfl
  by_cases e11 : k = 11
  · subst e11; rfl
  by_cases e12 : k = 12
  · subst e12; rfl
  by_cases e13 : k = 13
  · subst e13; rfl
  by_cases e14 : k = 14
  · subst e14; rfl
  by_cases e15 : k = 15
  · subst e15; rfl
  by_cases e16 : k = 16
  · subst e16; rfl
  by_cases e17 : k = 17
  · subst e17; rfl
  by_cases e18 : k = 18
  · subst e18; rfl
  by_cases e19 : k = 19
  · subst e19; rfl
  by_cases e20 : k = 20
  · subst e20; rfl
  by_cases e21 : k = 21
  · subst e21; rfl
  have hk1 : k < 22 := hk
  omega
