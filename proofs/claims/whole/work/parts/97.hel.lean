/-! the law's helpers -/
def LL (τ : Nat → ClassId) : Lay := (144, fun a k r => if k < 121 then shX τ a k r else if k < 143 then shM τ (fun i => a (121 + i)) (k - 121) r else arL (τ 1) 1 r)
def mem3 (V W : Mem) (z : Int) : Mem := fun k => if k < 121 then V k else if k < 143 then W (k - 121) else if k = 143 then rw0 z else fun _ => 0
theorem emb_X {τ : Nat → ClassId} {a : Nat → Nat} {V W : Mem} {z : Int} : Emb (LL τ) a (mem3 V W z) (LX τ) a V 0 := by
  refine ⟨by show 0 + 121 ≤ 144; omega, fun i hi => ?_⟩
  have hi : i < 121 := hi
  rw [Nat.zero_add]
  exact ⟨rfl, if_pos hi, fun r => if_pos hi⟩
theorem emb_M {τ : Nat → ClassId} {a : Nat → Nat} {V W : Mem} {z : Int} : Emb (LL τ) a (mem3 V W z) (LM τ) (fun i => a (121 + i)) W 121 := by
  refine ⟨by show 121 + 22 ≤ 144; omega, fun i hi => ?_⟩
  have hi : i < 22 := hi
  refine ⟨rfl, ?_, fun r => ?_⟩
  · unfold mem3
    rw [if_neg (by omega), if_pos (by omega), show 121 + i - 121 = i by omega]
  · show (if 121 + i < 121 then shX τ a (121 + i) r else if 121 + i < 143 then shM τ (fun i => a (121 + i)) (121 + i - 121) r else arL (τ 1) 1 r) = shM τ (fun i => a (121 + i)) i r
    rw [if_neg (by omega), if_pos (by omega), show 121 + i - 121 = i by omega]
theorem put_X {τ : Nat → ClassId} {V W V' : Mem} {z : Int} : putM (mem3 V W z) 0 (LX τ).1 V' = mem3 V' W z := funext fun k => by
  show (if 0 ≤ k ∧ k < 0 + 121 then V' (k - 0) else mem3 V W z k) = mem3 V' W z k
  unfold mem3
  by_cases c : k < 121
  · rw [if_pos ⟨by omega, by omega⟩, if_pos c]; rfl
  · rw [if_neg (by omega), if_neg c, if_neg c]
theorem put_M {τ : Nat → ClassId} {V W W' : Mem} {z : Int} : putM (mem3 V W z) 121 (LM τ).1 W' = mem3 V W' z := funext fun k => by
  show (if 121 ≤ k ∧ k < 121 + 22 then W' (k - 121) else mem3 V W z k) = mem3 V W' z k
  unfold mem3
  by_cases c : k < 121
  · rw [if_neg (by omega), if_pos c, if_pos c]
  · rw [if_neg c, if_neg c]
    by_cases c2 : k < 143
    · rw [if_pos ⟨by omega, by omega⟩, if_pos c2]
    · rw [if_neg (by omega), if_neg c2, if_neg c2]
theorem up_out {V W : Mem} {z v : Int} : up (mem3 V W z) 143 0 v = mem3 V W v := funext fun k => funext fun j => by
  unfold up mem3
  by_cases c : k = 143 ∧ j = 0
  · rw [if_pos c, c.1, c.2, if_neg (by omega), if_neg (by omega)]; rfl
  · rw [if_neg c]
    by_cases c1 : k < 121
    · rw [if_pos c1, if_pos c1]
    · rw [if_neg c1, if_neg c1]
      by_cases c2 : k < 143
      · rw [if_pos c2, if_pos c2]
      · rw [if_neg c2, if_neg c2]
        by_cases c3 : k = 143
        · rw [if_pos c3, if_pos c3]
          unfold rw0
          rw [if_neg (fun h => c ⟨c3, h⟩), if_neg (fun h => c ⟨c3, h⟩)]
        · rw [if_neg c3, if_neg c3]
theorem al_143 {τ : Nat → ClassId} {a : Nat → Nat} : ArL (LL τ) a (tysL τ) 143 1 := ⟨by show 143 < 144; omega, by omega, τ 1, 1, rfl, fun r => rfl⟩
theorem ap_X {τ : Nat → ClassId} {a : Nat → Nat} (h : Apart (LL τ) a) : Apart (LX τ) a := fun i j hi hj => h i j (by have : i < 121 := hi; show i < 144; omega) (by have : j < 121 := hj; show j < 144; omega)
theorem ap_M {τ : Nat → ClassId} {a : Nat → Nat} (h : Apart (LL τ) a) : Apart (LM τ) (fun i => a (121 + i)) := fun i j hi hj e => by
  have hi : i < 22 := hi
  have hj : j < 22 := hj
  have := h (121 + i) (121 + j) (by show 121 + i < 144; omega) (by show 121 + j < 144; omega) e
  omega
/-- the int behind -/
def cz (z : Int) : Int := (iN z).toInt
theorem cz_in (z : Int) : -2147483648 ≤ cz z ∧ cz z ≤ 2147483647 := by
  unfold cz
  have h1 := (iN z).le_toInt
  have h2 := (iN z).toInt_lt
  omega
theorem cz_eq (z : Int) : iN (cz z) = iN z := Int32.ofInt_toInt _
theorem g_canon {l : Launch} {D : va_G} {tys : List (ClassId × FieldType)} {L : Lay} {a : Nat → Nat} {M : MInf} {x : Ctx} {pc : Nat} {lv : List (Nat × Value)} {st : List Value} {V : Mem} {z : Int} (k : G l D tys L a M x pc lv (.int (iN (cz z)) :: st) V) : G l D tys L a M x pc lv (.int (iN z) :: st) V := by
  rw [cz_eq] at k
  exact k
abbrev cL_kind : ByteArray := method_3_code
def yL_kind : MethodName := ⟨RL, "kind", "(LFeederOrders;II[J)I"⟩
abbrev hhL_kind : HH := [(0, 10, 13, 13)]
abbrev iL_kind : MInf := (cL_kind, 5, RL, some .int, { frames := 10, cells := 1, slots := 6, locals := 260 })
theorem dL_kind_0 : decode cL_kind 0 = .ok (.aload_n 3, 1) := by decide +kernel
theorem dL_kind_1 : decode cL_kind 1 = .ok (.iconst 0, 1) := by decide +kernel
theorem dL_kind_2 : decode cL_kind 2 = .ok (.aload_n 0, 1) := by decide +kernel
theorem dL_kind_3 : decode cL_kind 3 = .ok (.iload_n 1, 1) := by decide +kernel
theorem dL_kind_4 : decode cL_kind 4 = .ok (.iload_n 2, 1) := by decide +kernel
theorem dL_kind_5 : decode cL_kind 5 = .ok (.invokevirtual 7, 3) := by decide +kernel
theorem dL_kind_8 : decode cL_kind 8 = .ok (.i2l, 1) := by decide +kernel
theorem dL_kind_9 : decode cL_kind 9 = .ok (.lastore, 1) := by decide +kernel
theorem dL_kind_10 : decode cL_kind 10 = .ok (.goto 7, 3) := by decide +kernel
theorem dL_kind_13 : decode cL_kind 13 = .ok (.astore 4, 2) := by decide +kernel
theorem dL_kind_15 : decode cL_kind 15 = .ok (.iconst 1, 1) := by decide +kernel
theorem dL_kind_16 : decode cL_kind 16 = .ok (.ireturn, 1) := by decide +kernel
theorem dL_kind_17 : decode cL_kind 17 = .ok (.iconst 0, 1) := by decide +kernel
theorem dL_kind_18 : decode cL_kind 18 = .ok (.ireturn, 1) := by decide +kernel
theorem vL_kind_n : LkV RL 7 yX6_kind nX6_kind 2 := ⟨tm_2 (List.mem_of_getElem? (i := 41) rfl) rfl, tm_2 (List.mem_of_getElem? (i := 42) rfl) rfl, tm_2 (List.mem_of_getElem? (i := 43) rfl) rfl, tm_1 (List.mem_of_getElem? (i := 1) rfl) rfl, tm_2 (List.mem_of_getElem? (i := 44) rfl) rfl, by decide +kernel, by decide +kernel, by decide +kernel⟩
theorem vL_kind_m : LkV RL 7 yX6_kind mX6_kind 2 := ⟨tm_2 (List.mem_of_getElem? (i := 41) rfl) rfl, tm_2 (List.mem_of_getElem? (i := 42) rfl) rfl, tm_2 (List.mem_of_getElem? (i := 43) rfl) rfl, tm_1 (List.mem_of_getElem? (i := 1) rfl) rfl, tm_2 (List.mem_of_getElem? (i := 44) rfl) rfl, by decide +kernel, by decide +kernel, by decide +kernel⟩
set_option maxHeartbeats 4000000 in
theorem hel_kind {l : Launch} {D : va_G} {τ : Nat → ClassId} {a : Nat → Nat} (ha : Apart (LL τ) a) {V W : Mem} {z : Int} (p1 p2 : Int) {post : Int → Mem → Prop} (hM : CI l D (tysL τ) (LX τ) a yX6_kind nX6_kind [.ref (a 0), .int (iN p1), .int (iN p2)] V post) : CH l D (tysL τ) (LL τ) a yL_kind iL_kind hhL_kind [.ref (a 0), .int (iN p1), .int (iN p2), .ref (a 143)] (mem3 V W z) (fun r U => r = 0 ∧ ∃ z1 V1, post z1 V1 ∧ U = mem3 V1 W (cz z1)) := by
  refine CH.of (by decide +kernel) rfl (Nat.le_of_ble_eq_true rfl) ha (fun x hq => ?_)
  show G l D (tysL τ) (LL τ) a iL_kind (bmp x 0 0) 0 [(0, .ref (a 0)), (1, .int (iN p1)), (2, .int (iN p2)), (3, .ref (a 143))] [] (mem3 V W z)
  refine g_aload_n 3 dL_kind_0 rfl rfl ?_
  refine g_iconst dL_kind_1 ?_
  refine g_aload_n 0 dL_kind_2 rfl rfl ?_
  refine g_iload_n 1 dL_kind_3 rfl rfl ?_
  refine g_iload_n 2 dL_kind_4 rfl rfl ?_
  refine g_embI (k := 0) [.int (iN p1), .int (iN p2)] emb_X hM vL_kind_n ox_0 rfl rfl ⟨rfl, rfl, by decide, by decide⟩ rfl (Nat.le_of_ble_eq_true rfl) dL_kind_5 rfl (fun z1 V1 h1 => ?_)
  rw [put_X]
  refine g_canon ?_
  refine g_i2l dL_kind_8 (cz_in z1) ?_
  refine g_last 143 0 al_143 dL_kind_9 rfl (by decide) ?_
  rw [up_out]
  refine g_goto 17 dL_kind_10 (by decide) ?_
  refine g_iconst dL_kind_17 ?_
  exact g_iretH hq ⟨by decide, by decide⟩ rfl dL_kind_18 ⟨rfl, z1, V1, h1, rfl⟩
theorem ctL_kind_IA : Ctch hhL_kind 5 13 xIA := ⟨[], [], 0, 10, 13, rfl, by decide, by decide, by decide, tm_2 (List.mem_of_getElem? (i := 40) rfl) rfl, Or.inl rfl, (fun q hq => absurd hq List.not_mem_nil)⟩
set_option maxHeartbeats 4000000 in
theorem hel_kind_IA {l : Launch} {D : va_G} {τ : Nat → ClassId} {a : Nat → Nat} (ha : Apart (LL τ) a) {V W : Mem} {z : Int} (p1 p2 : Int) (hM : CT l D (tysL τ) (LX τ) a yX6_kind mX6_kind [.ref (a 0), .int (iN p1), .int (iN p2)] V xIA) : CH l D (tysL τ) (LL τ) a yL_kind iL_kind hhL_kind [.ref (a 0), .int (iN p1), .int (iN p2), .ref (a 143)] (mem3 V W z) (fun r U => r = 1 ∧ U = mem3 V W z) := by
  refine CH.of (by decide +kernel) rfl (Nat.le_of_ble_eq_true rfl) ha (fun x hq => ?_)
  show G l D (tysL τ) (LL τ) a iL_kind (bmp x 0 0) 0 [(0, .ref (a 0)), (1, .int (iN p1)), (2, .int (iN p2)), (3, .ref (a 143))] [] (mem3 V W z)
  refine g_aload_n 3 dL_kind_0 rfl rfl ?_
  refine g_iconst dL_kind_1 ?_
  refine g_aload_n 0 dL_kind_2 rfl rfl ?_
  refine g_iload_n 1 dL_kind_3 rfl rfl ?_
  refine g_iload_n 2 dL_kind_4 rfl rfl ?_
  refine g_embT (k := 0) [.int (iN p1), .int (iN p2)] hq emb_X hM vL_kind_m rfl ox_0 rfl rfl ⟨by decide, by decide, rfl, rfl, rfl, rfl⟩ ctL_kind_IA rfl (Nat.le_of_ble_eq_true rfl) dL_kind_5 rfl (fun q => ?_)
  refine g_astore [(4, .ref q), (0, .ref (a 0)), (1, .int (iN p1)), (2, .int (iN p2)), (3, .ref (a 143))] dL_kind_13 (by decide) rfl ?_
  refine g_iconst dL_kind_15 ?_
  exact g_iretH hq ⟨by decide, by decide⟩ rfl dL_kind_16 ⟨rfl, rfl⟩
theorem wL_kind : LkH RL 76 yL_kind iL_kind hhL_kind 4 := ⟨tm_2 (List.mem_of_getElem? (i := 37) rfl) rfl, tm_2 (List.mem_of_getElem? (i := 38) rfl) rfl, tm_1 (List.mem_of_getElem? (i := 0) rfl) rfl, tm_2 (List.mem_of_getElem? (i := 39) rfl) rfl, by decide +kernel, by decide +kernel, by decide +kernel⟩
abbrev cL_part : ByteArray := method_4_code
def yL_part : MethodName := ⟨RL, "part", "(LFeederOrders;IJJJ[J)I"⟩
abbrev hhL_part : HH := [(0, 15, 18, 19), (0, 15, 22, 13)]
abbrev iL_part : MInf := (cL_part, 10, RL, some .int, { frames := 10, cells := 1, slots := 6, locals := 260 })
theorem dL_part_0 : decode cL_part 0 = .ok (.aload 8, 2) := by decide +kernel
theorem dL_part_2 : decode cL_part 2 = .ok (.iconst 0, 1) := by decide +kernel
theorem dL_part_3 : decode cL_part 3 = .ok (.aload_n 0, 1) := by decide +kernel
theorem dL_part_4 : decode cL_part 4 = .ok (.iload_n 1, 1) := by decide +kernel
theorem dL_part_5 : decode cL_part 5 = .ok (.lload_n 2, 1) := by decide +kernel
theorem dL_part_6 : decode cL_part 6 = .ok (.lload 4, 2) := by decide +kernel
theorem dL_part_8 : decode cL_part 8 = .ok (.lload 6, 2) := by decide +kernel
theorem dL_part_10 : decode cL_part 10 = .ok (.invokevirtual 15, 3) := by decide +kernel
theorem dL_part_13 : decode cL_part 13 = .ok (.i2l, 1) := by decide +kernel
theorem dL_part_14 : decode cL_part 14 = .ok (.lastore, 1) := by decide +kernel
theorem dL_part_15 : decode cL_part 15 = .ok (.goto 11, 3) := by decide +kernel
theorem dL_part_18 : decode cL_part 18 = .ok (.astore 9, 2) := by decide +kernel
theorem dL_part_20 : decode cL_part 20 = .ok (.iconst 1, 1) := by decide +kernel
theorem dL_part_21 : decode cL_part 21 = .ok (.ireturn, 1) := by decide +kernel
theorem dL_part_22 : decode cL_part 22 = .ok (.astore 9, 2) := by decide +kernel
theorem dL_part_24 : decode cL_part 24 = .ok (.iconst 2, 1) := by decide +kernel
theorem dL_part_25 : decode cL_part 25 = .ok (.ireturn, 1) := by decide +kernel
theorem dL_part_26 : decode cL_part 26 = .ok (.iconst 0, 1) := by decide +kernel
theorem dL_part_27 : decode cL_part 27 = .ok (.ireturn, 1) := by decide +kernel
theorem vL_part_n : LkV RL 15 yX6_part nX6_part 4 := ⟨tm_2 (List.mem_of_getElem? (i := 121) rfl) rfl, tm_2 (List.mem_of_getElem? (i := 122) rfl) rfl, tm_2 (List.mem_of_getElem? (i := 123) rfl) rfl, tm_1 (List.mem_of_getElem? (i := 1) rfl) rfl, tm_2 (List.mem_of_getElem? (i := 124) rfl) rfl, by decide +kernel, by decide +kernel, by decide +kernel⟩
theorem vL_part_m : LkV RL 15 yX6_part mX6_part 4 := ⟨tm_2 (List.mem_of_getElem? (i := 121) rfl) rfl, tm_2 (List.mem_of_getElem? (i := 122) rfl) rfl, tm_2 (List.mem_of_getElem? (i := 123) rfl) rfl, tm_1 (List.mem_of_getElem? (i := 1) rfl) rfl, tm_2 (List.mem_of_getElem? (i := 124) rfl) rfl, by decide +kernel, by decide +kernel, by decide +kernel⟩
set_option maxHeartbeats 4000000 in
theorem hel_part {l : Launch} {D : va_G} {τ : Nat → ClassId} {a : Nat → Nat} (ha : Apart (LL τ) a) {V W : Mem} {z : Int} (p1 p2 p3 p4 : Int) {post : Int → Mem → Prop} (hM : CI l D (tysL τ) (LX τ) a yX6_part nX6_part [.ref (a 0), .int (iN p1), .long (jN p2), .long (jN p3), .long (jN p4)] V post) : CH l D (tysL τ) (LL τ) a yL_part iL_part hhL_part [.ref (a 0), .int (iN p1), .long (jN p2), .long (jN p3), .long (jN p4), .ref (a 143)] (mem3 V W z) (fun r U => r = 0 ∧ ∃ z1 V1, post z1 V1 ∧ U = mem3 V1 W (cz z1)) := by
  refine CH.of (by decide +kernel) rfl (Nat.le_of_ble_eq_true rfl) ha (fun x hq => ?_)
  show G l D (tysL τ) (LL τ) a iL_part (bmp x 0 0) 0 [(0, .ref (a 0)), (1, .int (iN p1)), (2, .long (jN p2)), (4, .long (jN p3)), (6, .long (jN p4)), (8, .ref (a 143))] [] (mem3 V W z)
  refine g_aload 5 dL_part_0 rfl ?_
  refine g_iconst dL_part_2 ?_
  refine g_aload_n 0 dL_part_3 rfl rfl ?_
  refine g_iload_n 1 dL_part_4 rfl rfl ?_
  refine g_lload_n 2 dL_part_5 rfl rfl ?_
  refine g_lload 3 dL_part_6 rfl ?_
  refine g_lload 4 dL_part_8 rfl ?_
  refine g_embI (k := 0) [.int (iN p1), .long (jN p2), .long (jN p3), .long (jN p4)] emb_X hM vL_part_n ox_0 rfl rfl ⟨rfl, rfl, by decide, by decide⟩ rfl (Nat.le_of_ble_eq_true rfl) dL_part_10 rfl (fun z1 V1 h1 => ?_)
  rw [put_X]
  refine g_canon ?_
  refine g_i2l dL_part_13 (cz_in z1) ?_
  refine g_last 143 0 al_143 dL_part_14 rfl (by decide) ?_
  rw [up_out]
  refine g_goto 26 dL_part_15 (by decide) ?_
  refine g_iconst dL_part_26 ?_
  exact g_iretH hq ⟨by decide, by decide⟩ rfl dL_part_27 ⟨rfl, z1, V1, h1, rfl⟩
theorem ctL_part_IO : Ctch hhL_part 10 18 xIO := ⟨[], [(0, 15, 22, 13)], 0, 15, 19, rfl, by decide, by decide, by decide, tm_2 (List.mem_of_getElem? (i := 120) rfl) rfl, Or.inr rfl, (fun q hq => absurd hq List.not_mem_nil)⟩
set_option maxHeartbeats 4000000 in
theorem hel_part_IO {l : Launch} {D : va_G} {τ : Nat → ClassId} {a : Nat → Nat} (ha : Apart (LL τ) a) {V W : Mem} {z : Int} (p1 p2 p3 p4 : Int) (hM : CT l D (tysL τ) (LX τ) a yX6_part mX6_part [.ref (a 0), .int (iN p1), .long (jN p2), .long (jN p3), .long (jN p4)] V xIO) : CH l D (tysL τ) (LL τ) a yL_part iL_part hhL_part [.ref (a 0), .int (iN p1), .long (jN p2), .long (jN p3), .long (jN p4), .ref (a 143)] (mem3 V W z) (fun r U => r = 1 ∧ U = mem3 V W z) := by
  refine CH.of (by decide +kernel) rfl (Nat.le_of_ble_eq_true rfl) ha (fun x hq => ?_)
  show G l D (tysL τ) (LL τ) a iL_part (bmp x 0 0) 0 [(0, .ref (a 0)), (1, .int (iN p1)), (2, .long (jN p2)), (4, .long (jN p3)), (6, .long (jN p4)), (8, .ref (a 143))] [] (mem3 V W z)
  refine g_aload 5 dL_part_0 rfl ?_
  refine g_iconst dL_part_2 ?_
  refine g_aload_n 0 dL_part_3 rfl rfl ?_
  refine g_iload_n 1 dL_part_4 rfl rfl ?_
  refine g_lload_n 2 dL_part_5 rfl rfl ?_
  refine g_lload 3 dL_part_6 rfl ?_
  refine g_lload 4 dL_part_8 rfl ?_
  refine g_embT (k := 0) [.int (iN p1), .long (jN p2), .long (jN p3), .long (jN p4)] hq emb_X hM vL_part_m rfl ox_0 rfl rfl ⟨by decide, by decide, rfl, rfl, rfl, rfl⟩ ctL_part_IO rfl (Nat.le_of_ble_eq_true rfl) dL_part_10 rfl (fun q => ?_)
  refine g_astore [(9, .ref q), (0, .ref (a 0)), (1, .int (iN p1)), (2, .long (jN p2)), (4, .long (jN p3)), (6, .long (jN p4)), (8, .ref (a 143))] dL_part_18 (by decide) rfl ?_
  refine g_iconst dL_part_20 ?_
  exact g_iretH hq ⟨by decide, by decide⟩ rfl dL_part_21 ⟨rfl, rfl⟩
theorem ctL_part_IA : Ctch hhL_part 10 22 xIA := ⟨[(0, 15, 18, 19)], [], 0, 15, 13, rfl, by decide, by decide, by decide, tm_2 (List.mem_of_getElem? (i := 40) rfl) rfl, Or.inl rfl, (fun q hq => by rw [List.mem_singleton.mp hq]; exact ⟨by decide, rfl, tm_2 (List.mem_of_getElem? (i := 120) rfl) rfl⟩)⟩
set_option maxHeartbeats 4000000 in
theorem hel_part_IA {l : Launch} {D : va_G} {τ : Nat → ClassId} {a : Nat → Nat} (ha : Apart (LL τ) a) {V W : Mem} {z : Int} (p1 p2 p3 p4 : Int) (hM : CT l D (tysL τ) (LX τ) a yX6_part mX6_part [.ref (a 0), .int (iN p1), .long (jN p2), .long (jN p3), .long (jN p4)] V xIA) : CH l D (tysL τ) (LL τ) a yL_part iL_part hhL_part [.ref (a 0), .int (iN p1), .long (jN p2), .long (jN p3), .long (jN p4), .ref (a 143)] (mem3 V W z) (fun r U => r = 2 ∧ U = mem3 V W z) := by
  refine CH.of (by decide +kernel) rfl (Nat.le_of_ble_eq_true rfl) ha (fun x hq => ?_)
  show G l D (tysL τ) (LL τ) a iL_part (bmp x 0 0) 0 [(0, .ref (a 0)), (1, .int (iN p1)), (2, .long (jN p2)), (4, .long (jN p3)), (6, .long (jN p4)), (8, .ref (a 143))] [] (mem3 V W z)
  refine g_aload 5 dL_part_0 rfl ?_
  refine g_iconst dL_part_2 ?_
  refine g_aload_n 0 dL_part_3 rfl rfl ?_
  refine g_iload_n 1 dL_part_4 rfl rfl ?_
  refine g_lload_n 2 dL_part_5 rfl rfl ?_
  refine g_lload 3 dL_part_6 rfl ?_
  refine g_lload 4 dL_part_8 rfl ?_
  refine g_embT (k := 0) [.int (iN p1), .long (jN p2), .long (jN p3), .long (jN p4)] hq emb_X hM vL_part_m rfl ox_0 rfl rfl ⟨by decide, by decide, rfl, rfl, rfl, rfl⟩ ctL_part_IA rfl (Nat.le_of_ble_eq_true rfl) dL_part_10 rfl (fun q => ?_)
  refine g_astore [(9, .ref q), (0, .ref (a 0)), (1, .int (iN p1)), (2, .long (jN p2)), (4, .long (jN p3)), (6, .long (jN p4)), (8, .ref (a 143))] dL_part_22 (by decide) rfl ?_
  refine g_iconst dL_part_24 ?_
  exact g_iretH hq ⟨by decide, by decide⟩ rfl dL_part_25 ⟨rfl, rfl⟩
theorem wL_part : LkH RL 86 yL_part iL_part hhL_part 6 := ⟨tm_2 (List.mem_of_getElem? (i := 117) rfl) rfl, tm_2 (List.mem_of_getElem? (i := 118) rfl) rfl, tm_1 (List.mem_of_getElem? (i := 0) rfl) rfl, tm_2 (List.mem_of_getElem? (i := 119) rfl) rfl, by decide +kernel, by decide +kernel, by decide +kernel⟩
abbrev cL_machine : ByteArray := method_5_code
def yL_machine : MethodName := ⟨RL, "machine", "(LFeederOrders;II[J)I"⟩
abbrev hhL_machine : HH := [(0, 10, 13, 13)]
abbrev iL_machine : MInf := (cL_machine, 5, RL, some .int, { frames := 10, cells := 1, slots := 6, locals := 260 })
theorem dL_machine_0 : decode cL_machine 0 = .ok (.aload_n 3, 1) := by decide +kernel
theorem dL_machine_1 : decode cL_machine 1 = .ok (.iconst 0, 1) := by decide +kernel
theorem dL_machine_2 : decode cL_machine 2 = .ok (.aload_n 0, 1) := by decide +kernel
theorem dL_machine_3 : decode cL_machine 3 = .ok (.iload_n 1, 1) := by decide +kernel
theorem dL_machine_4 : decode cL_machine 4 = .ok (.iload_n 2, 1) := by decide +kernel
theorem dL_machine_5 : decode cL_machine 5 = .ok (.invokevirtual 21, 3) := by decide +kernel
theorem dL_machine_8 : decode cL_machine 8 = .ok (.i2l, 1) := by decide +kernel
theorem dL_machine_9 : decode cL_machine 9 = .ok (.lastore, 1) := by decide +kernel
theorem dL_machine_10 : decode cL_machine 10 = .ok (.goto 7, 3) := by decide +kernel
theorem dL_machine_13 : decode cL_machine 13 = .ok (.astore 4, 2) := by decide +kernel
theorem dL_machine_15 : decode cL_machine 15 = .ok (.iconst 1, 1) := by decide +kernel
theorem dL_machine_16 : decode cL_machine 16 = .ok (.ireturn, 1) := by decide +kernel
theorem dL_machine_17 : decode cL_machine 17 = .ok (.iconst 0, 1) := by decide +kernel
theorem dL_machine_18 : decode cL_machine 18 = .ok (.ireturn, 1) := by decide +kernel
theorem vL_machine_n : LkV RL 21 yX6_machine nX6_machine 2 := ⟨tm_2 (List.mem_of_getElem? (i := 156) rfl) rfl, tm_2 (List.mem_of_getElem? (i := 157) rfl) rfl, tm_2 (List.mem_of_getElem? (i := 158) rfl) rfl, tm_1 (List.mem_of_getElem? (i := 1) rfl) rfl, tm_2 (List.mem_of_getElem? (i := 159) rfl) rfl, by decide +kernel, by decide +kernel, by decide +kernel⟩
theorem vL_machine_m : LkV RL 21 yX6_machine mX6_machine 2 := ⟨tm_2 (List.mem_of_getElem? (i := 156) rfl) rfl, tm_2 (List.mem_of_getElem? (i := 157) rfl) rfl, tm_2 (List.mem_of_getElem? (i := 158) rfl) rfl, tm_1 (List.mem_of_getElem? (i := 1) rfl) rfl, tm_2 (List.mem_of_getElem? (i := 159) rfl) rfl, by decide +kernel, by decide +kernel, by decide +kernel⟩
set_option maxHeartbeats 4000000 in
theorem hel_machine {l : Launch} {D : va_G} {τ : Nat → ClassId} {a : Nat → Nat} (ha : Apart (LL τ) a) {V W : Mem} {z : Int} (p1 p2 : Int) {post : Int → Mem → Prop} (hM : CI l D (tysL τ) (LX τ) a yX6_machine nX6_machine [.ref (a 0), .int (iN p1), .int (iN p2)] V post) : CH l D (tysL τ) (LL τ) a yL_machine iL_machine hhL_machine [.ref (a 0), .int (iN p1), .int (iN p2), .ref (a 143)] (mem3 V W z) (fun r U => r = 0 ∧ ∃ z1 V1, post z1 V1 ∧ U = mem3 V1 W (cz z1)) := by
  refine CH.of (by decide +kernel) rfl (Nat.le_of_ble_eq_true rfl) ha (fun x hq => ?_)
  show G l D (tysL τ) (LL τ) a iL_machine (bmp x 0 0) 0 [(0, .ref (a 0)), (1, .int (iN p1)), (2, .int (iN p2)), (3, .ref (a 143))] [] (mem3 V W z)
  refine g_aload_n 3 dL_machine_0 rfl rfl ?_
  refine g_iconst dL_machine_1 ?_
  refine g_aload_n 0 dL_machine_2 rfl rfl ?_
  refine g_iload_n 1 dL_machine_3 rfl rfl ?_
  refine g_iload_n 2 dL_machine_4 rfl rfl ?_
  refine g_embI (k := 0) [.int (iN p1), .int (iN p2)] emb_X hM vL_machine_n ox_0 rfl rfl ⟨rfl, rfl, by decide, by decide⟩ rfl (Nat.le_of_ble_eq_true rfl) dL_machine_5 rfl (fun z1 V1 h1 => ?_)
  rw [put_X]
  refine g_canon ?_
  refine g_i2l dL_machine_8 (cz_in z1) ?_
  refine g_last 143 0 al_143 dL_machine_9 rfl (by decide) ?_
  rw [up_out]
  refine g_goto 17 dL_machine_10 (by decide) ?_
  refine g_iconst dL_machine_17 ?_
  exact g_iretH hq ⟨by decide, by decide⟩ rfl dL_machine_18 ⟨rfl, z1, V1, h1, rfl⟩
theorem ctL_machine_IA : Ctch hhL_machine 5 13 xIA := ⟨[], [], 0, 10, 13, rfl, by decide, by decide, by decide, tm_2 (List.mem_of_getElem? (i := 40) rfl) rfl, Or.inl rfl, (fun q hq => absurd hq List.not_mem_nil)⟩
set_option maxHeartbeats 4000000 in
theorem hel_machine_IA {l : Launch} {D : va_G} {τ : Nat → ClassId} {a : Nat → Nat} (ha : Apart (LL τ) a) {V W : Mem} {z : Int} (p1 p2 : Int) (hM : CT l D (tysL τ) (LX τ) a yX6_machine mX6_machine [.ref (a 0), .int (iN p1), .int (iN p2)] V xIA) : CH l D (tysL τ) (LL τ) a yL_machine iL_machine hhL_machine [.ref (a 0), .int (iN p1), .int (iN p2), .ref (a 143)] (mem3 V W z) (fun r U => r = 1 ∧ U = mem3 V W z) := by
  refine CH.of (by decide +kernel) rfl (Nat.le_of_ble_eq_true rfl) ha (fun x hq => ?_)
  show G l D (tysL τ) (LL τ) a iL_machine (bmp x 0 0) 0 [(0, .ref (a 0)), (1, .int (iN p1)), (2, .int (iN p2)), (3, .ref (a 143))] [] (mem3 V W z)
  refine g_aload_n 3 dL_machine_0 rfl rfl ?_
  refine g_iconst dL_machine_1 ?_
  refine g_aload_n 0 dL_machine_2 rfl rfl ?_
  refine g_iload_n 1 dL_machine_3 rfl rfl ?_
  refine g_iload_n 2 dL_machine_4 rfl rfl ?_
  refine g_embT (k := 0) [.int (iN p1), .int (iN p2)] hq emb_X hM vL_machine_m rfl ox_0 rfl rfl ⟨by decide, by decide, rfl, rfl, rfl, rfl⟩ ctL_machine_IA rfl (Nat.le_of_ble_eq_true rfl) dL_machine_5 rfl (fun q => ?_)
  refine g_astore [(4, .ref q), (0, .ref (a 0)), (1, .int (iN p1)), (2, .int (iN p2)), (3, .ref (a 143))] dL_machine_13 (by decide) rfl ?_
  refine g_iconst dL_machine_15 ?_
  exact g_iretH hq ⟨by decide, by decide⟩ rfl dL_machine_16 ⟨rfl, rfl⟩
theorem wL_machine : LkH RL 90 yL_machine iL_machine hhL_machine 4 := ⟨tm_2 (List.mem_of_getElem? (i := 153) rfl) rfl, tm_2 (List.mem_of_getElem? (i := 154) rfl) rfl, tm_1 (List.mem_of_getElem? (i := 0) rfl) rfl, tm_2 (List.mem_of_getElem? (i := 155) rfl) rfl, by decide +kernel, by decide +kernel, by decide +kernel⟩
abbrev cL_fixed : ByteArray := method_6_code
def yL_fixed : MethodName := ⟨RL, "fixed", "(LFeederOrders;II[J)I"⟩
abbrev hhL_fixed : HH := [(0, 17, 20, 19)]
abbrev iL_fixed : MInf := (cL_fixed, 5, RL, some .int, { frames := 10, cells := 1, slots := 6, locals := 260 })
theorem dL_fixed_0 : decode cL_fixed 0 = .ok (.aload_n 3, 1) := by decide +kernel
theorem dL_fixed_1 : decode cL_fixed 1 = .ok (.iconst 0, 1) := by decide +kernel
theorem dL_fixed_2 : decode cL_fixed 2 = .ok (.aload_n 0, 1) := by decide +kernel
theorem dL_fixed_3 : decode cL_fixed 3 = .ok (.iload_n 1, 1) := by decide +kernel
theorem dL_fixed_4 : decode cL_fixed 4 = .ok (.iload_n 2, 1) := by decide +kernel
theorem dL_fixed_5 : decode cL_fixed 5 = .ok (.invokevirtual 24, 3) := by decide +kernel
theorem dL_fixed_8 : decode cL_fixed 8 = .ok (.ifCond .eq 7, 3) := by decide +kernel
theorem dL_fixed_11 : decode cL_fixed 11 = .ok (.lconst 1, 1) := by decide +kernel
theorem dL_fixed_12 : decode cL_fixed 12 = .ok (.goto 4, 3) := by decide +kernel
theorem dL_fixed_15 : decode cL_fixed 15 = .ok (.lconst 0, 1) := by decide +kernel
theorem dL_fixed_16 : decode cL_fixed 16 = .ok (.lastore, 1) := by decide +kernel
theorem dL_fixed_17 : decode cL_fixed 17 = .ok (.goto 7, 3) := by decide +kernel
theorem dL_fixed_20 : decode cL_fixed 20 = .ok (.astore 4, 2) := by decide +kernel
theorem dL_fixed_22 : decode cL_fixed 22 = .ok (.iconst 1, 1) := by decide +kernel
theorem dL_fixed_23 : decode cL_fixed 23 = .ok (.ireturn, 1) := by decide +kernel
theorem dL_fixed_24 : decode cL_fixed 24 = .ok (.iconst 0, 1) := by decide +kernel
theorem dL_fixed_25 : decode cL_fixed 25 = .ok (.ireturn, 1) := by decide +kernel
theorem vL_fixed_n : LkV RL 24 yX6_fixed nX6_fixed 2 := ⟨tm_2 (List.mem_of_getElem? (i := 165) rfl) rfl, tm_2 (List.mem_of_getElem? (i := 166) rfl) rfl, tm_2 (List.mem_of_getElem? (i := 167) rfl) rfl, tm_1 (List.mem_of_getElem? (i := 1) rfl) rfl, tm_2 (List.mem_of_getElem? (i := 168) rfl) rfl, by decide +kernel, by decide +kernel, by decide +kernel⟩
theorem vL_fixed_m : LkV RL 24 yX6_fixed mX6_fixed 2 := ⟨tm_2 (List.mem_of_getElem? (i := 165) rfl) rfl, tm_2 (List.mem_of_getElem? (i := 166) rfl) rfl, tm_2 (List.mem_of_getElem? (i := 167) rfl) rfl, tm_1 (List.mem_of_getElem? (i := 1) rfl) rfl, tm_2 (List.mem_of_getElem? (i := 168) rfl) rfl, by decide +kernel, by decide +kernel, by decide +kernel⟩
set_option maxHeartbeats 4000000 in
theorem hel_fixed {l : Launch} {D : va_G} {τ : Nat → ClassId} {a : Nat → Nat} (ha : Apart (LL τ) a) {V W : Mem} {z : Int} (p1 p2 : Int) {post : Int → Mem → Prop} (hM : CI l D (tysL τ) (LX τ) a yX6_fixed nX6_fixed [.ref (a 0), .int (iN p1), .int (iN p2)] V post) : CH l D (tysL τ) (LL τ) a yL_fixed iL_fixed hhL_fixed [.ref (a 0), .int (iN p1), .int (iN p2), .ref (a 143)] (mem3 V W z) (fun r U => r = 0 ∧ ∃ z1 V1, post z1 V1 ∧ U = mem3 V1 W (if cz z1 = 0 then 0 else 1)) := by
  refine CH.of (by decide +kernel) rfl (Nat.le_of_ble_eq_true rfl) ha (fun x hq => ?_)
  show G l D (tysL τ) (LL τ) a iL_fixed (bmp x 0 0) 0 [(0, .ref (a 0)), (1, .int (iN p1)), (2, .int (iN p2)), (3, .ref (a 143))] [] (mem3 V W z)
  refine g_aload_n 3 dL_fixed_0 rfl rfl ?_
  refine g_iconst dL_fixed_1 ?_
  refine g_aload_n 0 dL_fixed_2 rfl rfl ?_
  refine g_iload_n 1 dL_fixed_3 rfl rfl ?_
  refine g_iload_n 2 dL_fixed_4 rfl rfl ?_
  refine g_embI (k := 0) [.int (iN p1), .int (iN p2)] emb_X hM vL_fixed_n ox_0 rfl rfl ⟨rfl, rfl, by decide, by decide⟩ rfl (Nat.le_of_ble_eq_true rfl) dL_fixed_5 rfl (fun z1 V1 h1 => ?_)
  rw [put_X]
  refine g_canon ?_
  refine g_if_eq 15 dL_fixed_8 (by decide) (fun c1 => ?_) (fun c1 => ?_) (cz_in z1)
  · refine g_lconst 0 dL_fixed_15 rfl ?_
    refine g_last 143 0 al_143 dL_fixed_16 rfl (by decide) ?_
    rw [up_out]
    refine g_goto 24 dL_fixed_17 (by decide) ?_
    refine g_iconst dL_fixed_24 ?_
    exact g_iretH hq ⟨by decide, by decide⟩ rfl dL_fixed_25 ⟨rfl, z1, V1, h1, by rw [if_pos c1]⟩
  · refine g_lconst 1 dL_fixed_11 rfl ?_
    refine g_goto 16 dL_fixed_12 (by decide) ?_
    refine g_last 143 0 al_143 dL_fixed_16 rfl (by decide) ?_
    rw [up_out]
    refine g_goto 24 dL_fixed_17 (by decide) ?_
    refine g_iconst dL_fixed_24 ?_
    exact g_iretH hq ⟨by decide, by decide⟩ rfl dL_fixed_25 ⟨rfl, z1, V1, h1, by rw [if_neg c1]⟩
theorem ctL_fixed_IO : Ctch hhL_fixed 5 20 xIO := ⟨[], [], 0, 17, 19, rfl, by decide, by decide, by decide, tm_2 (List.mem_of_getElem? (i := 120) rfl) rfl, Or.inr rfl, (fun q hq => absurd hq List.not_mem_nil)⟩
set_option maxHeartbeats 4000000 in
theorem hel_fixed_IO {l : Launch} {D : va_G} {τ : Nat → ClassId} {a : Nat → Nat} (ha : Apart (LL τ) a) {V W : Mem} {z : Int} (p1 p2 : Int) (hM : CT l D (tysL τ) (LX τ) a yX6_fixed mX6_fixed [.ref (a 0), .int (iN p1), .int (iN p2)] V xIO) : CH l D (tysL τ) (LL τ) a yL_fixed iL_fixed hhL_fixed [.ref (a 0), .int (iN p1), .int (iN p2), .ref (a 143)] (mem3 V W z) (fun r U => r = 1 ∧ U = mem3 V W z) := by
  refine CH.of (by decide +kernel) rfl (Nat.le_of_ble_eq_true rfl) ha (fun x hq => ?_)
  show G l D (tysL τ) (LL τ) a iL_fixed (bmp x 0 0) 0 [(0, .ref (a 0)), (1, .int (iN p1)), (2, .int (iN p2)), (3, .ref (a 143))] [] (mem3 V W z)
  refine g_aload_n 3 dL_fixed_0 rfl rfl ?_
  refine g_iconst dL_fixed_1 ?_
  refine g_aload_n 0 dL_fixed_2 rfl rfl ?_
  refine g_iload_n 1 dL_fixed_3 rfl rfl ?_
  refine g_iload_n 2 dL_fixed_4 rfl rfl ?_
  refine g_embT (k := 0) [.int (iN p1), .int (iN p2)] hq emb_X hM vL_fixed_m rfl ox_0 rfl rfl ⟨by decide, by decide, rfl, rfl, rfl, rfl⟩ ctL_fixed_IO rfl (Nat.le_of_ble_eq_true rfl) dL_fixed_5 rfl (fun q => ?_)
  refine g_astore [(4, .ref q), (0, .ref (a 0)), (1, .int (iN p1)), (2, .int (iN p2)), (3, .ref (a 143))] dL_fixed_20 (by decide) rfl ?_
  refine g_iconst dL_fixed_22 ?_
  exact g_iretH hq ⟨by decide, by decide⟩ rfl dL_fixed_23 ⟨rfl, rfl⟩
theorem wL_fixed : LkH RL 93 yL_fixed iL_fixed hhL_fixed 4 := ⟨tm_2 (List.mem_of_getElem? (i := 162) rfl) rfl, tm_2 (List.mem_of_getElem? (i := 163) rfl) rfl, tm_1 (List.mem_of_getElem? (i := 0) rfl) rfl, tm_2 (List.mem_of_getElem? (i := 164) rfl) rfl, by decide +kernel, by decide +kernel, by decide +kernel⟩
abbrev cL_run : ByteArray := method_7_code
def yL_run : MethodName := ⟨RL, "run", "(LFeederOrders;IJ[J)I"⟩
abbrev hhL_run : HH := [(0, 11, 14, 13)]
abbrev iL_run : MInf := (cL_run, 6, RL, some .int, { frames := 10, cells := 1, slots := 6, locals := 260 })
theorem dL_run_0 : decode cL_run 0 = .ok (.aload 4, 2) := by decide +kernel
theorem dL_run_2 : decode cL_run 2 = .ok (.iconst 0, 1) := by decide +kernel
theorem dL_run_3 : decode cL_run 3 = .ok (.aload_n 0, 1) := by decide +kernel
theorem dL_run_4 : decode cL_run 4 = .ok (.iload_n 1, 1) := by decide +kernel
theorem dL_run_5 : decode cL_run 5 = .ok (.lload_n 2, 1) := by decide +kernel
theorem dL_run_6 : decode cL_run 6 = .ok (.invokevirtual 28, 3) := by decide +kernel
theorem dL_run_9 : decode cL_run 9 = .ok (.i2l, 1) := by decide +kernel
theorem dL_run_10 : decode cL_run 10 = .ok (.lastore, 1) := by decide +kernel
theorem dL_run_11 : decode cL_run 11 = .ok (.goto 7, 3) := by decide +kernel
theorem dL_run_14 : decode cL_run 14 = .ok (.astore 5, 2) := by decide +kernel
theorem dL_run_16 : decode cL_run 16 = .ok (.iconst 1, 1) := by decide +kernel
theorem dL_run_17 : decode cL_run 17 = .ok (.ireturn, 1) := by decide +kernel
theorem dL_run_18 : decode cL_run 18 = .ok (.iconst 0, 1) := by decide +kernel
theorem dL_run_19 : decode cL_run 19 = .ok (.ireturn, 1) := by decide +kernel
theorem vL_run_n : LkV RL 28 yX6_run nX6_run 2 := ⟨tm_2 (List.mem_of_getElem? (i := 177) rfl) rfl, tm_2 (List.mem_of_getElem? (i := 178) rfl) rfl, tm_2 (List.mem_of_getElem? (i := 179) rfl) rfl, tm_1 (List.mem_of_getElem? (i := 1) rfl) rfl, tm_2 (List.mem_of_getElem? (i := 180) rfl) rfl, by decide +kernel, by decide +kernel, by decide +kernel⟩
theorem vL_run_m : LkV RL 28 yX6_run mX6_run 2 := ⟨tm_2 (List.mem_of_getElem? (i := 177) rfl) rfl, tm_2 (List.mem_of_getElem? (i := 178) rfl) rfl, tm_2 (List.mem_of_getElem? (i := 179) rfl) rfl, tm_1 (List.mem_of_getElem? (i := 1) rfl) rfl, tm_2 (List.mem_of_getElem? (i := 180) rfl) rfl, by decide +kernel, by decide +kernel, by decide +kernel⟩
set_option maxHeartbeats 4000000 in
theorem hel_run {l : Launch} {D : va_G} {τ : Nat → ClassId} {a : Nat → Nat} (ha : Apart (LL τ) a) {V W : Mem} {z : Int} (p1 p2 : Int) {post : Int → Mem → Prop} (hM : CI l D (tysL τ) (LX τ) a yX6_run nX6_run [.ref (a 0), .int (iN p1), .long (jN p2)] V post) : CH l D (tysL τ) (LL τ) a yL_run iL_run hhL_run [.ref (a 0), .int (iN p1), .long (jN p2), .ref (a 143)] (mem3 V W z) (fun r U => r = 0 ∧ ∃ z1 V1, post z1 V1 ∧ U = mem3 V1 W (cz z1)) := by
  refine CH.of (by decide +kernel) rfl (Nat.le_of_ble_eq_true rfl) ha (fun x hq => ?_)
  show G l D (tysL τ) (LL τ) a iL_run (bmp x 0 0) 0 [(0, .ref (a 0)), (1, .int (iN p1)), (2, .long (jN p2)), (4, .ref (a 143))] [] (mem3 V W z)
  refine g_aload 3 dL_run_0 rfl ?_
  refine g_iconst dL_run_2 ?_
  refine g_aload_n 0 dL_run_3 rfl rfl ?_
  refine g_iload_n 1 dL_run_4 rfl rfl ?_
  refine g_lload_n 2 dL_run_5 rfl rfl ?_
  refine g_embI (k := 0) [.int (iN p1), .long (jN p2)] emb_X hM vL_run_n ox_0 rfl rfl ⟨rfl, rfl, by decide, by decide⟩ rfl (Nat.le_of_ble_eq_true rfl) dL_run_6 rfl (fun z1 V1 h1 => ?_)
  rw [put_X]
  refine g_canon ?_
  refine g_i2l dL_run_9 (cz_in z1) ?_
  refine g_last 143 0 al_143 dL_run_10 rfl (by decide) ?_
  rw [up_out]
  refine g_goto 18 dL_run_11 (by decide) ?_
  refine g_iconst dL_run_18 ?_
  exact g_iretH hq ⟨by decide, by decide⟩ rfl dL_run_19 ⟨rfl, z1, V1, h1, rfl⟩
theorem ctL_run_IA : Ctch hhL_run 6 14 xIA := ⟨[], [], 0, 11, 13, rfl, by decide, by decide, by decide, tm_2 (List.mem_of_getElem? (i := 40) rfl) rfl, Or.inl rfl, (fun q hq => absurd hq List.not_mem_nil)⟩
set_option maxHeartbeats 4000000 in
theorem hel_run_IA {l : Launch} {D : va_G} {τ : Nat → ClassId} {a : Nat → Nat} (ha : Apart (LL τ) a) {V W : Mem} {z : Int} (p1 p2 : Int) (hM : CT l D (tysL τ) (LX τ) a yX6_run mX6_run [.ref (a 0), .int (iN p1), .long (jN p2)] V xIA) : CH l D (tysL τ) (LL τ) a yL_run iL_run hhL_run [.ref (a 0), .int (iN p1), .long (jN p2), .ref (a 143)] (mem3 V W z) (fun r U => r = 1 ∧ U = mem3 V W z) := by
  refine CH.of (by decide +kernel) rfl (Nat.le_of_ble_eq_true rfl) ha (fun x hq => ?_)
  show G l D (tysL τ) (LL τ) a iL_run (bmp x 0 0) 0 [(0, .ref (a 0)), (1, .int (iN p1)), (2, .long (jN p2)), (4, .ref (a 143))] [] (mem3 V W z)
  refine g_aload 3 dL_run_0 rfl ?_
  refine g_iconst dL_run_2 ?_
  refine g_aload_n 0 dL_run_3 rfl rfl ?_
  refine g_iload_n 1 dL_run_4 rfl rfl ?_
  refine g_lload_n 2 dL_run_5 rfl rfl ?_
  refine g_embT (k := 0) [.int (iN p1), .long (jN p2)] hq emb_X hM vL_run_m rfl ox_0 rfl rfl ⟨by decide, by decide, rfl, rfl, rfl, rfl⟩ ctL_run_IA rfl (Nat.le_of_ble_eq_true rfl) dL_run_6 rfl (fun q => ?_)
  refine g_astore [(5, .ref q), (0, .ref (a 0)), (1, .int (iN p1)), (2, .long (jN p2)), (4, .ref (a 143))] dL_run_14 (by decide) rfl ?_
  refine g_iconst dL_run_16 ?_
  exact g_iretH hq ⟨by decide, by decide⟩ rfl dL_run_17 ⟨rfl, rfl⟩
theorem wL_run : LkH RL 96 yL_run iL_run hhL_run 4 := ⟨tm_2 (List.mem_of_getElem? (i := 174) rfl) rfl, tm_2 (List.mem_of_getElem? (i := 175) rfl) rfl, tm_1 (List.mem_of_getElem? (i := 0) rfl) rfl, tm_2 (List.mem_of_getElem? (i := 176) rfl) rfl, by decide +kernel, by decide +kernel, by decide +kernel⟩
abbrev cL_slot : ByteArray := method_8_code
def yL_slot : MethodName := ⟨RL, "slot", "(LFeederOrders;II[J)I"⟩
abbrev hhL_slot : HH := [(0, 10, 13, 19)]
abbrev iL_slot : MInf := (cL_slot, 5, RL, some .int, { frames := 10, cells := 1, slots := 6, locals := 260 })
theorem dL_slot_0 : decode cL_slot 0 = .ok (.aload_n 3, 1) := by decide +kernel
theorem dL_slot_1 : decode cL_slot 1 = .ok (.iconst 0, 1) := by decide +kernel
theorem dL_slot_2 : decode cL_slot 2 = .ok (.aload_n 0, 1) := by decide +kernel
theorem dL_slot_3 : decode cL_slot 3 = .ok (.iload_n 1, 1) := by decide +kernel
theorem dL_slot_4 : decode cL_slot 4 = .ok (.iload_n 2, 1) := by decide +kernel
theorem dL_slot_5 : decode cL_slot 5 = .ok (.invokevirtual 32, 3) := by decide +kernel
theorem dL_slot_8 : decode cL_slot 8 = .ok (.i2l, 1) := by decide +kernel
theorem dL_slot_9 : decode cL_slot 9 = .ok (.lastore, 1) := by decide +kernel
theorem dL_slot_10 : decode cL_slot 10 = .ok (.goto 7, 3) := by decide +kernel
theorem dL_slot_13 : decode cL_slot 13 = .ok (.astore 4, 2) := by decide +kernel
theorem dL_slot_15 : decode cL_slot 15 = .ok (.iconst 1, 1) := by decide +kernel
theorem dL_slot_16 : decode cL_slot 16 = .ok (.ireturn, 1) := by decide +kernel
theorem dL_slot_17 : decode cL_slot 17 = .ok (.iconst 0, 1) := by decide +kernel
theorem dL_slot_18 : decode cL_slot 18 = .ok (.ireturn, 1) := by decide +kernel
theorem vL_slot_n : LkV RL 32 yX6_slot nX6_slot 2 := ⟨tm_3 (List.mem_of_getElem? (i := 114) rfl) rfl, tm_3 (List.mem_of_getElem? (i := 115) rfl) rfl, tm_3 (List.mem_of_getElem? (i := 116) rfl) rfl, tm_1 (List.mem_of_getElem? (i := 1) rfl) rfl, tm_3 (List.mem_of_getElem? (i := 117) rfl) rfl, by decide +kernel, by decide +kernel, by decide +kernel⟩
theorem vL_slot_m : LkV RL 32 yX6_slot mX6_slot 2 := ⟨tm_3 (List.mem_of_getElem? (i := 114) rfl) rfl, tm_3 (List.mem_of_getElem? (i := 115) rfl) rfl, tm_3 (List.mem_of_getElem? (i := 116) rfl) rfl, tm_1 (List.mem_of_getElem? (i := 1) rfl) rfl, tm_3 (List.mem_of_getElem? (i := 117) rfl) rfl, by decide +kernel, by decide +kernel, by decide +kernel⟩
set_option maxHeartbeats 4000000 in
theorem hel_slot {l : Launch} {D : va_G} {τ : Nat → ClassId} {a : Nat → Nat} (ha : Apart (LL τ) a) {V W : Mem} {z : Int} (p1 p2 : Int) {post : Int → Mem → Prop} (hM : CI l D (tysL τ) (LX τ) a yX6_slot nX6_slot [.ref (a 0), .int (iN p1), .int (iN p2)] V post) : CH l D (tysL τ) (LL τ) a yL_slot iL_slot hhL_slot [.ref (a 0), .int (iN p1), .int (iN p2), .ref (a 143)] (mem3 V W z) (fun r U => r = 0 ∧ ∃ z1 V1, post z1 V1 ∧ U = mem3 V1 W (cz z1)) := by
  refine CH.of (by decide +kernel) rfl (Nat.le_of_ble_eq_true rfl) ha (fun x hq => ?_)
  show G l D (tysL τ) (LL τ) a iL_slot (bmp x 0 0) 0 [(0, .ref (a 0)), (1, .int (iN p1)), (2, .int (iN p2)), (3, .ref (a 143))] [] (mem3 V W z)
  refine g_aload_n 3 dL_slot_0 rfl rfl ?_
  refine g_iconst dL_slot_1 ?_
  refine g_aload_n 0 dL_slot_2 rfl rfl ?_
  refine g_iload_n 1 dL_slot_3 rfl rfl ?_
  refine g_iload_n 2 dL_slot_4 rfl rfl ?_
  refine g_embI (k := 0) [.int (iN p1), .int (iN p2)] emb_X hM vL_slot_n ox_0 rfl rfl ⟨rfl, rfl, by decide, by decide⟩ rfl (Nat.le_of_ble_eq_true rfl) dL_slot_5 rfl (fun z1 V1 h1 => ?_)
  rw [put_X]
  refine g_canon ?_
  refine g_i2l dL_slot_8 (cz_in z1) ?_
  refine g_last 143 0 al_143 dL_slot_9 rfl (by decide) ?_
  rw [up_out]
  refine g_goto 17 dL_slot_10 (by decide) ?_
  refine g_iconst dL_slot_17 ?_
  exact g_iretH hq ⟨by decide, by decide⟩ rfl dL_slot_18 ⟨rfl, z1, V1, h1, rfl⟩
theorem ctL_slot_IO : Ctch hhL_slot 5 13 xIO := ⟨[], [], 0, 10, 19, rfl, by decide, by decide, by decide, tm_2 (List.mem_of_getElem? (i := 120) rfl) rfl, Or.inr rfl, (fun q hq => absurd hq List.not_mem_nil)⟩
set_option maxHeartbeats 4000000 in
theorem hel_slot_IO {l : Launch} {D : va_G} {τ : Nat → ClassId} {a : Nat → Nat} (ha : Apart (LL τ) a) {V W : Mem} {z : Int} (p1 p2 : Int) (hM : CT l D (tysL τ) (LX τ) a yX6_slot mX6_slot [.ref (a 0), .int (iN p1), .int (iN p2)] V xIO) : CH l D (tysL τ) (LL τ) a yL_slot iL_slot hhL_slot [.ref (a 0), .int (iN p1), .int (iN p2), .ref (a 143)] (mem3 V W z) (fun r U => r = 1 ∧ U = mem3 V W z) := by
  refine CH.of (by decide +kernel) rfl (Nat.le_of_ble_eq_true rfl) ha (fun x hq => ?_)
  show G l D (tysL τ) (LL τ) a iL_slot (bmp x 0 0) 0 [(0, .ref (a 0)), (1, .int (iN p1)), (2, .int (iN p2)), (3, .ref (a 143))] [] (mem3 V W z)
  refine g_aload_n 3 dL_slot_0 rfl rfl ?_
  refine g_iconst dL_slot_1 ?_
  refine g_aload_n 0 dL_slot_2 rfl rfl ?_
  refine g_iload_n 1 dL_slot_3 rfl rfl ?_
  refine g_iload_n 2 dL_slot_4 rfl rfl ?_
  refine g_embT (k := 0) [.int (iN p1), .int (iN p2)] hq emb_X hM vL_slot_m rfl ox_0 rfl rfl ⟨by decide, by decide, rfl, rfl, rfl, rfl⟩ ctL_slot_IO rfl (Nat.le_of_ble_eq_true rfl) dL_slot_5 rfl (fun q => ?_)
  refine g_astore [(4, .ref q), (0, .ref (a 0)), (1, .int (iN p1)), (2, .int (iN p2)), (3, .ref (a 143))] dL_slot_13 (by decide) rfl ?_
  refine g_iconst dL_slot_15 ?_
  exact g_iretH hq ⟨by decide, by decide⟩ rfl dL_slot_16 ⟨rfl, rfl⟩
theorem wL_slot : LkH RL 100 yL_slot iL_slot hhL_slot 4 := ⟨tm_3 (List.mem_of_getElem? (i := 111) rfl) rfl, tm_3 (List.mem_of_getElem? (i := 112) rfl) rfl, tm_1 (List.mem_of_getElem? (i := 0) rfl) rfl, tm_3 (List.mem_of_getElem? (i := 113) rfl) rfl, by decide +kernel, by decide +kernel, by decide +kernel⟩
abbrev cL_order : ByteArray := method_9_code
def yL_order : MethodName := ⟨RL, "order", "(LFeederOrders;II[J)I"⟩
abbrev hhL_order : HH := [(0, 10, 13, 19)]
abbrev iL_order : MInf := (cL_order, 5, RL, some .int, { frames := 10, cells := 1, slots := 6, locals := 260 })
theorem dL_order_0 : decode cL_order 0 = .ok (.aload_n 3, 1) := by decide +kernel
theorem dL_order_1 : decode cL_order 1 = .ok (.iconst 0, 1) := by decide +kernel
theorem dL_order_2 : decode cL_order 2 = .ok (.aload_n 0, 1) := by decide +kernel
theorem dL_order_3 : decode cL_order 3 = .ok (.iload_n 1, 1) := by decide +kernel
theorem dL_order_4 : decode cL_order 4 = .ok (.iload_n 2, 1) := by decide +kernel
theorem dL_order_5 : decode cL_order 5 = .ok (.invokevirtual 35, 3) := by decide +kernel
theorem dL_order_8 : decode cL_order 8 = .ok (.i2l, 1) := by decide +kernel
theorem dL_order_9 : decode cL_order 9 = .ok (.lastore, 1) := by decide +kernel
theorem dL_order_10 : decode cL_order 10 = .ok (.goto 7, 3) := by decide +kernel
theorem dL_order_13 : decode cL_order 13 = .ok (.astore 4, 2) := by decide +kernel
theorem dL_order_15 : decode cL_order 15 = .ok (.iconst 1, 1) := by decide +kernel
theorem dL_order_16 : decode cL_order 16 = .ok (.ireturn, 1) := by decide +kernel
theorem dL_order_17 : decode cL_order 17 = .ok (.iconst 0, 1) := by decide +kernel
theorem dL_order_18 : decode cL_order 18 = .ok (.ireturn, 1) := by decide +kernel
theorem vL_order_n : LkV RL 35 yX6_order nX6_order 2 := ⟨tm_3 (List.mem_of_getElem? (i := 126) rfl) rfl, tm_3 (List.mem_of_getElem? (i := 127) rfl) rfl, tm_3 (List.mem_of_getElem? (i := 128) rfl) rfl, tm_1 (List.mem_of_getElem? (i := 1) rfl) rfl, tm_3 (List.mem_of_getElem? (i := 129) rfl) rfl, by decide +kernel, by decide +kernel, by decide +kernel⟩
theorem vL_order_m : LkV RL 35 yX6_order mX6_order 2 := ⟨tm_3 (List.mem_of_getElem? (i := 126) rfl) rfl, tm_3 (List.mem_of_getElem? (i := 127) rfl) rfl, tm_3 (List.mem_of_getElem? (i := 128) rfl) rfl, tm_1 (List.mem_of_getElem? (i := 1) rfl) rfl, tm_3 (List.mem_of_getElem? (i := 129) rfl) rfl, by decide +kernel, by decide +kernel, by decide +kernel⟩
set_option maxHeartbeats 4000000 in
theorem hel_order {l : Launch} {D : va_G} {τ : Nat → ClassId} {a : Nat → Nat} (ha : Apart (LL τ) a) {V W : Mem} {z : Int} (p1 p2 : Int) {post : Int → Mem → Prop} (hM : CI l D (tysL τ) (LX τ) a yX6_order nX6_order [.ref (a 0), .int (iN p1), .int (iN p2)] V post) : CH l D (tysL τ) (LL τ) a yL_order iL_order hhL_order [.ref (a 0), .int (iN p1), .int (iN p2), .ref (a 143)] (mem3 V W z) (fun r U => r = 0 ∧ ∃ z1 V1, post z1 V1 ∧ U = mem3 V1 W (cz z1)) := by
  refine CH.of (by decide +kernel) rfl (Nat.le_of_ble_eq_true rfl) ha (fun x hq => ?_)
  show G l D (tysL τ) (LL τ) a iL_order (bmp x 0 0) 0 [(0, .ref (a 0)), (1, .int (iN p1)), (2, .int (iN p2)), (3, .ref (a 143))] [] (mem3 V W z)
  refine g_aload_n 3 dL_order_0 rfl rfl ?_
  refine g_iconst dL_order_1 ?_
  refine g_aload_n 0 dL_order_2 rfl rfl ?_
  refine g_iload_n 1 dL_order_3 rfl rfl ?_
  refine g_iload_n 2 dL_order_4 rfl rfl ?_
  refine g_embI (k := 0) [.int (iN p1), .int (iN p2)] emb_X hM vL_order_n ox_0 rfl rfl ⟨rfl, rfl, by decide, by decide⟩ rfl (Nat.le_of_ble_eq_true rfl) dL_order_5 rfl (fun z1 V1 h1 => ?_)
  rw [put_X]
  refine g_canon ?_
  refine g_i2l dL_order_8 (cz_in z1) ?_
  refine g_last 143 0 al_143 dL_order_9 rfl (by decide) ?_
  rw [up_out]
  refine g_goto 17 dL_order_10 (by decide) ?_
  refine g_iconst dL_order_17 ?_
  exact g_iretH hq ⟨by decide, by decide⟩ rfl dL_order_18 ⟨rfl, z1, V1, h1, rfl⟩
theorem ctL_order_IO : Ctch hhL_order 5 13 xIO := ⟨[], [], 0, 10, 19, rfl, by decide, by decide, by decide, tm_2 (List.mem_of_getElem? (i := 120) rfl) rfl, Or.inr rfl, (fun q hq => absurd hq List.not_mem_nil)⟩
set_option maxHeartbeats 4000000 in
theorem hel_order_IO {l : Launch} {D : va_G} {τ : Nat → ClassId} {a : Nat → Nat} (ha : Apart (LL τ) a) {V W : Mem} {z : Int} (p1 p2 : Int) (hM : CT l D (tysL τ) (LX τ) a yX6_order mX6_order [.ref (a 0), .int (iN p1), .int (iN p2)] V xIO) : CH l D (tysL τ) (LL τ) a yL_order iL_order hhL_order [.ref (a 0), .int (iN p1), .int (iN p2), .ref (a 143)] (mem3 V W z) (fun r U => r = 1 ∧ U = mem3 V W z) := by
  refine CH.of (by decide +kernel) rfl (Nat.le_of_ble_eq_true rfl) ha (fun x hq => ?_)
  show G l D (tysL τ) (LL τ) a iL_order (bmp x 0 0) 0 [(0, .ref (a 0)), (1, .int (iN p1)), (2, .int (iN p2)), (3, .ref (a 143))] [] (mem3 V W z)
  refine g_aload_n 3 dL_order_0 rfl rfl ?_
  refine g_iconst dL_order_1 ?_
  refine g_aload_n 0 dL_order_2 rfl rfl ?_
  refine g_iload_n 1 dL_order_3 rfl rfl ?_
  refine g_iload_n 2 dL_order_4 rfl rfl ?_
  refine g_embT (k := 0) [.int (iN p1), .int (iN p2)] hq emb_X hM vL_order_m rfl ox_0 rfl rfl ⟨by decide, by decide, rfl, rfl, rfl, rfl⟩ ctL_order_IO rfl (Nat.le_of_ble_eq_true rfl) dL_order_5 rfl (fun q => ?_)
  refine g_astore [(4, .ref q), (0, .ref (a 0)), (1, .int (iN p1)), (2, .int (iN p2)), (3, .ref (a 143))] dL_order_13 (by decide) rfl ?_
  refine g_iconst dL_order_15 ?_
  exact g_iretH hq ⟨by decide, by decide⟩ rfl dL_order_16 ⟨rfl, rfl⟩
theorem wL_order : LkH RL 103 yL_order iL_order hhL_order 4 := ⟨tm_3 (List.mem_of_getElem? (i := 123) rfl) rfl, tm_3 (List.mem_of_getElem? (i := 124) rfl) rfl, tm_1 (List.mem_of_getElem? (i := 0) rfl) rfl, tm_3 (List.mem_of_getElem? (i := 125) rfl) rfl, by decide +kernel, by decide +kernel, by decide +kernel⟩
abbrev cL_trip : ByteArray := method_10_code
def yL_trip : MethodName := ⟨RL, "trip", "(LFeederOrders;II[J)I"⟩
abbrev hhL_trip : HH := [(0, 10, 13, 19)]
abbrev iL_trip : MInf := (cL_trip, 5, RL, some .int, { frames := 10, cells := 1, slots := 6, locals := 260 })
theorem dL_trip_0 : decode cL_trip 0 = .ok (.aload_n 3, 1) := by decide +kernel
theorem dL_trip_1 : decode cL_trip 1 = .ok (.iconst 0, 1) := by decide +kernel
theorem dL_trip_2 : decode cL_trip 2 = .ok (.aload_n 0, 1) := by decide +kernel
theorem dL_trip_3 : decode cL_trip 3 = .ok (.iload_n 1, 1) := by decide +kernel
theorem dL_trip_4 : decode cL_trip 4 = .ok (.iload_n 2, 1) := by decide +kernel
theorem dL_trip_5 : decode cL_trip 5 = .ok (.invokevirtual 38, 3) := by decide +kernel
theorem dL_trip_8 : decode cL_trip 8 = .ok (.i2l, 1) := by decide +kernel
theorem dL_trip_9 : decode cL_trip 9 = .ok (.lastore, 1) := by decide +kernel
theorem dL_trip_10 : decode cL_trip 10 = .ok (.goto 7, 3) := by decide +kernel
theorem dL_trip_13 : decode cL_trip 13 = .ok (.astore 4, 2) := by decide +kernel
theorem dL_trip_15 : decode cL_trip 15 = .ok (.iconst 1, 1) := by decide +kernel
theorem dL_trip_16 : decode cL_trip 16 = .ok (.ireturn, 1) := by decide +kernel
theorem dL_trip_17 : decode cL_trip 17 = .ok (.iconst 0, 1) := by decide +kernel
theorem dL_trip_18 : decode cL_trip 18 = .ok (.ireturn, 1) := by decide +kernel
theorem vL_trip_n : LkV RL 38 yX6_trip nX6_trip 2 := ⟨tm_3 (List.mem_of_getElem? (i := 137) rfl) rfl, tm_3 (List.mem_of_getElem? (i := 138) rfl) rfl, tm_3 (List.mem_of_getElem? (i := 139) rfl) rfl, tm_1 (List.mem_of_getElem? (i := 1) rfl) rfl, tm_3 (List.mem_of_getElem? (i := 140) rfl) rfl, by decide +kernel, by decide +kernel, by decide +kernel⟩
theorem vL_trip_m : LkV RL 38 yX6_trip mX6_trip 2 := ⟨tm_3 (List.mem_of_getElem? (i := 137) rfl) rfl, tm_3 (List.mem_of_getElem? (i := 138) rfl) rfl, tm_3 (List.mem_of_getElem? (i := 139) rfl) rfl, tm_1 (List.mem_of_getElem? (i := 1) rfl) rfl, tm_3 (List.mem_of_getElem? (i := 140) rfl) rfl, by decide +kernel, by decide +kernel, by decide +kernel⟩
set_option maxHeartbeats 4000000 in
theorem hel_trip {l : Launch} {D : va_G} {τ : Nat → ClassId} {a : Nat → Nat} (ha : Apart (LL τ) a) {V W : Mem} {z : Int} (p1 p2 : Int) {post : Int → Mem → Prop} (hM : CI l D (tysL τ) (LX τ) a yX6_trip nX6_trip [.ref (a 0), .int (iN p1), .int (iN p2)] V post) : CH l D (tysL τ) (LL τ) a yL_trip iL_trip hhL_trip [.ref (a 0), .int (iN p1), .int (iN p2), .ref (a 143)] (mem3 V W z) (fun r U => r = 0 ∧ ∃ z1 V1, post z1 V1 ∧ U = mem3 V1 W (cz z1)) := by
  refine CH.of (by decide +kernel) rfl (Nat.le_of_ble_eq_true rfl) ha (fun x hq => ?_)
  show G l D (tysL τ) (LL τ) a iL_trip (bmp x 0 0) 0 [(0, .ref (a 0)), (1, .int (iN p1)), (2, .int (iN p2)), (3, .ref (a 143))] [] (mem3 V W z)
  refine g_aload_n 3 dL_trip_0 rfl rfl ?_
  refine g_iconst dL_trip_1 ?_
  refine g_aload_n 0 dL_trip_2 rfl rfl ?_
  refine g_iload_n 1 dL_trip_3 rfl rfl ?_
  refine g_iload_n 2 dL_trip_4 rfl rfl ?_
  refine g_embI (k := 0) [.int (iN p1), .int (iN p2)] emb_X hM vL_trip_n ox_0 rfl rfl ⟨rfl, rfl, by decide, by decide⟩ rfl (Nat.le_of_ble_eq_true rfl) dL_trip_5 rfl (fun z1 V1 h1 => ?_)
  rw [put_X]
  refine g_canon ?_
  refine g_i2l dL_trip_8 (cz_in z1) ?_
  refine g_last 143 0 al_143 dL_trip_9 rfl (by decide) ?_
  rw [up_out]
  refine g_goto 17 dL_trip_10 (by decide) ?_
  refine g_iconst dL_trip_17 ?_
  exact g_iretH hq ⟨by decide, by decide⟩ rfl dL_trip_18 ⟨rfl, z1, V1, h1, rfl⟩
theorem ctL_trip_IO : Ctch hhL_trip 5 13 xIO := ⟨[], [], 0, 10, 19, rfl, by decide, by decide, by decide, tm_2 (List.mem_of_getElem? (i := 120) rfl) rfl, Or.inr rfl, (fun q hq => absurd hq List.not_mem_nil)⟩
set_option maxHeartbeats 4000000 in
theorem hel_trip_IO {l : Launch} {D : va_G} {τ : Nat → ClassId} {a : Nat → Nat} (ha : Apart (LL τ) a) {V W : Mem} {z : Int} (p1 p2 : Int) (hM : CT l D (tysL τ) (LX τ) a yX6_trip mX6_trip [.ref (a 0), .int (iN p1), .int (iN p2)] V xIO) : CH l D (tysL τ) (LL τ) a yL_trip iL_trip hhL_trip [.ref (a 0), .int (iN p1), .int (iN p2), .ref (a 143)] (mem3 V W z) (fun r U => r = 1 ∧ U = mem3 V W z) := by
  refine CH.of (by decide +kernel) rfl (Nat.le_of_ble_eq_true rfl) ha (fun x hq => ?_)
  show G l D (tysL τ) (LL τ) a iL_trip (bmp x 0 0) 0 [(0, .ref (a 0)), (1, .int (iN p1)), (2, .int (iN p2)), (3, .ref (a 143))] [] (mem3 V W z)
  refine g_aload_n 3 dL_trip_0 rfl rfl ?_
  refine g_iconst dL_trip_1 ?_
  refine g_aload_n 0 dL_trip_2 rfl rfl ?_
  refine g_iload_n 1 dL_trip_3 rfl rfl ?_
  refine g_iload_n 2 dL_trip_4 rfl rfl ?_
  refine g_embT (k := 0) [.int (iN p1), .int (iN p2)] hq emb_X hM vL_trip_m rfl ox_0 rfl rfl ⟨by decide, by decide, rfl, rfl, rfl, rfl⟩ ctL_trip_IO rfl (Nat.le_of_ble_eq_true rfl) dL_trip_5 rfl (fun q => ?_)
  refine g_astore [(4, .ref q), (0, .ref (a 0)), (1, .int (iN p1)), (2, .int (iN p2)), (3, .ref (a 143))] dL_trip_13 (by decide) rfl ?_
  refine g_iconst dL_trip_15 ?_
  exact g_iretH hq ⟨by decide, by decide⟩ rfl dL_trip_16 ⟨rfl, rfl⟩
theorem wL_trip : LkH RL 106 yL_trip iL_trip hhL_trip 4 := ⟨tm_3 (List.mem_of_getElem? (i := 134) rfl) rfl, tm_3 (List.mem_of_getElem? (i := 135) rfl) rfl, tm_1 (List.mem_of_getElem? (i := 0) rfl) rfl, tm_3 (List.mem_of_getElem? (i := 136) rfl) rfl, by decide +kernel, by decide +kernel, by decide +kernel⟩
abbrev cL_lower : ByteArray := method_11_code
def yL_lower : MethodName := ⟨RL, "lower", "(LFeederOrders;II[J)I"⟩
abbrev hhL_lower : HH := [(0, 17, 20, 19)]
abbrev iL_lower : MInf := (cL_lower, 5, RL, some .int, { frames := 10, cells := 1, slots := 6, locals := 260 })
theorem dL_lower_0 : decode cL_lower 0 = .ok (.aload_n 3, 1) := by decide +kernel
theorem dL_lower_1 : decode cL_lower 1 = .ok (.iconst 0, 1) := by decide +kernel
theorem dL_lower_2 : decode cL_lower 2 = .ok (.aload_n 0, 1) := by decide +kernel
theorem dL_lower_3 : decode cL_lower 3 = .ok (.iload_n 1, 1) := by decide +kernel
theorem dL_lower_4 : decode cL_lower 4 = .ok (.iload_n 2, 1) := by decide +kernel
theorem dL_lower_5 : decode cL_lower 5 = .ok (.invokevirtual 41, 3) := by decide +kernel
theorem dL_lower_8 : decode cL_lower 8 = .ok (.ifCond .eq 7, 3) := by decide +kernel
theorem dL_lower_11 : decode cL_lower 11 = .ok (.lconst 1, 1) := by decide +kernel
theorem dL_lower_12 : decode cL_lower 12 = .ok (.goto 4, 3) := by decide +kernel
theorem dL_lower_15 : decode cL_lower 15 = .ok (.lconst 0, 1) := by decide +kernel
theorem dL_lower_16 : decode cL_lower 16 = .ok (.lastore, 1) := by decide +kernel
theorem dL_lower_17 : decode cL_lower 17 = .ok (.goto 7, 3) := by decide +kernel
theorem dL_lower_20 : decode cL_lower 20 = .ok (.astore 4, 2) := by decide +kernel
theorem dL_lower_22 : decode cL_lower 22 = .ok (.iconst 1, 1) := by decide +kernel
theorem dL_lower_23 : decode cL_lower 23 = .ok (.ireturn, 1) := by decide +kernel
theorem dL_lower_24 : decode cL_lower 24 = .ok (.iconst 0, 1) := by decide +kernel
theorem dL_lower_25 : decode cL_lower 25 = .ok (.ireturn, 1) := by decide +kernel
theorem vL_lower_n : LkV RL 41 yX6_lower nX6_lower 2 := ⟨tm_3 (List.mem_of_getElem? (i := 154) rfl) rfl, tm_3 (List.mem_of_getElem? (i := 155) rfl) rfl, tm_3 (List.mem_of_getElem? (i := 156) rfl) rfl, tm_1 (List.mem_of_getElem? (i := 1) rfl) rfl, tm_3 (List.mem_of_getElem? (i := 157) rfl) rfl, by decide +kernel, by decide +kernel, by decide +kernel⟩
theorem vL_lower_m : LkV RL 41 yX6_lower mX6_lower 2 := ⟨tm_3 (List.mem_of_getElem? (i := 154) rfl) rfl, tm_3 (List.mem_of_getElem? (i := 155) rfl) rfl, tm_3 (List.mem_of_getElem? (i := 156) rfl) rfl, tm_1 (List.mem_of_getElem? (i := 1) rfl) rfl, tm_3 (List.mem_of_getElem? (i := 157) rfl) rfl, by decide +kernel, by decide +kernel, by decide +kernel⟩
set_option maxHeartbeats 4000000 in
theorem hel_lower {l : Launch} {D : va_G} {τ : Nat → ClassId} {a : Nat → Nat} (ha : Apart (LL τ) a) {V W : Mem} {z : Int} (p1 p2 : Int) {post : Int → Mem → Prop} (hM : CI l D (tysL τ) (LX τ) a yX6_lower nX6_lower [.ref (a 0), .int (iN p1), .int (iN p2)] V post) : CH l D (tysL τ) (LL τ) a yL_lower iL_lower hhL_lower [.ref (a 0), .int (iN p1), .int (iN p2), .ref (a 143)] (mem3 V W z) (fun r U => r = 0 ∧ ∃ z1 V1, post z1 V1 ∧ U = mem3 V1 W (if cz z1 = 0 then 0 else 1)) := by
  refine CH.of (by decide +kernel) rfl (Nat.le_of_ble_eq_true rfl) ha (fun x hq => ?_)
  show G l D (tysL τ) (LL τ) a iL_lower (bmp x 0 0) 0 [(0, .ref (a 0)), (1, .int (iN p1)), (2, .int (iN p2)), (3, .ref (a 143))] [] (mem3 V W z)
  refine g_aload_n 3 dL_lower_0 rfl rfl ?_
  refine g_iconst dL_lower_1 ?_
  refine g_aload_n 0 dL_lower_2 rfl rfl ?_
  refine g_iload_n 1 dL_lower_3 rfl rfl ?_
  refine g_iload_n 2 dL_lower_4 rfl rfl ?_
  refine g_embI (k := 0) [.int (iN p1), .int (iN p2)] emb_X hM vL_lower_n ox_0 rfl rfl ⟨rfl, rfl, by decide, by decide⟩ rfl (Nat.le_of_ble_eq_true rfl) dL_lower_5 rfl (fun z1 V1 h1 => ?_)
  rw [put_X]
  refine g_canon ?_
  refine g_if_eq 15 dL_lower_8 (by decide) (fun c1 => ?_) (fun c1 => ?_) (cz_in z1)
  · refine g_lconst 0 dL_lower_15 rfl ?_
    refine g_last 143 0 al_143 dL_lower_16 rfl (by decide) ?_
    rw [up_out]
    refine g_goto 24 dL_lower_17 (by decide) ?_
    refine g_iconst dL_lower_24 ?_
    exact g_iretH hq ⟨by decide, by decide⟩ rfl dL_lower_25 ⟨rfl, z1, V1, h1, by rw [if_pos c1]⟩
  · refine g_lconst 1 dL_lower_11 rfl ?_
    refine g_goto 16 dL_lower_12 (by decide) ?_
    refine g_last 143 0 al_143 dL_lower_16 rfl (by decide) ?_
    rw [up_out]
    refine g_goto 24 dL_lower_17 (by decide) ?_
    refine g_iconst dL_lower_24 ?_
    exact g_iretH hq ⟨by decide, by decide⟩ rfl dL_lower_25 ⟨rfl, z1, V1, h1, by rw [if_neg c1]⟩
theorem ctL_lower_IO : Ctch hhL_lower 5 20 xIO := ⟨[], [], 0, 17, 19, rfl, by decide, by decide, by decide, tm_2 (List.mem_of_getElem? (i := 120) rfl) rfl, Or.inr rfl, (fun q hq => absurd hq List.not_mem_nil)⟩
set_option maxHeartbeats 4000000 in
theorem hel_lower_IO {l : Launch} {D : va_G} {τ : Nat → ClassId} {a : Nat → Nat} (ha : Apart (LL τ) a) {V W : Mem} {z : Int} (p1 p2 : Int) (hM : CT l D (tysL τ) (LX τ) a yX6_lower mX6_lower [.ref (a 0), .int (iN p1), .int (iN p2)] V xIO) : CH l D (tysL τ) (LL τ) a yL_lower iL_lower hhL_lower [.ref (a 0), .int (iN p1), .int (iN p2), .ref (a 143)] (mem3 V W z) (fun r U => r = 1 ∧ U = mem3 V W z) := by
  refine CH.of (by decide +kernel) rfl (Nat.le_of_ble_eq_true rfl) ha (fun x hq => ?_)
  show G l D (tysL τ) (LL τ) a iL_lower (bmp x 0 0) 0 [(0, .ref (a 0)), (1, .int (iN p1)), (2, .int (iN p2)), (3, .ref (a 143))] [] (mem3 V W z)
  refine g_aload_n 3 dL_lower_0 rfl rfl ?_
  refine g_iconst dL_lower_1 ?_
  refine g_aload_n 0 dL_lower_2 rfl rfl ?_
  refine g_iload_n 1 dL_lower_3 rfl rfl ?_
  refine g_iload_n 2 dL_lower_4 rfl rfl ?_
  refine g_embT (k := 0) [.int (iN p1), .int (iN p2)] hq emb_X hM vL_lower_m rfl ox_0 rfl rfl ⟨by decide, by decide, rfl, rfl, rfl, rfl⟩ ctL_lower_IO rfl (Nat.le_of_ble_eq_true rfl) dL_lower_5 rfl (fun q => ?_)
  refine g_astore [(4, .ref q), (0, .ref (a 0)), (1, .int (iN p1)), (2, .int (iN p2)), (3, .ref (a 143))] dL_lower_20 (by decide) rfl ?_
  refine g_iconst dL_lower_22 ?_
  exact g_iretH hq ⟨by decide, by decide⟩ rfl dL_lower_23 ⟨rfl, rfl⟩
theorem wL_lower : LkH RL 119 yL_lower iL_lower hhL_lower 4 := ⟨tm_3 (List.mem_of_getElem? (i := 151) rfl) rfl, tm_3 (List.mem_of_getElem? (i := 152) rfl) rfl, tm_1 (List.mem_of_getElem? (i := 0) rfl) rfl, tm_3 (List.mem_of_getElem? (i := 153) rfl) rfl, by decide +kernel, by decide +kernel, by decide +kernel⟩
abbrev cL_refill : ByteArray := method_12_code
def yL_refill : MethodName := ⟨RL, "refill", "(LFeederOrders;II[J)I"⟩
abbrev hhL_refill : HH := [(0, 17, 20, 19), (0, 17, 24, 13)]
abbrev iL_refill : MInf := (cL_refill, 5, RL, some .int, { frames := 10, cells := 1, slots := 6, locals := 260 })
theorem dL_refill_0 : decode cL_refill 0 = .ok (.aload_n 3, 1) := by decide +kernel
theorem dL_refill_1 : decode cL_refill 1 = .ok (.iconst 0, 1) := by decide +kernel
theorem dL_refill_2 : decode cL_refill 2 = .ok (.aload_n 0, 1) := by decide +kernel
theorem dL_refill_3 : decode cL_refill 3 = .ok (.iload_n 1, 1) := by decide +kernel
theorem dL_refill_4 : decode cL_refill 4 = .ok (.iload_n 2, 1) := by decide +kernel
theorem dL_refill_5 : decode cL_refill 5 = .ok (.invokevirtual 44, 3) := by decide +kernel
theorem dL_refill_8 : decode cL_refill 8 = .ok (.ifCond .eq 7, 3) := by decide +kernel
theorem dL_refill_11 : decode cL_refill 11 = .ok (.lconst 1, 1) := by decide +kernel
theorem dL_refill_12 : decode cL_refill 12 = .ok (.goto 4, 3) := by decide +kernel
theorem dL_refill_15 : decode cL_refill 15 = .ok (.lconst 0, 1) := by decide +kernel
theorem dL_refill_16 : decode cL_refill 16 = .ok (.lastore, 1) := by decide +kernel
theorem dL_refill_17 : decode cL_refill 17 = .ok (.goto 11, 3) := by decide +kernel
theorem dL_refill_20 : decode cL_refill 20 = .ok (.astore 4, 2) := by decide +kernel
theorem dL_refill_22 : decode cL_refill 22 = .ok (.iconst 1, 1) := by decide +kernel
theorem dL_refill_23 : decode cL_refill 23 = .ok (.ireturn, 1) := by decide +kernel
theorem dL_refill_24 : decode cL_refill 24 = .ok (.astore 4, 2) := by decide +kernel
theorem dL_refill_26 : decode cL_refill 26 = .ok (.iconst 2, 1) := by decide +kernel
theorem dL_refill_27 : decode cL_refill 27 = .ok (.ireturn, 1) := by decide +kernel
theorem dL_refill_28 : decode cL_refill 28 = .ok (.iconst 0, 1) := by decide +kernel
theorem dL_refill_29 : decode cL_refill 29 = .ok (.ireturn, 1) := by decide +kernel
theorem vL_refill_n : LkV RL 44 yX6_refill nX6_refill 2 := ⟨tm_3 (List.mem_of_getElem? (i := 165) rfl) rfl, tm_3 (List.mem_of_getElem? (i := 166) rfl) rfl, tm_3 (List.mem_of_getElem? (i := 167) rfl) rfl, tm_1 (List.mem_of_getElem? (i := 1) rfl) rfl, tm_3 (List.mem_of_getElem? (i := 168) rfl) rfl, by decide +kernel, by decide +kernel, by decide +kernel⟩
theorem vL_refill_m : LkV RL 44 yX6_refill mX6_refill 2 := ⟨tm_3 (List.mem_of_getElem? (i := 165) rfl) rfl, tm_3 (List.mem_of_getElem? (i := 166) rfl) rfl, tm_3 (List.mem_of_getElem? (i := 167) rfl) rfl, tm_1 (List.mem_of_getElem? (i := 1) rfl) rfl, tm_3 (List.mem_of_getElem? (i := 168) rfl) rfl, by decide +kernel, by decide +kernel, by decide +kernel⟩
set_option maxHeartbeats 4000000 in
theorem hel_refill {l : Launch} {D : va_G} {τ : Nat → ClassId} {a : Nat → Nat} (ha : Apart (LL τ) a) {V W : Mem} {z : Int} (p1 p2 : Int) {post : Int → Mem → Prop} (hM : CI l D (tysL τ) (LX τ) a yX6_refill nX6_refill [.ref (a 0), .int (iN p1), .int (iN p2)] V post) : CH l D (tysL τ) (LL τ) a yL_refill iL_refill hhL_refill [.ref (a 0), .int (iN p1), .int (iN p2), .ref (a 143)] (mem3 V W z) (fun r U => r = 0 ∧ ∃ z1 V1, post z1 V1 ∧ U = mem3 V1 W (if cz z1 = 0 then 0 else 1)) := by
  refine CH.of (by decide +kernel) rfl (Nat.le_of_ble_eq_true rfl) ha (fun x hq => ?_)
  show G l D (tysL τ) (LL τ) a iL_refill (bmp x 0 0) 0 [(0, .ref (a 0)), (1, .int (iN p1)), (2, .int (iN p2)), (3, .ref (a 143))] [] (mem3 V W z)
  refine g_aload_n 3 dL_refill_0 rfl rfl ?_
  refine g_iconst dL_refill_1 ?_
  refine g_aload_n 0 dL_refill_2 rfl rfl ?_
  refine g_iload_n 1 dL_refill_3 rfl rfl ?_
  refine g_iload_n 2 dL_refill_4 rfl rfl ?_
  refine g_embI (k := 0) [.int (iN p1), .int (iN p2)] emb_X hM vL_refill_n ox_0 rfl rfl ⟨rfl, rfl, by decide, by decide⟩ rfl (Nat.le_of_ble_eq_true rfl) dL_refill_5 rfl (fun z1 V1 h1 => ?_)
  rw [put_X]
  refine g_canon ?_
  refine g_if_eq 15 dL_refill_8 (by decide) (fun c1 => ?_) (fun c1 => ?_) (cz_in z1)
  · refine g_lconst 0 dL_refill_15 rfl ?_
    refine g_last 143 0 al_143 dL_refill_16 rfl (by decide) ?_
    rw [up_out]
    refine g_goto 28 dL_refill_17 (by decide) ?_
    refine g_iconst dL_refill_28 ?_
    exact g_iretH hq ⟨by decide, by decide⟩ rfl dL_refill_29 ⟨rfl, z1, V1, h1, by rw [if_pos c1]⟩
  · refine g_lconst 1 dL_refill_11 rfl ?_
    refine g_goto 16 dL_refill_12 (by decide) ?_
    refine g_last 143 0 al_143 dL_refill_16 rfl (by decide) ?_
    rw [up_out]
    refine g_goto 28 dL_refill_17 (by decide) ?_
    refine g_iconst dL_refill_28 ?_
    exact g_iretH hq ⟨by decide, by decide⟩ rfl dL_refill_29 ⟨rfl, z1, V1, h1, by rw [if_neg c1]⟩
theorem ctL_refill_IO : Ctch hhL_refill 5 20 xIO := ⟨[], [(0, 17, 24, 13)], 0, 17, 19, rfl, by decide, by decide, by decide, tm_2 (List.mem_of_getElem? (i := 120) rfl) rfl, Or.inr rfl, (fun q hq => absurd hq List.not_mem_nil)⟩
set_option maxHeartbeats 4000000 in
theorem hel_refill_IO {l : Launch} {D : va_G} {τ : Nat → ClassId} {a : Nat → Nat} (ha : Apart (LL τ) a) {V W : Mem} {z : Int} (p1 p2 : Int) (hM : CT l D (tysL τ) (LX τ) a yX6_refill mX6_refill [.ref (a 0), .int (iN p1), .int (iN p2)] V xIO) : CH l D (tysL τ) (LL τ) a yL_refill iL_refill hhL_refill [.ref (a 0), .int (iN p1), .int (iN p2), .ref (a 143)] (mem3 V W z) (fun r U => r = 1 ∧ U = mem3 V W z) := by
  refine CH.of (by decide +kernel) rfl (Nat.le_of_ble_eq_true rfl) ha (fun x hq => ?_)
  show G l D (tysL τ) (LL τ) a iL_refill (bmp x 0 0) 0 [(0, .ref (a 0)), (1, .int (iN p1)), (2, .int (iN p2)), (3, .ref (a 143))] [] (mem3 V W z)
  refine g_aload_n 3 dL_refill_0 rfl rfl ?_
  refine g_iconst dL_refill_1 ?_
  refine g_aload_n 0 dL_refill_2 rfl rfl ?_
  refine g_iload_n 1 dL_refill_3 rfl rfl ?_
  refine g_iload_n 2 dL_refill_4 rfl rfl ?_
  refine g_embT (k := 0) [.int (iN p1), .int (iN p2)] hq emb_X hM vL_refill_m rfl ox_0 rfl rfl ⟨by decide, by decide, rfl, rfl, rfl, rfl⟩ ctL_refill_IO rfl (Nat.le_of_ble_eq_true rfl) dL_refill_5 rfl (fun q => ?_)
  refine g_astore [(4, .ref q), (0, .ref (a 0)), (1, .int (iN p1)), (2, .int (iN p2)), (3, .ref (a 143))] dL_refill_20 (by decide) rfl ?_
  refine g_iconst dL_refill_22 ?_
  exact g_iretH hq ⟨by decide, by decide⟩ rfl dL_refill_23 ⟨rfl, rfl⟩
theorem ctL_refill_IA : Ctch hhL_refill 5 24 xIA := ⟨[(0, 17, 20, 19)], [], 0, 17, 13, rfl, by decide, by decide, by decide, tm_2 (List.mem_of_getElem? (i := 40) rfl) rfl, Or.inl rfl, (fun q hq => by rw [List.mem_singleton.mp hq]; exact ⟨by decide, rfl, tm_2 (List.mem_of_getElem? (i := 120) rfl) rfl⟩)⟩
set_option maxHeartbeats 4000000 in
theorem hel_refill_IA {l : Launch} {D : va_G} {τ : Nat → ClassId} {a : Nat → Nat} (ha : Apart (LL τ) a) {V W : Mem} {z : Int} (p1 p2 : Int) (hM : CT l D (tysL τ) (LX τ) a yX6_refill mX6_refill [.ref (a 0), .int (iN p1), .int (iN p2)] V xIA) : CH l D (tysL τ) (LL τ) a yL_refill iL_refill hhL_refill [.ref (a 0), .int (iN p1), .int (iN p2), .ref (a 143)] (mem3 V W z) (fun r U => r = 2 ∧ U = mem3 V W z) := by
  refine CH.of (by decide +kernel) rfl (Nat.le_of_ble_eq_true rfl) ha (fun x hq => ?_)
  show G l D (tysL τ) (LL τ) a iL_refill (bmp x 0 0) 0 [(0, .ref (a 0)), (1, .int (iN p1)), (2, .int (iN p2)), (3, .ref (a 143))] [] (mem3 V W z)
  refine g_aload_n 3 dL_refill_0 rfl rfl ?_
  refine g_iconst dL_refill_1 ?_
  refine g_aload_n 0 dL_refill_2 rfl rfl ?_
  refine g_iload_n 1 dL_refill_3 rfl rfl ?_
  refine g_iload_n 2 dL_refill_4 rfl rfl ?_
  refine g_embT (k := 0) [.int (iN p1), .int (iN p2)] hq emb_X hM vL_refill_m rfl ox_0 rfl rfl ⟨by decide, by decide, rfl, rfl, rfl, rfl⟩ ctL_refill_IA rfl (Nat.le_of_ble_eq_true rfl) dL_refill_5 rfl (fun q => ?_)
  refine g_astore [(4, .ref q), (0, .ref (a 0)), (1, .int (iN p1)), (2, .int (iN p2)), (3, .ref (a 143))] dL_refill_24 (by decide) rfl ?_
  refine g_iconst dL_refill_26 ?_
  exact g_iretH hq ⟨by decide, by decide⟩ rfl dL_refill_27 ⟨rfl, rfl⟩
theorem wL_refill : LkH RL 122 yL_refill iL_refill hhL_refill 4 := ⟨tm_3 (List.mem_of_getElem? (i := 162) rfl) rfl, tm_3 (List.mem_of_getElem? (i := 163) rfl) rfl, tm_1 (List.mem_of_getElem? (i := 0) rfl) rfl, tm_3 (List.mem_of_getElem? (i := 164) rfl) rfl, by decide +kernel, by decide +kernel, by decide +kernel⟩
abbrev cL_reject : ByteArray := method_13_code
def yL_reject : MethodName := ⟨RL, "reject", "(LFeederOrders;IJJ[J)I"⟩
abbrev hhL_reject : HH := [(0, 20, 23, 19), (0, 20, 27, 13)]
abbrev iL_reject : MInf := (cL_reject, 8, RL, some .int, { frames := 10, cells := 1, slots := 6, locals := 260 })
theorem dL_reject_0 : decode cL_reject 0 = .ok (.aload 6, 2) := by decide +kernel
theorem dL_reject_2 : decode cL_reject 2 = .ok (.iconst 0, 1) := by decide +kernel
theorem dL_reject_3 : decode cL_reject 3 = .ok (.aload_n 0, 1) := by decide +kernel
theorem dL_reject_4 : decode cL_reject 4 = .ok (.iload_n 1, 1) := by decide +kernel
theorem dL_reject_5 : decode cL_reject 5 = .ok (.lload_n 2, 1) := by decide +kernel
theorem dL_reject_6 : decode cL_reject 6 = .ok (.lload 4, 2) := by decide +kernel
theorem dL_reject_8 : decode cL_reject 8 = .ok (.invokevirtual 47, 3) := by decide +kernel
theorem dL_reject_11 : decode cL_reject 11 = .ok (.ifCond .eq 7, 3) := by decide +kernel
theorem dL_reject_14 : decode cL_reject 14 = .ok (.lconst 1, 1) := by decide +kernel
theorem dL_reject_15 : decode cL_reject 15 = .ok (.goto 4, 3) := by decide +kernel
theorem dL_reject_18 : decode cL_reject 18 = .ok (.lconst 0, 1) := by decide +kernel
theorem dL_reject_19 : decode cL_reject 19 = .ok (.lastore, 1) := by decide +kernel
theorem dL_reject_20 : decode cL_reject 20 = .ok (.goto 11, 3) := by decide +kernel
theorem dL_reject_23 : decode cL_reject 23 = .ok (.astore 7, 2) := by decide +kernel
theorem dL_reject_25 : decode cL_reject 25 = .ok (.iconst 1, 1) := by decide +kernel
theorem dL_reject_26 : decode cL_reject 26 = .ok (.ireturn, 1) := by decide +kernel
theorem dL_reject_27 : decode cL_reject 27 = .ok (.astore 7, 2) := by decide +kernel
theorem dL_reject_29 : decode cL_reject 29 = .ok (.iconst 2, 1) := by decide +kernel
theorem dL_reject_30 : decode cL_reject 30 = .ok (.ireturn, 1) := by decide +kernel
theorem dL_reject_31 : decode cL_reject 31 = .ok (.iconst 0, 1) := by decide +kernel
theorem dL_reject_32 : decode cL_reject 32 = .ok (.ireturn, 1) := by decide +kernel
theorem vL_reject_n : LkV RL 47 yX6_reject nX6_reject 3 := ⟨tm_3 (List.mem_of_getElem? (i := 173) rfl) rfl, tm_3 (List.mem_of_getElem? (i := 174) rfl) rfl, tm_3 (List.mem_of_getElem? (i := 175) rfl) rfl, tm_1 (List.mem_of_getElem? (i := 1) rfl) rfl, tm_3 (List.mem_of_getElem? (i := 176) rfl) rfl, by decide +kernel, by decide +kernel, by decide +kernel⟩
theorem vL_reject_m : LkV RL 47 yX6_reject mX6_reject 3 := ⟨tm_3 (List.mem_of_getElem? (i := 173) rfl) rfl, tm_3 (List.mem_of_getElem? (i := 174) rfl) rfl, tm_3 (List.mem_of_getElem? (i := 175) rfl) rfl, tm_1 (List.mem_of_getElem? (i := 1) rfl) rfl, tm_3 (List.mem_of_getElem? (i := 176) rfl) rfl, by decide +kernel, by decide +kernel, by decide +kernel⟩
set_option maxHeartbeats 4000000 in
theorem hel_reject {l : Launch} {D : va_G} {τ : Nat → ClassId} {a : Nat → Nat} (ha : Apart (LL τ) a) {V W : Mem} {z : Int} (p1 p2 p3 : Int) {post : Int → Mem → Prop} (hM : CI l D (tysL τ) (LX τ) a yX6_reject nX6_reject [.ref (a 0), .int (iN p1), .long (jN p2), .long (jN p3)] V post) : CH l D (tysL τ) (LL τ) a yL_reject iL_reject hhL_reject [.ref (a 0), .int (iN p1), .long (jN p2), .long (jN p3), .ref (a 143)] (mem3 V W z) (fun r U => r = 0 ∧ ∃ z1 V1, post z1 V1 ∧ U = mem3 V1 W (if cz z1 = 0 then 0 else 1)) := by
  refine CH.of (by decide +kernel) rfl (Nat.le_of_ble_eq_true rfl) ha (fun x hq => ?_)
  show G l D (tysL τ) (LL τ) a iL_reject (bmp x 0 0) 0 [(0, .ref (a 0)), (1, .int (iN p1)), (2, .long (jN p2)), (4, .long (jN p3)), (6, .ref (a 143))] [] (mem3 V W z)
  refine g_aload 4 dL_reject_0 rfl ?_
  refine g_iconst dL_reject_2 ?_
  refine g_aload_n 0 dL_reject_3 rfl rfl ?_
  refine g_iload_n 1 dL_reject_4 rfl rfl ?_
  refine g_lload_n 2 dL_reject_5 rfl rfl ?_
  refine g_lload 3 dL_reject_6 rfl ?_
  refine g_embI (k := 0) [.int (iN p1), .long (jN p2), .long (jN p3)] emb_X hM vL_reject_n ox_0 rfl rfl ⟨rfl, rfl, by decide, by decide⟩ rfl (Nat.le_of_ble_eq_true rfl) dL_reject_8 rfl (fun z1 V1 h1 => ?_)
  rw [put_X]
  refine g_canon ?_
  refine g_if_eq 18 dL_reject_11 (by decide) (fun c1 => ?_) (fun c1 => ?_) (cz_in z1)
  · refine g_lconst 0 dL_reject_18 rfl ?_
    refine g_last 143 0 al_143 dL_reject_19 rfl (by decide) ?_
    rw [up_out]
    refine g_goto 31 dL_reject_20 (by decide) ?_
    refine g_iconst dL_reject_31 ?_
    exact g_iretH hq ⟨by decide, by decide⟩ rfl dL_reject_32 ⟨rfl, z1, V1, h1, by rw [if_pos c1]⟩
  · refine g_lconst 1 dL_reject_14 rfl ?_
    refine g_goto 19 dL_reject_15 (by decide) ?_
    refine g_last 143 0 al_143 dL_reject_19 rfl (by decide) ?_
    rw [up_out]
    refine g_goto 31 dL_reject_20 (by decide) ?_
    refine g_iconst dL_reject_31 ?_
    exact g_iretH hq ⟨by decide, by decide⟩ rfl dL_reject_32 ⟨rfl, z1, V1, h1, by rw [if_neg c1]⟩
theorem ctL_reject_IO : Ctch hhL_reject 8 23 xIO := ⟨[], [(0, 20, 27, 13)], 0, 20, 19, rfl, by decide, by decide, by decide, tm_2 (List.mem_of_getElem? (i := 120) rfl) rfl, Or.inr rfl, (fun q hq => absurd hq List.not_mem_nil)⟩
set_option maxHeartbeats 4000000 in
theorem hel_reject_IO {l : Launch} {D : va_G} {τ : Nat → ClassId} {a : Nat → Nat} (ha : Apart (LL τ) a) {V W : Mem} {z : Int} (p1 p2 p3 : Int) (hM : CT l D (tysL τ) (LX τ) a yX6_reject mX6_reject [.ref (a 0), .int (iN p1), .long (jN p2), .long (jN p3)] V xIO) : CH l D (tysL τ) (LL τ) a yL_reject iL_reject hhL_reject [.ref (a 0), .int (iN p1), .long (jN p2), .long (jN p3), .ref (a 143)] (mem3 V W z) (fun r U => r = 1 ∧ U = mem3 V W z) := by
  refine CH.of (by decide +kernel) rfl (Nat.le_of_ble_eq_true rfl) ha (fun x hq => ?_)
  show G l D (tysL τ) (LL τ) a iL_reject (bmp x 0 0) 0 [(0, .ref (a 0)), (1, .int (iN p1)), (2, .long (jN p2)), (4, .long (jN p3)), (6, .ref (a 143))] [] (mem3 V W z)
  refine g_aload 4 dL_reject_0 rfl ?_
  refine g_iconst dL_reject_2 ?_
  refine g_aload_n 0 dL_reject_3 rfl rfl ?_
  refine g_iload_n 1 dL_reject_4 rfl rfl ?_
  refine g_lload_n 2 dL_reject_5 rfl rfl ?_
  refine g_lload 3 dL_reject_6 rfl ?_
  refine g_embT (k := 0) [.int (iN p1), .long (jN p2), .long (jN p3)] hq emb_X hM vL_reject_m rfl ox_0 rfl rfl ⟨by decide, by decide, rfl, rfl, rfl, rfl⟩ ctL_reject_IO rfl (Nat.le_of_ble_eq_true rfl) dL_reject_8 rfl (fun q => ?_)
  refine g_astore [(7, .ref q), (0, .ref (a 0)), (1, .int (iN p1)), (2, .long (jN p2)), (4, .long (jN p3)), (6, .ref (a 143))] dL_reject_23 (by decide) rfl ?_
  refine g_iconst dL_reject_25 ?_
  exact g_iretH hq ⟨by decide, by decide⟩ rfl dL_reject_26 ⟨rfl, rfl⟩
theorem ctL_reject_IA : Ctch hhL_reject 8 27 xIA := ⟨[(0, 20, 23, 19)], [], 0, 20, 13, rfl, by decide, by decide, by decide, tm_2 (List.mem_of_getElem? (i := 40) rfl) rfl, Or.inl rfl, (fun q hq => by rw [List.mem_singleton.mp hq]; exact ⟨by decide, rfl, tm_2 (List.mem_of_getElem? (i := 120) rfl) rfl⟩)⟩
set_option maxHeartbeats 4000000 in
theorem hel_reject_IA {l : Launch} {D : va_G} {τ : Nat → ClassId} {a : Nat → Nat} (ha : Apart (LL τ) a) {V W : Mem} {z : Int} (p1 p2 p3 : Int) (hM : CT l D (tysL τ) (LX τ) a yX6_reject mX6_reject [.ref (a 0), .int (iN p1), .long (jN p2), .long (jN p3)] V xIA) : CH l D (tysL τ) (LL τ) a yL_reject iL_reject hhL_reject [.ref (a 0), .int (iN p1), .long (jN p2), .long (jN p3), .ref (a 143)] (mem3 V W z) (fun r U => r = 2 ∧ U = mem3 V W z) := by
  refine CH.of (by decide +kernel) rfl (Nat.le_of_ble_eq_true rfl) ha (fun x hq => ?_)
  show G l D (tysL τ) (LL τ) a iL_reject (bmp x 0 0) 0 [(0, .ref (a 0)), (1, .int (iN p1)), (2, .long (jN p2)), (4, .long (jN p3)), (6, .ref (a 143))] [] (mem3 V W z)
  refine g_aload 4 dL_reject_0 rfl ?_
  refine g_iconst dL_reject_2 ?_
  refine g_aload_n 0 dL_reject_3 rfl rfl ?_
  refine g_iload_n 1 dL_reject_4 rfl rfl ?_
  refine g_lload_n 2 dL_reject_5 rfl rfl ?_
  refine g_lload 3 dL_reject_6 rfl ?_
  refine g_embT (k := 0) [.int (iN p1), .long (jN p2), .long (jN p3)] hq emb_X hM vL_reject_m rfl ox_0 rfl rfl ⟨by decide, by decide, rfl, rfl, rfl, rfl⟩ ctL_reject_IA rfl (Nat.le_of_ble_eq_true rfl) dL_reject_8 rfl (fun q => ?_)
  refine g_astore [(7, .ref q), (0, .ref (a 0)), (1, .int (iN p1)), (2, .long (jN p2)), (4, .long (jN p3)), (6, .ref (a 143))] dL_reject_27 (by decide) rfl ?_
  refine g_iconst dL_reject_29 ?_
  exact g_iretH hq ⟨by decide, by decide⟩ rfl dL_reject_30 ⟨rfl, rfl⟩
theorem wL_reject : LkH RL 125 yL_reject iL_reject hhL_reject 5 := ⟨tm_3 (List.mem_of_getElem? (i := 170) rfl) rfl, tm_3 (List.mem_of_getElem? (i := 171) rfl) rfl, tm_1 (List.mem_of_getElem? (i := 0) rfl) rfl, tm_3 (List.mem_of_getElem? (i := 172) rfl) rfl, by decide +kernel, by decide +kernel, by decide +kernel⟩
abbrev cL_machineOf : ByteArray := method_14_code
def yL_machineOf : MethodName := ⟨RL, "machineOf", "(LFeederOrders;I[J)I"⟩
abbrev hhL_machineOf : HH := [(0, 9, 12, 19)]
abbrev iL_machineOf : MInf := (cL_machineOf, 4, RL, some .int, { frames := 10, cells := 1, slots := 6, locals := 260 })
theorem dL_machineOf_0 : decode cL_machineOf 0 = .ok (.aload_n 2, 1) := by decide +kernel
theorem dL_machineOf_1 : decode cL_machineOf 1 = .ok (.iconst 0, 1) := by decide +kernel
theorem dL_machineOf_2 : decode cL_machineOf 2 = .ok (.aload_n 0, 1) := by decide +kernel
theorem dL_machineOf_3 : decode cL_machineOf 3 = .ok (.iload_n 1, 1) := by decide +kernel
theorem dL_machineOf_4 : decode cL_machineOf 4 = .ok (.invokevirtual 51, 3) := by decide +kernel
theorem dL_machineOf_7 : decode cL_machineOf 7 = .ok (.i2l, 1) := by decide +kernel
theorem dL_machineOf_8 : decode cL_machineOf 8 = .ok (.lastore, 1) := by decide +kernel
theorem dL_machineOf_9 : decode cL_machineOf 9 = .ok (.goto 6, 3) := by decide +kernel
theorem dL_machineOf_12 : decode cL_machineOf 12 = .ok (.astore_n 3, 1) := by decide +kernel
theorem dL_machineOf_13 : decode cL_machineOf 13 = .ok (.iconst 1, 1) := by decide +kernel
theorem dL_machineOf_14 : decode cL_machineOf 14 = .ok (.ireturn, 1) := by decide +kernel
theorem dL_machineOf_15 : decode cL_machineOf 15 = .ok (.iconst 0, 1) := by decide +kernel
theorem dL_machineOf_16 : decode cL_machineOf 16 = .ok (.ireturn, 1) := by decide +kernel
theorem vL_machineOf_n : LkV RL 51 yX6_machineOf nX6_machineOf 1 := ⟨tm_3 (List.mem_of_getElem? (i := 183) rfl) rfl, tm_3 (List.mem_of_getElem? (i := 184) rfl) rfl, tm_3 (List.mem_of_getElem? (i := 185) rfl) rfl, tm_1 (List.mem_of_getElem? (i := 1) rfl) rfl, tm_3 (List.mem_of_getElem? (i := 186) rfl) rfl, by decide +kernel, by decide +kernel, by decide +kernel⟩
theorem vL_machineOf_m : LkV RL 51 yX6_machineOf mX6_machineOf 1 := ⟨tm_3 (List.mem_of_getElem? (i := 183) rfl) rfl, tm_3 (List.mem_of_getElem? (i := 184) rfl) rfl, tm_3 (List.mem_of_getElem? (i := 185) rfl) rfl, tm_1 (List.mem_of_getElem? (i := 1) rfl) rfl, tm_3 (List.mem_of_getElem? (i := 186) rfl) rfl, by decide +kernel, by decide +kernel, by decide +kernel⟩
set_option maxHeartbeats 4000000 in
theorem hel_machineOf {l : Launch} {D : va_G} {τ : Nat → ClassId} {a : Nat → Nat} (ha : Apart (LL τ) a) {V W : Mem} {z : Int} (p1 : Int) {post : Int → Mem → Prop} (hM : CI l D (tysL τ) (LX τ) a yX6_machineOf nX6_machineOf [.ref (a 0), .int (iN p1)] V post) : CH l D (tysL τ) (LL τ) a yL_machineOf iL_machineOf hhL_machineOf [.ref (a 0), .int (iN p1), .ref (a 143)] (mem3 V W z) (fun r U => r = 0 ∧ ∃ z1 V1, post z1 V1 ∧ U = mem3 V1 W (cz z1)) := by
  refine CH.of (by decide +kernel) rfl (Nat.le_of_ble_eq_true rfl) ha (fun x hq => ?_)
  show G l D (tysL τ) (LL τ) a iL_machineOf (bmp x 0 0) 0 [(0, .ref (a 0)), (1, .int (iN p1)), (2, .ref (a 143))] [] (mem3 V W z)
  refine g_aload_n 2 dL_machineOf_0 rfl rfl ?_
  refine g_iconst dL_machineOf_1 ?_
  refine g_aload_n 0 dL_machineOf_2 rfl rfl ?_
  refine g_iload_n 1 dL_machineOf_3 rfl rfl ?_
  refine g_embI (k := 0) [.int (iN p1)] emb_X hM vL_machineOf_n ox_0 rfl rfl ⟨rfl, rfl, by decide, by decide⟩ rfl (Nat.le_of_ble_eq_true rfl) dL_machineOf_4 rfl (fun z1 V1 h1 => ?_)
  rw [put_X]
  refine g_canon ?_
  refine g_i2l dL_machineOf_7 (cz_in z1) ?_
  refine g_last 143 0 al_143 dL_machineOf_8 rfl (by decide) ?_
  rw [up_out]
  refine g_goto 15 dL_machineOf_9 (by decide) ?_
  refine g_iconst dL_machineOf_15 ?_
  exact g_iretH hq ⟨by decide, by decide⟩ rfl dL_machineOf_16 ⟨rfl, z1, V1, h1, rfl⟩
theorem ctL_machineOf_IO : Ctch hhL_machineOf 4 12 xIO := ⟨[], [], 0, 9, 19, rfl, by decide, by decide, by decide, tm_2 (List.mem_of_getElem? (i := 120) rfl) rfl, Or.inr rfl, (fun q hq => absurd hq List.not_mem_nil)⟩
set_option maxHeartbeats 4000000 in
theorem hel_machineOf_IO {l : Launch} {D : va_G} {τ : Nat → ClassId} {a : Nat → Nat} (ha : Apart (LL τ) a) {V W : Mem} {z : Int} (p1 : Int) (hM : CT l D (tysL τ) (LX τ) a yX6_machineOf mX6_machineOf [.ref (a 0), .int (iN p1)] V xIO) : CH l D (tysL τ) (LL τ) a yL_machineOf iL_machineOf hhL_machineOf [.ref (a 0), .int (iN p1), .ref (a 143)] (mem3 V W z) (fun r U => r = 1 ∧ U = mem3 V W z) := by
  refine CH.of (by decide +kernel) rfl (Nat.le_of_ble_eq_true rfl) ha (fun x hq => ?_)
  show G l D (tysL τ) (LL τ) a iL_machineOf (bmp x 0 0) 0 [(0, .ref (a 0)), (1, .int (iN p1)), (2, .ref (a 143))] [] (mem3 V W z)
  refine g_aload_n 2 dL_machineOf_0 rfl rfl ?_
  refine g_iconst dL_machineOf_1 ?_
  refine g_aload_n 0 dL_machineOf_2 rfl rfl ?_
  refine g_iload_n 1 dL_machineOf_3 rfl rfl ?_
  refine g_embT (k := 0) [.int (iN p1)] hq emb_X hM vL_machineOf_m rfl ox_0 rfl rfl ⟨by decide, by decide, rfl, rfl, rfl, rfl⟩ ctL_machineOf_IO rfl (Nat.le_of_ble_eq_true rfl) dL_machineOf_4 rfl (fun q => ?_)
  refine g_astore_n [(3, .ref q), (0, .ref (a 0)), (1, .int (iN p1)), (2, .ref (a 143))] dL_machineOf_12 rfl (by decide) rfl ?_
  refine g_iconst dL_machineOf_13 ?_
  exact g_iretH hq ⟨by decide, by decide⟩ rfl dL_machineOf_14 ⟨rfl, rfl⟩
theorem wL_machineOf : LkH RL 129 yL_machineOf iL_machineOf hhL_machineOf 3 := ⟨tm_3 (List.mem_of_getElem? (i := 180) rfl) rfl, tm_3 (List.mem_of_getElem? (i := 181) rfl) rfl, tm_1 (List.mem_of_getElem? (i := 0) rfl) rfl, tm_3 (List.mem_of_getElem? (i := 182) rfl) rfl, by decide +kernel, by decide +kernel, by decide +kernel⟩
abbrev cL_improve : ByteArray := method_15_code
def yL_improve : MethodName := ⟨RL, "improve", "(LFeederOrders;I[J)I"⟩
abbrev hhL_improve : HH := [(0, 9, 12, 13)]
abbrev iL_improve : MInf := (cL_improve, 4, RL, some .int, { frames := 10, cells := 1, slots := 6, locals := 260 })
theorem dL_improve_0 : decode cL_improve 0 = .ok (.aload_n 2, 1) := by decide +kernel
theorem dL_improve_1 : decode cL_improve 1 = .ok (.iconst 0, 1) := by decide +kernel
theorem dL_improve_2 : decode cL_improve 2 = .ok (.aload_n 0, 1) := by decide +kernel
theorem dL_improve_3 : decode cL_improve 3 = .ok (.iload_n 1, 1) := by decide +kernel
theorem dL_improve_4 : decode cL_improve 4 = .ok (.invokevirtual 55, 3) := by decide +kernel
theorem dL_improve_7 : decode cL_improve 7 = .ok (.i2l, 1) := by decide +kernel
theorem dL_improve_8 : decode cL_improve 8 = .ok (.lastore, 1) := by decide +kernel
theorem dL_improve_9 : decode cL_improve 9 = .ok (.goto 6, 3) := by decide +kernel
theorem dL_improve_12 : decode cL_improve 12 = .ok (.astore_n 3, 1) := by decide +kernel
theorem dL_improve_13 : decode cL_improve 13 = .ok (.iconst 1, 1) := by decide +kernel
theorem dL_improve_14 : decode cL_improve 14 = .ok (.ireturn, 1) := by decide +kernel
theorem dL_improve_15 : decode cL_improve 15 = .ok (.iconst 0, 1) := by decide +kernel
theorem dL_improve_16 : decode cL_improve 16 = .ok (.ireturn, 1) := by decide +kernel
theorem vL_improve_n : LkV RL 55 yX6_improve nX6_improve 1 := ⟨tm_3 (List.mem_of_getElem? (i := 190) rfl) rfl, tm_3 (List.mem_of_getElem? (i := 191) rfl) rfl, tm_3 (List.mem_of_getElem? (i := 192) rfl) rfl, tm_1 (List.mem_of_getElem? (i := 1) rfl) rfl, tm_3 (List.mem_of_getElem? (i := 193) rfl) rfl, by decide +kernel, by decide +kernel, by decide +kernel⟩
theorem vL_improve_m : LkV RL 55 yX6_improve mX6_improve 1 := ⟨tm_3 (List.mem_of_getElem? (i := 190) rfl) rfl, tm_3 (List.mem_of_getElem? (i := 191) rfl) rfl, tm_3 (List.mem_of_getElem? (i := 192) rfl) rfl, tm_1 (List.mem_of_getElem? (i := 1) rfl) rfl, tm_3 (List.mem_of_getElem? (i := 193) rfl) rfl, by decide +kernel, by decide +kernel, by decide +kernel⟩
set_option maxHeartbeats 4000000 in
theorem hel_improve {l : Launch} {D : va_G} {τ : Nat → ClassId} {a : Nat → Nat} (ha : Apart (LL τ) a) {V W : Mem} {z : Int} (p1 : Int) {post : Int → Mem → Prop} (hM : CI l D (tysL τ) (LX τ) a yX6_improve nX6_improve [.ref (a 0), .int (iN p1)] V post) : CH l D (tysL τ) (LL τ) a yL_improve iL_improve hhL_improve [.ref (a 0), .int (iN p1), .ref (a 143)] (mem3 V W z) (fun r U => r = 0 ∧ ∃ z1 V1, post z1 V1 ∧ U = mem3 V1 W (cz z1)) := by
  refine CH.of (by decide +kernel) rfl (Nat.le_of_ble_eq_true rfl) ha (fun x hq => ?_)
  show G l D (tysL τ) (LL τ) a iL_improve (bmp x 0 0) 0 [(0, .ref (a 0)), (1, .int (iN p1)), (2, .ref (a 143))] [] (mem3 V W z)
  refine g_aload_n 2 dL_improve_0 rfl rfl ?_
  refine g_iconst dL_improve_1 ?_
  refine g_aload_n 0 dL_improve_2 rfl rfl ?_
  refine g_iload_n 1 dL_improve_3 rfl rfl ?_
  refine g_embI (k := 0) [.int (iN p1)] emb_X hM vL_improve_n ox_0 rfl rfl ⟨rfl, rfl, by decide, by decide⟩ rfl (Nat.le_of_ble_eq_true rfl) dL_improve_4 rfl (fun z1 V1 h1 => ?_)
  rw [put_X]
  refine g_canon ?_
  refine g_i2l dL_improve_7 (cz_in z1) ?_
  refine g_last 143 0 al_143 dL_improve_8 rfl (by decide) ?_
  rw [up_out]
  refine g_goto 15 dL_improve_9 (by decide) ?_
  refine g_iconst dL_improve_15 ?_
  exact g_iretH hq ⟨by decide, by decide⟩ rfl dL_improve_16 ⟨rfl, z1, V1, h1, rfl⟩
theorem ctL_improve_IA : Ctch hhL_improve 4 12 xIA := ⟨[], [], 0, 9, 13, rfl, by decide, by decide, by decide, tm_2 (List.mem_of_getElem? (i := 40) rfl) rfl, Or.inl rfl, (fun q hq => absurd hq List.not_mem_nil)⟩
set_option maxHeartbeats 4000000 in
theorem hel_improve_IA {l : Launch} {D : va_G} {τ : Nat → ClassId} {a : Nat → Nat} (ha : Apart (LL τ) a) {V W : Mem} {z : Int} (p1 : Int) (hM : CT l D (tysL τ) (LX τ) a yX6_improve mX6_improve [.ref (a 0), .int (iN p1)] V xIA) : CH l D (tysL τ) (LL τ) a yL_improve iL_improve hhL_improve [.ref (a 0), .int (iN p1), .ref (a 143)] (mem3 V W z) (fun r U => r = 1 ∧ U = mem3 V W z) := by
  refine CH.of (by decide +kernel) rfl (Nat.le_of_ble_eq_true rfl) ha (fun x hq => ?_)
  show G l D (tysL τ) (LL τ) a iL_improve (bmp x 0 0) 0 [(0, .ref (a 0)), (1, .int (iN p1)), (2, .ref (a 143))] [] (mem3 V W z)
  refine g_aload_n 2 dL_improve_0 rfl rfl ?_
  refine g_iconst dL_improve_1 ?_
  refine g_aload_n 0 dL_improve_2 rfl rfl ?_
  refine g_iload_n 1 dL_improve_3 rfl rfl ?_
  refine g_embT (k := 0) [.int (iN p1)] hq emb_X hM vL_improve_m rfl ox_0 rfl rfl ⟨by decide, by decide, rfl, rfl, rfl, rfl⟩ ctL_improve_IA rfl (Nat.le_of_ble_eq_true rfl) dL_improve_4 rfl (fun q => ?_)
  refine g_astore_n [(3, .ref q), (0, .ref (a 0)), (1, .int (iN p1)), (2, .ref (a 143))] dL_improve_12 rfl (by decide) rfl ?_
  refine g_iconst dL_improve_13 ?_
  exact g_iretH hq ⟨by decide, by decide⟩ rfl dL_improve_14 ⟨rfl, rfl⟩
theorem wL_improve : LkH RL 133 yL_improve iL_improve hhL_improve 3 := ⟨tm_3 (List.mem_of_getElem? (i := 187) rfl) rfl, tm_3 (List.mem_of_getElem? (i := 188) rfl) rfl, tm_1 (List.mem_of_getElem? (i := 0) rfl) rfl, tm_3 (List.mem_of_getElem? (i := 189) rfl) rfl, by decide +kernel, by decide +kernel, by decide +kernel⟩
abbrev cL_common : ByteArray := method_16_code
def yL_common : MethodName := ⟨RL, "common", "(LFeederOrders;II[J)I"⟩
abbrev hhL_common : HH := [(0, 17, 20, 19)]
abbrev iL_common : MInf := (cL_common, 5, RL, some .int, { frames := 10, cells := 1, slots := 6, locals := 260 })
theorem dL_common_0 : decode cL_common 0 = .ok (.aload_n 3, 1) := by decide +kernel
theorem dL_common_1 : decode cL_common 1 = .ok (.iconst 0, 1) := by decide +kernel
theorem dL_common_2 : decode cL_common 2 = .ok (.aload_n 0, 1) := by decide +kernel
theorem dL_common_3 : decode cL_common 3 = .ok (.iload_n 1, 1) := by decide +kernel
theorem dL_common_4 : decode cL_common 4 = .ok (.iload_n 2, 1) := by decide +kernel
theorem dL_common_5 : decode cL_common 5 = .ok (.invokevirtual 58, 3) := by decide +kernel
theorem dL_common_8 : decode cL_common 8 = .ok (.ifCond .eq 7, 3) := by decide +kernel
theorem dL_common_11 : decode cL_common 11 = .ok (.lconst 1, 1) := by decide +kernel
theorem dL_common_12 : decode cL_common 12 = .ok (.goto 4, 3) := by decide +kernel
theorem dL_common_15 : decode cL_common 15 = .ok (.lconst 0, 1) := by decide +kernel
theorem dL_common_16 : decode cL_common 16 = .ok (.lastore, 1) := by decide +kernel
theorem dL_common_17 : decode cL_common 17 = .ok (.goto 7, 3) := by decide +kernel
theorem dL_common_20 : decode cL_common 20 = .ok (.astore 4, 2) := by decide +kernel
theorem dL_common_22 : decode cL_common 22 = .ok (.iconst 1, 1) := by decide +kernel
theorem dL_common_23 : decode cL_common 23 = .ok (.ireturn, 1) := by decide +kernel
theorem dL_common_24 : decode cL_common 24 = .ok (.iconst 0, 1) := by decide +kernel
theorem dL_common_25 : decode cL_common 25 = .ok (.ireturn, 1) := by decide +kernel
theorem vL_common_n : LkV RL 58 yX6_common nX6_common 2 := ⟨tm_3 (List.mem_of_getElem? (i := 197) rfl) rfl, tm_3 (List.mem_of_getElem? (i := 198) rfl) rfl, tm_3 (List.mem_of_getElem? (i := 199) rfl) rfl, tm_1 (List.mem_of_getElem? (i := 1) rfl) rfl, tm_3 (List.mem_of_getElem? (i := 200) rfl) rfl, by decide +kernel, by decide +kernel, by decide +kernel⟩
theorem vL_common_m : LkV RL 58 yX6_common mX6_common 2 := ⟨tm_3 (List.mem_of_getElem? (i := 197) rfl) rfl, tm_3 (List.mem_of_getElem? (i := 198) rfl) rfl, tm_3 (List.mem_of_getElem? (i := 199) rfl) rfl, tm_1 (List.mem_of_getElem? (i := 1) rfl) rfl, tm_3 (List.mem_of_getElem? (i := 200) rfl) rfl, by decide +kernel, by decide +kernel, by decide +kernel⟩
set_option maxHeartbeats 4000000 in
theorem hel_common {l : Launch} {D : va_G} {τ : Nat → ClassId} {a : Nat → Nat} (ha : Apart (LL τ) a) {V W : Mem} {z : Int} (p1 p2 : Int) {post : Int → Mem → Prop} (hM : CI l D (tysL τ) (LX τ) a yX6_common nX6_common [.ref (a 0), .int (iN p1), .int (iN p2)] V post) : CH l D (tysL τ) (LL τ) a yL_common iL_common hhL_common [.ref (a 0), .int (iN p1), .int (iN p2), .ref (a 143)] (mem3 V W z) (fun r U => r = 0 ∧ ∃ z1 V1, post z1 V1 ∧ U = mem3 V1 W (if cz z1 = 0 then 0 else 1)) := by
  refine CH.of (by decide +kernel) rfl (Nat.le_of_ble_eq_true rfl) ha (fun x hq => ?_)
  show G l D (tysL τ) (LL τ) a iL_common (bmp x 0 0) 0 [(0, .ref (a 0)), (1, .int (iN p1)), (2, .int (iN p2)), (3, .ref (a 143))] [] (mem3 V W z)
  refine g_aload_n 3 dL_common_0 rfl rfl ?_
  refine g_iconst dL_common_1 ?_
  refine g_aload_n 0 dL_common_2 rfl rfl ?_
  refine g_iload_n 1 dL_common_3 rfl rfl ?_
  refine g_iload_n 2 dL_common_4 rfl rfl ?_
  refine g_embI (k := 0) [.int (iN p1), .int (iN p2)] emb_X hM vL_common_n ox_0 rfl rfl ⟨rfl, rfl, by decide, by decide⟩ rfl (Nat.le_of_ble_eq_true rfl) dL_common_5 rfl (fun z1 V1 h1 => ?_)
  rw [put_X]
  refine g_canon ?_
  refine g_if_eq 15 dL_common_8 (by decide) (fun c1 => ?_) (fun c1 => ?_) (cz_in z1)
  · refine g_lconst 0 dL_common_15 rfl ?_
    refine g_last 143 0 al_143 dL_common_16 rfl (by decide) ?_
    rw [up_out]
    refine g_goto 24 dL_common_17 (by decide) ?_
    refine g_iconst dL_common_24 ?_
    exact g_iretH hq ⟨by decide, by decide⟩ rfl dL_common_25 ⟨rfl, z1, V1, h1, by rw [if_pos c1]⟩
  · refine g_lconst 1 dL_common_11 rfl ?_
    refine g_goto 16 dL_common_12 (by decide) ?_
    refine g_last 143 0 al_143 dL_common_16 rfl (by decide) ?_
    rw [up_out]
    refine g_goto 24 dL_common_17 (by decide) ?_
    refine g_iconst dL_common_24 ?_
    exact g_iretH hq ⟨by decide, by decide⟩ rfl dL_common_25 ⟨rfl, z1, V1, h1, by rw [if_neg c1]⟩
theorem ctL_common_IO : Ctch hhL_common 5 20 xIO := ⟨[], [], 0, 17, 19, rfl, by decide, by decide, by decide, tm_2 (List.mem_of_getElem? (i := 120) rfl) rfl, Or.inr rfl, (fun q hq => absurd hq List.not_mem_nil)⟩
set_option maxHeartbeats 4000000 in
theorem hel_common_IO {l : Launch} {D : va_G} {τ : Nat → ClassId} {a : Nat → Nat} (ha : Apart (LL τ) a) {V W : Mem} {z : Int} (p1 p2 : Int) (hM : CT l D (tysL τ) (LX τ) a yX6_common mX6_common [.ref (a 0), .int (iN p1), .int (iN p2)] V xIO) : CH l D (tysL τ) (LL τ) a yL_common iL_common hhL_common [.ref (a 0), .int (iN p1), .int (iN p2), .ref (a 143)] (mem3 V W z) (fun r U => r = 1 ∧ U = mem3 V W z) := by
  refine CH.of (by decide +kernel) rfl (Nat.le_of_ble_eq_true rfl) ha (fun x hq => ?_)
  show G l D (tysL τ) (LL τ) a iL_common (bmp x 0 0) 0 [(0, .ref (a 0)), (1, .int (iN p1)), (2, .int (iN p2)), (3, .ref (a 143))] [] (mem3 V W z)
  refine g_aload_n 3 dL_common_0 rfl rfl ?_
  refine g_iconst dL_common_1 ?_
  refine g_aload_n 0 dL_common_2 rfl rfl ?_
  refine g_iload_n 1 dL_common_3 rfl rfl ?_
  refine g_iload_n 2 dL_common_4 rfl rfl ?_
  refine g_embT (k := 0) [.int (iN p1), .int (iN p2)] hq emb_X hM vL_common_m rfl ox_0 rfl rfl ⟨by decide, by decide, rfl, rfl, rfl, rfl⟩ ctL_common_IO rfl (Nat.le_of_ble_eq_true rfl) dL_common_5 rfl (fun q => ?_)
  refine g_astore [(4, .ref q), (0, .ref (a 0)), (1, .int (iN p1)), (2, .int (iN p2)), (3, .ref (a 143))] dL_common_20 (by decide) rfl ?_
  refine g_iconst dL_common_22 ?_
  exact g_iretH hq ⟨by decide, by decide⟩ rfl dL_common_23 ⟨rfl, rfl⟩
theorem wL_common : LkH RL 136 yL_common iL_common hhL_common 4 := ⟨tm_3 (List.mem_of_getElem? (i := 194) rfl) rfl, tm_3 (List.mem_of_getElem? (i := 195) rfl) rfl, tm_1 (List.mem_of_getElem? (i := 0) rfl) rfl, tm_3 (List.mem_of_getElem? (i := 196) rfl) rfl, by decide +kernel, by decide +kernel, by decide +kernel⟩
abbrev cL_changes : ByteArray := method_17_code
def yL_changes : MethodName := ⟨RL, "changes", "(LFeederOrders;I[J)I"⟩
abbrev hhL_changes : HH := [(0, 9, 12, 19)]
abbrev iL_changes : MInf := (cL_changes, 4, RL, some .int, { frames := 10, cells := 1, slots := 6, locals := 260 })
theorem dL_changes_0 : decode cL_changes 0 = .ok (.aload_n 2, 1) := by decide +kernel
theorem dL_changes_1 : decode cL_changes 1 = .ok (.iconst 0, 1) := by decide +kernel
theorem dL_changes_2 : decode cL_changes 2 = .ok (.aload_n 0, 1) := by decide +kernel
theorem dL_changes_3 : decode cL_changes 3 = .ok (.iload_n 1, 1) := by decide +kernel
theorem dL_changes_4 : decode cL_changes 4 = .ok (.invokevirtual 61, 3) := by decide +kernel
theorem dL_changes_7 : decode cL_changes 7 = .ok (.i2l, 1) := by decide +kernel
theorem dL_changes_8 : decode cL_changes 8 = .ok (.lastore, 1) := by decide +kernel
theorem dL_changes_9 : decode cL_changes 9 = .ok (.goto 6, 3) := by decide +kernel
theorem dL_changes_12 : decode cL_changes 12 = .ok (.astore_n 3, 1) := by decide +kernel
theorem dL_changes_13 : decode cL_changes 13 = .ok (.iconst 1, 1) := by decide +kernel
theorem dL_changes_14 : decode cL_changes 14 = .ok (.ireturn, 1) := by decide +kernel
theorem dL_changes_15 : decode cL_changes 15 = .ok (.iconst 0, 1) := by decide +kernel
theorem dL_changes_16 : decode cL_changes 16 = .ok (.ireturn, 1) := by decide +kernel
theorem vL_changes_n : LkV RL 61 yX6_changes nX6_changes 1 := ⟨tm_3 (List.mem_of_getElem? (i := 204) rfl) rfl, tm_3 (List.mem_of_getElem? (i := 205) rfl) rfl, tm_3 (List.mem_of_getElem? (i := 206) rfl) rfl, tm_1 (List.mem_of_getElem? (i := 1) rfl) rfl, tm_3 (List.mem_of_getElem? (i := 207) rfl) rfl, by decide +kernel, by decide +kernel, by decide +kernel⟩
theorem vL_changes_m : LkV RL 61 yX6_changes mX6_changes 1 := ⟨tm_3 (List.mem_of_getElem? (i := 204) rfl) rfl, tm_3 (List.mem_of_getElem? (i := 205) rfl) rfl, tm_3 (List.mem_of_getElem? (i := 206) rfl) rfl, tm_1 (List.mem_of_getElem? (i := 1) rfl) rfl, tm_3 (List.mem_of_getElem? (i := 207) rfl) rfl, by decide +kernel, by decide +kernel, by decide +kernel⟩
set_option maxHeartbeats 4000000 in
theorem hel_changes {l : Launch} {D : va_G} {τ : Nat → ClassId} {a : Nat → Nat} (ha : Apart (LL τ) a) {V W : Mem} {z : Int} (p1 : Int) {post : Int → Mem → Prop} (hM : CI l D (tysL τ) (LX τ) a yX6_changes nX6_changes [.ref (a 0), .int (iN p1)] V post) : CH l D (tysL τ) (LL τ) a yL_changes iL_changes hhL_changes [.ref (a 0), .int (iN p1), .ref (a 143)] (mem3 V W z) (fun r U => r = 0 ∧ ∃ z1 V1, post z1 V1 ∧ U = mem3 V1 W (cz z1)) := by
  refine CH.of (by decide +kernel) rfl (Nat.le_of_ble_eq_true rfl) ha (fun x hq => ?_)
  show G l D (tysL τ) (LL τ) a iL_changes (bmp x 0 0) 0 [(0, .ref (a 0)), (1, .int (iN p1)), (2, .ref (a 143))] [] (mem3 V W z)
  refine g_aload_n 2 dL_changes_0 rfl rfl ?_
  refine g_iconst dL_changes_1 ?_
  refine g_aload_n 0 dL_changes_2 rfl rfl ?_
  refine g_iload_n 1 dL_changes_3 rfl rfl ?_
  refine g_embI (k := 0) [.int (iN p1)] emb_X hM vL_changes_n ox_0 rfl rfl ⟨rfl, rfl, by decide, by decide⟩ rfl (Nat.le_of_ble_eq_true rfl) dL_changes_4 rfl (fun z1 V1 h1 => ?_)
  rw [put_X]
  refine g_canon ?_
  refine g_i2l dL_changes_7 (cz_in z1) ?_
  refine g_last 143 0 al_143 dL_changes_8 rfl (by decide) ?_
  rw [up_out]
  refine g_goto 15 dL_changes_9 (by decide) ?_
  refine g_iconst dL_changes_15 ?_
  exact g_iretH hq ⟨by decide, by decide⟩ rfl dL_changes_16 ⟨rfl, z1, V1, h1, rfl⟩
theorem ctL_changes_IO : Ctch hhL_changes 4 12 xIO := ⟨[], [], 0, 9, 19, rfl, by decide, by decide, by decide, tm_2 (List.mem_of_getElem? (i := 120) rfl) rfl, Or.inr rfl, (fun q hq => absurd hq List.not_mem_nil)⟩
set_option maxHeartbeats 4000000 in
theorem hel_changes_IO {l : Launch} {D : va_G} {τ : Nat → ClassId} {a : Nat → Nat} (ha : Apart (LL τ) a) {V W : Mem} {z : Int} (p1 : Int) (hM : CT l D (tysL τ) (LX τ) a yX6_changes mX6_changes [.ref (a 0), .int (iN p1)] V xIO) : CH l D (tysL τ) (LL τ) a yL_changes iL_changes hhL_changes [.ref (a 0), .int (iN p1), .ref (a 143)] (mem3 V W z) (fun r U => r = 1 ∧ U = mem3 V W z) := by
  refine CH.of (by decide +kernel) rfl (Nat.le_of_ble_eq_true rfl) ha (fun x hq => ?_)
  show G l D (tysL τ) (LL τ) a iL_changes (bmp x 0 0) 0 [(0, .ref (a 0)), (1, .int (iN p1)), (2, .ref (a 143))] [] (mem3 V W z)
  refine g_aload_n 2 dL_changes_0 rfl rfl ?_
  refine g_iconst dL_changes_1 ?_
  refine g_aload_n 0 dL_changes_2 rfl rfl ?_
  refine g_iload_n 1 dL_changes_3 rfl rfl ?_
  refine g_embT (k := 0) [.int (iN p1)] hq emb_X hM vL_changes_m rfl ox_0 rfl rfl ⟨by decide, by decide, rfl, rfl, rfl, rfl⟩ ctL_changes_IO rfl (Nat.le_of_ble_eq_true rfl) dL_changes_4 rfl (fun q => ?_)
  refine g_astore_n [(3, .ref q), (0, .ref (a 0)), (1, .int (iN p1)), (2, .ref (a 143))] dL_changes_12 rfl (by decide) rfl ?_
  refine g_iconst dL_changes_13 ?_
  exact g_iretH hq ⟨by decide, by decide⟩ rfl dL_changes_14 ⟨rfl, rfl⟩
theorem wL_changes : LkH RL 139 yL_changes iL_changes hhL_changes 3 := ⟨tm_3 (List.mem_of_getElem? (i := 201) rfl) rfl, tm_3 (List.mem_of_getElem? (i := 202) rfl) rfl, tm_1 (List.mem_of_getElem? (i := 0) rfl) rfl, tm_3 (List.mem_of_getElem? (i := 203) rfl) rfl, by decide +kernel, by decide +kernel, by decide +kernel⟩
