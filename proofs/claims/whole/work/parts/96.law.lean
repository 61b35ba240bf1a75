/-! the law: worlds within worlds, the script, calls that are caught -/
def Emb (L : Lay) (a : Nat → Nat) (V : Mem) (L2 : Lay) (a2 : Nat → Nat) (V2 : Mem) (f : Nat) : Prop := f + L2.1 ≤ L.1 ∧ ∀ i, i < L2.1 → a2 i = a (f + i) ∧ V (f + i) = V2 i ∧ ∀ r, L.2 a (f + i) r = L2.2 a2 i r
def putM (V : Mem) (f n : Nat) (U : Mem) : Mem := fun k => if f ≤ k ∧ k < f + n then U (k - f) else V k
theorem emb_P {D : va_G} {cl : List vw_C} {L L2 : Lay} {a a2 : Nat → Nat} {V V2 : Mem} {f : Nat} {H : Heap} (h : Emb L a V L2 a2 V2 f) (hP : va_P D cl (wsOf L a V) H) : va_P D cl (wsOf L2 a2 V2) H := by
  rw [wsP] at hP ⊢
  intro i hi
  obtain ⟨h1, h2, h3⟩ := h.2 i hi
  have := hP (f + i) (by have := h.1; omega)
  rw [h3, h2, ← h1] at this
  exact this
theorem emb_join {D : va_G} {cl : List vw_C} {L L2 : Lay} {a a2 : Nat → Nat} {V V2 V2' : Mem} {f : Nat} {H H1 : Heap} (h : Emb L a V L2 a2 V2 f) (ha : Apart L a) (hP : va_P D cl (wsOf L a V) H) (hP1 : va_P D cl (wsOf L2 a2 V2') H1) (hk : ∀ q : Nat, q < H.size → ¬ rgA L2 a2 H.size q → H1[q]? = H[q]?) : va_P D cl (wsOf L a (putM V f L2.1 V2')) H1 := by
  rw [wsP] at hP hP1 ⊢
  intro k hk0
  unfold putM
  by_cases c : f ≤ k ∧ k < f + L2.1
  · rw [if_pos c]
    obtain ⟨h1, h2, h3⟩ := h.2 (k - f) (by omega)
    have := hP1 (k - f) (by omega)
    rw [← h3, h1, show f + (k - f) = k by omega] at this
    exact this
  · rw [if_neg c]
    have hq := hP k hk0
    refine va_at.kept hq (hk _ hq.lt ?_)
    rintro (⟨j, hj, e⟩ | e)
    · have e : a k = a2 j := e
      rw [(h.2 j hj).1] at e
      have := ha k (f + j) hk0 (by have := h.1; omega) e
      omega
    · have h1 : H.size ≤ a k := e
      have h2 : a k < H.size := hq.lt
      omega
theorem emb_rg {L L2 : Lay} {a a2 : Nat → Nat} {V V2 : Mem} {f : Nat} {s : State} {H : Heap} {A : Nat → Prop} {locs : List Loc} (h : Emb L a V L2 a2 V2 f) (hA : ∀ k, k < L.1 → A (a k)) (hz : ∀ q, s.heap.size ≤ q → A q) (hS : va_S A s.heap H locs) : ∀ q, rgA L2 a2 H.size q → A q := by
  rintro q (⟨j, hj, e⟩ | e)
  · rw [e, (h.2 j hj).1]; exact hA _ (by have := h.1; omega)
  · exact hz q (Nat.le_trans hS.1 e)
def scr (x : Ctx) (b N : Nat) (xs : Nat → Int32) : Prop := match x with
  | (_, _, s, _, _, _, _, _, _, _, _, A) => va_X b N xs s s.heap ∧ b < s.heap.size ∧ ¬ A b
theorem scr.bmp {x : Ctx} {b N c0 s0 : Nat} {xs : Nat → Int32} (h : scr x b N xs) : scr (bmp x c0 s0) b N xs := by
  obtain ⟨p, e, s, m, args, below, meth, c, cells, slots, Q, A⟩ := x
  exact h
section GL
variable {l : Launch} {D : va_G} {tys : List (ClassId × FieldType)} {L : Lay} {a : Nat → Nat} {M : MInf} {x : Ctx} {pc : Nat} {lv lv' : List (Nat × Value)} {st : List Value} {V : Mem}
theorem g_sld {b N i : Nat} {xs : Nat → Int32} {ix : Int} (hx : scr x b N xs) (he : ix = (i : Int)) (hi : i < N) (hN : N ≤ 1000000) (d : decode M.1 pc = .ok (.iaload, 1)) (k : G l D tys L a M x (pc + 1) lv (.int (iN (xs i).toInt) :: st) V) : G l D tys L a M x pc lv (.int (iN ix) :: .ref b :: st) V := by
  obtain ⟨p, e, s, m, args, below, meth, c, cells, slots, Q, A⟩ := x
  subst he
  refine fun cx ls H locs hl hP hS => va_sld cx.1 cx.2.1 hx.1 hx.2.1 hx.2.2 hS (i := iN (i : Int)) (iN_in hi (by omega)) d ?_
  have e0 : xs (iN (i : Int)).toNatClampNeg = iN (xs i).toInt := by
    rw [iN_clamp (by omega)]
    exact (Int32.ofInt_toInt _).symm
  rw [e0]
  exact k cx ls H locs hl hP hS
theorem g_slen {b N : Nat} {xs : Nat → Int32} (hx : scr x b N xs) (d : decode M.1 pc = .ok (.arraylength, 1)) (k : G l D tys L a M x (pc + 1) lv (.int (iN (N : Int)) :: st) V) : G l D tys L a M x pc lv (.ref b :: st) V := by
  obtain ⟨p, e, s, m, args, below, meth, c, cells, slots, Q, A⟩ := x
  refine fun cx ls H locs hl hP hS => va_slen cx.1 cx.2.1 hx.1 hx.2.1 hx.2.2 hS d ?_
  have e0 : Int32.ofNat N = iN (N : Int) := (iN_nI N).symm
  rw [e0]
  exact k cx ls H locs hl hP hS
theorem g_embI {L2 : Lay} {a2 : Nat → Nat} {V2 : Mem} {f : Nat} {y : MethodName} {M2 : MInf} {idx n k ci : Nat} {fs : (Nat → Int) → List Value} {C : vw_C} (As : List Value) {post : Int → Mem → Prop} {st0 : List Value} (hE : Emb L a V L2 a2 V2 f) (hM : CI l D tys L2 a2 y M2 (.ref (a2 k) :: As) V2 post) (hk : LkV M.2.2.1 idx y M2 n) (ho : ObC L2 a2 k ci fs) (hc : vwCl[ci]? = some C) (hcl : C.1 = y.cls) (hrm : rmOk M M2) (hn : As.length = n) (hst : (st.map fun v => v.category).sum ≤ 8) (d : decode M.1 pc = .ok (.invokevirtual idx, 3)) (hs0 : st0 = As.reverse ++ .ref (a2 k) :: st) (kk : ∀ z V2', post z V2' → G l D tys L a M x (pc + 3) lv (.int (iN z) :: st) (putM V f L2.1 V2')) : G l D tys L a M x pc lv st0 V := by
  obtain ⟨p, e, s, m, args, below, meth, c, cells, slots, Q, A⟩ := x
  subst hs0
  refine fun cx ls H locs hl hP hS => ?_
  have hP2 := emb_P hE hP
  have hrg := emb_rg hE cx.2.2.2.2.2.2.2.1 cx.2.2.2.2.2.2.2.2.1 hS
  refine va_calli (va_runV (As := As) (rest := st) ⟨cx.1, cx.2.1, cx.2.2.1, cx.2.2.2.1, cx.2.2.2.2.1⟩ (hM H.size) (cwV n cx.2.2.2.2.1 (good_V hk) rfl hrm.1 hrm.2.1 ⟨rfl, hk.2.2.2.2.2⟩ ⟨hrm.2.2.1, hrm.2.2.2⟩) ⟨blind, hcl ▸ va_recv cx.2.2.2.2.2.1 hP2 hc (by rw [wsOf_at ho.1, ho.2]), fun U hU hW => ⟨rfl, by rw [hU], by rw [hU]; exact hP2, va_K.moved hW.alike cx.2.2.2.2.2.1⟩⟩ rfl hn hl.1 rfl (lv_room hst) d ⟨cx.2.2.2.2.2.2.2.2.2.2.2.1, cx.2.2.2.2.2.2.2.2.2.2.2.2⟩) hS (fun q _ h => hrg q h) hrg (fun r u t H1 locs1 ht hvm hw hB hz1 hk1 hS1 => ?_)
  obtain ⟨z, rfl, hp⟩ := hw
  rw [ht] at hB
  exact kk z u hp cx ls H1 locs1 hl (emb_join hE cx.2.2.2.2.2.2.1 hP hB hk1) hS1
theorem g_embL {L2 : Lay} {a2 : Nat → Nat} {V2 : Mem} {f : Nat} {y : MethodName} {M2 : MInf} {idx n k ci : Nat} {fs : (Nat → Int) → List Value} {C : vw_C} (As : List Value) {post : Int → Mem → Prop} {st0 : List Value} (hE : Emb L a V L2 a2 V2 f) (hM : CL l D tys L2 a2 y M2 (.ref (a2 k) :: As) V2 post) (hk : LkV M.2.2.1 idx y M2 n) (ho : ObC L2 a2 k ci fs) (hc : vwCl[ci]? = some C) (hcl : C.1 = y.cls) (hrm : rmOk M M2) (hn : As.length = n) (hst : (st.map fun v => v.category).sum ≤ 8) (d : decode M.1 pc = .ok (.invokevirtual idx, 3)) (hs0 : st0 = As.reverse ++ .ref (a2 k) :: st) (kk : ∀ z V2', post z V2' → G l D tys L a M x (pc + 3) lv (.long (jN z) :: st) (putM V f L2.1 V2')) : G l D tys L a M x pc lv st0 V := by
  obtain ⟨p, e, s, m, args, below, meth, c, cells, slots, Q, A⟩ := x
  subst hs0
  refine fun cx ls H locs hl hP hS => ?_
  have hP2 := emb_P hE hP
  have hrg := emb_rg hE cx.2.2.2.2.2.2.2.1 cx.2.2.2.2.2.2.2.2.1 hS
  refine va_calll (va_runV (As := As) (rest := st) ⟨cx.1, cx.2.1, cx.2.2.1, cx.2.2.2.1, cx.2.2.2.2.1⟩ (hM H.size) (cwV n cx.2.2.2.2.1 (good_V hk) rfl hrm.1 hrm.2.1 ⟨rfl, hk.2.2.2.2.2⟩ ⟨hrm.2.2.1, hrm.2.2.2⟩) ⟨blind, hcl ▸ va_recv cx.2.2.2.2.2.1 hP2 hc (by rw [wsOf_at ho.1, ho.2]), fun U hU hW => ⟨rfl, by rw [hU], by rw [hU]; exact hP2, va_K.moved hW.alike cx.2.2.2.2.2.1⟩⟩ rfl hn hl.1 rfl (lv_room hst) d ⟨cx.2.2.2.2.2.2.2.2.2.2.2.1, cx.2.2.2.2.2.2.2.2.2.2.2.2⟩) hS (fun q _ h => hrg q h) hrg (fun r u t H1 locs1 ht hvm hw hB hz1 hk1 hS1 => ?_)
  obtain ⟨z, rfl, hp⟩ := hw
  rw [ht] at hB
  exact kk z u hp cx ls H1 locs1 hl (emb_join hE cx.2.2.2.2.2.2.1 hP hB hk1) hS1
end GL
/-! methods that catch -/
/-- the two exceptions are no subclasses of each other -/
def NC (U : State) : Prop := (∃ c, U.vm.findClass xIA = some c ∧ U.vm.assignable c c = true) ∧ (∃ c, U.vm.findClass xIO = some c ∧ U.vm.assignable c c = true) ∧ ∀ c1 c2, U.vm.findClass xIA = some c1 → U.vm.findClass xIO = some c2 → U.vm.assignable c1 c2 = false
theorem NC.moved {s U : State} (hal : s.vm.Alike U.vm) (h : NC s) : NC U := by
  obtain ⟨⟨c1, h1, h2⟩, ⟨c2, h3, h4⟩, h5⟩ := h
  refine ⟨⟨c1, by rw [hal.findClass]; exact h1, by rw [hal.assignable]; exact h2⟩, ⟨c2, by rw [hal.findClass]; exact h3, by rw [hal.assignable]; exact h4⟩, fun a b ha hb => ?_⟩
  rw [hal.findClass] at ha hb
  rw [hal.assignable]
  exact h5 a b ha hb
abbrev HH : Type := List (Nat × Nat × Nat × Nat)
def tblOf (c : Code) : HH := c.exceptionTable.toList.map (fun h => (h.startPc, h.endPc, h.handlerPc, h.catchType))
def PcH (D : va_G) (tys : List (ClassId × FieldType)) (L : Lay) (a : Nat → Nat) (av : List Value) (V : Mem) (sz : Nat) : Array Value → State → Prop := va_Pc av (fun U => U.heap.size = sz ∧ va_P D vwCl (wsOf L a V) U.heap ∧ va_K D vwCl tys U ∧ TR (rgA L a sz) U ∧ NC U)
def wsC (y : MethodName) (M : MInf) (hh : HH) : List Cond := Cond.codeWith y M.1 M.2.1 M.2.2.2.1 hh :: gw
def CH (l : Launch) (D : va_G) (tys : List (ClassId × FieldType)) (L : Lay) (a : Nat → Nat) (y : MethodName) (M : MInf) (hh : HH) (av : List Value) (V : Mem) (post : Int → Mem → Prop) : Prop :=
  ∀ sz, Met l y (wsC y M hh) M.2.2.2.2 (PcH D tys L a av V sz) (va_Qi (fun r V' => ∃ z, r = iN z ∧ post z V') (fun V' t => va_P D vwCl (wsOf L a V') t.heap) (rgA L a sz)) 1 6 (rgA L a sz)
def QH (D : va_G) (L : Lay) (a : Nat → Nat) (hh : HH) (post : Int → Mem → Prop) (x : Ctx) : Prop :=
  match x with
  | (_, _, s, _, args, below, _, c, cells, slots, Q, A) => (cells = 0 ∧ slots = 0) ∧ (TR A s ∧ NC s) ∧ tblOf c = hh ∧ Q = MQ below (va_Qi (fun r V' => ∃ z, r = iN z ∧ post z V') (fun V' t => va_P D vwCl (wsOf L a V') t.heap) A) args s 1 6 A
section GC
variable {l : Launch} {D : va_G} {tys : List (ClassId × FieldType)} {L : Lay} {a : Nat → Nat} {M : MInf} {x : Ctx} {pc : Nat} {lv lv' : List (Nat × Value)} {st : List Value} {V : Mem}
theorem CH.of {y : MethodName} {av : List Value} {hh : HH} {post : Int → Mem → Prop} (hy : plainName y.cls = true) (hown : y.cls = M.2.2.1) (hlen : (lg_sl av).length ≤ M.2.1) (ha : Apart L a) (body : ∀ x, QH D L a hh post x → G l D tys L a M (bmp x 0 0) 0 (lv_args 0 av) [] V) : CH l D tys L a y M hh av V post := by
  intro sz
  refine va_MetW (cc := M.1) (maxL := M.2.1) (ret := M.2.2.2.1) (hh := hh) hy rfl ?_
  intro p e s m args below meth c s₁ B hml hv
  obtain ⟨rfl, hsz, hP, hK, hT, hN⟩ := hv
  subst hsz
  have hl := lv_entry av (n := M.2.1) hlen
  have hw := atoms_spec (ws := wsC y M hh) B.pre
  have htb : tblOf c = hh := by
    obtain ⟨m9, meth9, c9, h1, h2, h3, -, -, h4, -⟩ := Cond.codeWith_spec (hw _ List.mem_cons_self)
    cases h1.symm.trans B.named
    cases h2.symm.trans B.method
    cases h3.symm.trans (Stand.of_body B).code
    exact h4
  rw [lg_entry_eq]
  exact body (p, e, s, m, av.toArray, below, meth, c, 0, 0, _, rgA L a s.heap.size) ⟨⟨rfl, rfl⟩, ⟨hT, hN⟩, htb, rfl⟩ ⟨B.exec, B.bytes, hml, hown ▸ findClass_of_methodNamed B.named, fun w h => hw w (List.mem_cons_of_mem _ h), hK, ha, fun k hk => Or.inl ⟨k, hk, rfl⟩, fun q h => Or.inr h, B.returns, B.notSynchronized, Nat.zero_le _, Nat.zero_le _⟩ _ _ _ hl hP va_S.rf
theorem g_iretH {hh : HH} {post : Int → Mem → Prop} {v : Int} {c0 s0 : Nat} (hq : QH D L a hh post x) (hc : c0 ≤ 1 ∧ s0 ≤ 6) (hr : M.2.2.2.1 = some .int) (d : decode M.1 pc = .ok (.ireturn, 1)) (hp : post v V) : G l D tys L a M (bmp x c0 s0) pc lv [.int (iN v)] V := by
  obtain ⟨p, e, s, m, args, below, meth, c, cells, slots, Q, A⟩ := x
  obtain ⟨⟨rfl, rfl⟩, -, -, rfl⟩ := hq
  exact fun cx ls H locs hl hP hS => W.widen (k := 1) (n := 6) (by omega) (by omega) (W.iret cx.1 cx.2.1 (cx.2.2.2.2.2.2.2.2.2.1.trans hr) (fun t ht _ => ⟨⟨iN v, V, rfl, ⟨v, rfl, hp⟩, by show va_P D vwCl (wsOf L a V) t.heap; rw [ht]; exact hP⟩, hS.F ht⟩) hS.2.2 d cx.2.2.2.2.2.2.2.2.2.2.1)
/-- which row of the table takes E, thrown at pc -/
def Ctch (hh : HH) (pc hpc : Nat) (E : String) : Prop := ∃ (pre rest : HH) (st en ct : Nat), hh = pre ++ (st, en, hpc, ct) :: rest ∧ st ≤ pc ∧ pc < en ∧ ct ≠ 0 ∧ Cond.classLink RL ct E ∈ gw ∧ (E = xIA ∨ E = xIO) ∧ ∀ q ∈ pre, q.2.2.2 ≠ 0 ∧ E = xIA ∧ Cond.classLink RL q.2.2.2 xIO ∈ gw
theorem putM_same {V V2 : Mem} {f n : Nat} (h : ∀ i, i < n → V (f + i) = V2 i) : putM V f n V2 = V := funext fun k => by
  unfold putM
  by_cases c : f ≤ k ∧ k < f + n
  · rw [if_pos c, ← h (k - f) (by omega), show f + (k - f) = k by omega]
  · rw [if_neg c]
theorem g_embT {L2 : Lay} {a2 : Nat → Nat} {V2 : Mem} {f : Nat} {y : MethodName} {M2 : MInf} {idx n k ci hpc : Nat} {fs : (Nat → Int) → List Value} {C : vw_C} {hh : HH} {post : Int → Mem → Prop} (As : List Value) {E : String} {st0 : List Value} (hq : QH D L a hh post x) (hE : Emb L a V L2 a2 V2 f) (hM : CT l D tys L2 a2 y M2 (.ref (a2 k) :: As) V2 E) (hk : LkV M.2.2.1 idx y M2 n) (hRL : M.2.2.1 = RL) (ho : ObC L2 a2 k ci fs) (hc : vwCl[ci]? = some C) (hcl : C.1 = y.cls) (hR : M2.2.2.2.2.frames + 1 ≤ M.2.2.2.2.frames ∧ 8 + (M2.2.1 + 11) + M2.2.2.2.2.locals ≤ M.2.2.2.2.locals ∧ M2.2.2.2.2.cells = 1 ∧ M2.2.2.2.2.slots = 6 ∧ M.2.2.2.2.cells = 1 ∧ M.2.2.2.2.slots = 6) (hct : Ctch hh pc hpc E) (hn : As.length = n) (hst : (st.map fun v => v.category).sum ≤ 8) (d : decode M.1 pc = .ok (.invokevirtual idx, 3)) (hs0 : st0 = As.reverse ++ .ref (a2 k) :: st) (kk : ∀ q, G l D tys L a M (bmp x 1 6) hpc lv [.ref q] V) : G l D tys L a M (bmp x 0 0) pc lv st0 V := by
  obtain ⟨p, e, s, m, args, below, meth, c, cells, slots, Q, A⟩ := x
  obtain ⟨⟨rfl, rfl⟩, ⟨hTR, hNC⟩, htb, rfl⟩ := hq
  subst hs0
  intro cx ls H locs hl' hP hS T hT X
  subst hT
  have hP2 := emb_P hE hP
  obtain ⟨cellB, b1, b2, b3⟩ := hcl ▸ va_recv cx.2.2.2.2.2.1 hP2 hc (show (wsOf L2 a2 V2)[k]? = some (a2 k, (Sum.inr (ci, fs (V2 k)) : va_E)) by rw [wsOf_at ho.1, ho.2])
  have hsub := emb_rg hE cx.2.2.2.2.2.2.2.1 cx.2.2.2.2.2.2.2.2.1 hS
  obtain ⟨q, vm₁, mk, t, U', hW1, hTq, e1, e2, hX', hst'⟩ := invThrown X cx.1 (hM T.heap.size) TQ_frame cx.2.2.2.1 cx.2.2.2.2.1 hk blindT b1 b2 b3 (g := F0 m pc ls (As.reverse ++ .ref (a2 k) :: st)) rfl (hl'.1.trans cx.2.2.1.symm) (As := As) (rest := st) hn rfl (lv_room hst) (by rw [cx.2.1]; exact d) ⟨hR.1, hR.2.1, by omega, by omega⟩ (fun vm₁ hW => ⟨rfl, rfl, hP2, va_K.moved hW.alike cx.2.2.2.2.2.1, hTR.keep (U' := T.setVm vm₁) hW (fun r h1 h2 => hS.2.1 r h1 h2) hsub⟩)
  obtain ⟨t1, ⟨Lc, t2, t3⟩, ⟨ce, t4, t5, t6⟩, t7, t8, t9⟩ := hTq
  have X' := hX' Lc t2
  have hfE : s.vm.findClass E = some ce.cls := by
    have := t5
    rw [show ((T.setVm vm₁).calling { F0 m pc ls (As.reverse ++ .ref (a2 k) :: st) with stack := st } mk (Value.ref (a2 k) :: As).toArray).vm = vm₁ from rfl, hW1.alike.findClass] at this
    exact this
  obtain ⟨pre, rest, st1, en1, ct1, hsp, w1, w2, w3, w4, w5, w6⟩ := hct
  rw [hsp] at htb
  obtain ⟨preT, restT, htT, hpreT, hrestT⟩ := List.map_eq_append_iff.mp htb
  obtain ⟨xT, restT2, hxr, hxT, -⟩ := List.map_eq_cons_iff.mp hrestT
  subst hxr
  have hown : s.vm.findClass RL = some m.cls := hRL ▸ cx.2.2.2.1
  have hxs : xT.startPc = st1 ∧ xT.endPc = en1 ∧ xT.handlerPc = hpc ∧ xT.catchType = ct1 := by
    have h1 := congrArg (fun z => z.1) hxT
    have h2 := congrArg (fun z => z.2.1) hxT
    have h3 := congrArg (fun z => z.2.2.1) hxT
    have h4 := congrArg (fun z => z.2.2.2) hxT
    exact ⟨h1, h2, h3, h4⟩
  have hself : s.vm.assignable ce.cls ce.cls = true := by
    rcases w5 with rfl | rfl
    · obtain ⟨c1, g1, g2⟩ := hNC.1
      cases hfE.symm.trans g1
      exact g2
    · obtain ⟨c1, g1, g2⟩ := hNC.2.1
      cases hfE.symm.trans g1
      exact g2
  obtain ⟨hend, hk0⟩ := X'.catches_of_link hown (x := xT) (by rw [hxs.2.2.2]; exact w3) (name := E) (by rw [hxs.2.2.2]; exact cx.2.2.2.2.1 _ w4) hfE hself
  have hpass : ∀ yT ∈ preT, RowPassed e.platform s m.cls pc ce.cls yT := fun yT hy => by
    have hmem : (yT.startPc, yT.endPc, yT.handlerPc, yT.catchType) ∈ pre := by
      rw [← hpreT]
      exact List.mem_map.mpr ⟨yT, hy, rfl⟩
    obtain ⟨v1, v2, v3⟩ := w6 _ hmem
    subst v2
    have hpl : e.platform.magicAccessors = ({} : Platform).magicAccessors := by rw [X.admits.platform]
    obtain ⟨c', hc', hcl'⟩ := Cond.classLink_spec hown (cx.2.2.2.2.1 _ v3) e.platform hpl
    exact Or.inr ⟨v1, c', hcl', hNC.2.2 _ _ hfE hc'⟩
  obtain ⟨vm', XV, stV⟩ := X'.thenCaughtThrough q (g := { F0 m pc ls (As.reverse ++ .ref (a2 k) :: st) with stack := st }) rfl hst' (cell := ce) (by rw [e1]; exact t4) (by rw [t6]; rfl) hk0 preT xT restT2 htT hpass (by
      show (decide (xT.startPc ≤ pc) && decide (pc < xT.endPc)) = true
      rw [hxs.1, hxs.2.1, decide_eq_true w1, decide_eq_true w2]; rfl) hend
  · rw [hxs.2.2.1] at stV
    have hh1 : U'.heap = t.heap := e1
    have hVV : putM V f L2.1 V2 = V := putM_same (fun i hi => (hE.2 i hi).2.1)
    have hP' : va_P D vwCl (wsOf L a V) U'.heap := by
      rw [hh1, ← hVV]
      exact emb_join hE cx.2.2.2.2.2.2.1 hP t8 (fun r h1 h2 => t9.2 r h1 h2)
    obtain ⟨t', a1, a2'⟩ := kk q ⟨cx.1, cx.2.1, cx.2.2.1, cx.2.2.2.1, cx.2.2.2.2.1, cx.2.2.2.2.2.1, cx.2.2.2.2.2.2.1, cx.2.2.2.2.2.2.2.1, cx.2.2.2.2.2.2.2.2.1, cx.2.2.2.2.2.2.2.2.2.1, cx.2.2.2.2.2.2.2.2.2.2.1, by show 0 + 1 ≤ _; omega, by show 0 + 6 ≤ _; omega⟩ ls U'.heap (locs ++ Lc) hl' hP' ⟨by rw [hh1]; exact Nat.le_trans hS.1 t9.1, fun r h1 h2 => by
        rw [hh1, t9.2 r (Nat.lt_of_lt_of_le h1 hS.1) (fun z => h2 (hsub r z))]
        exact hS.2.1 r h1 h2, fun r hr => by
        rcases List.mem_append.mp hr with h | h
        · exact hS.2.2 r h
        · exact hsub _ (t3 r h)⟩ (U'.setVm vm') rfl XV
    exact ⟨t', stV.trans a1, a2'⟩
/-- calls of a method that catches -/
def LkH (own : String) (idx : Nat) (y : MethodName) (M2 : MInf) (hh : HH) (n : Nat) : Prop := Cond.methodLink own idx y ∈ gw ∧ Cond.static y ∈ gw ∧ Cond.initialized y.cls ∈ gw ∧ Cond.codeWith y M2.1 M2.2.1 M2.2.2.2.1 hh ∈ gw ∧ y.cls ≠ "java/lang/invoke/MethodHandle" ∧ y.cls ≠ "java/lang/invoke/VarHandle" ∧ (parseMethodDescriptor y.desc).map (fun d => d.parameters.length) = some n
def rdy (x : Ctx) : Prop := match x with
  | (_, _, s, _, _, _, _, _, _, _, _, A) => TR A s ∧ NC s
theorem blindH {av : List Value} {sz : Nat} : FrameBlind (PcH D tys L a av V sz) := fun v U g mk q => by
  obtain ⟨q0, q1, qP, qK, qT, qN⟩ := q
  exact ⟨q0, q1, qP, va_K.moved (u := U) (U := U.calling g mk v) (Vm.Alike.refl U.vm) qK, qT.keep (U' := U.calling g mk v) (State.WarmedH.refl U) (fun r _ _ => rfl) (fun _ h => h), qN.moved (U := U.calling g mk v) (Vm.Alike.refl U.vm)⟩
theorem g_callSH {y : MethodName} {M2 : MInf} {hh : HH} {idx n c0 s0 : Nat} (As : List Value) {post : Int → Mem → Prop} {st0 : List Value} (q0 : zer x) (q1 : rdy x) (hM : CH l D tys L a y M2 hh As V post) (hk : LkH M.2.2.1 idx y M2 hh n) (hrm : M2.2.2.2.2.frames + 1 ≤ M.2.2.2.2.frames ∧ 8 + (M2.2.1 + 11) + M2.2.2.2.2.locals ≤ M.2.2.2.2.locals ∧ M2.2.2.2.2.cells = 1 ∧ M2.2.2.2.2.slots = 6) (hR : c0 + 1 ≤ M.2.2.2.2.cells ∧ s0 + 6 ≤ M.2.2.2.2.slots) (hn : As.length = n) (hst : (st.map fun v => v.category).sum ≤ 8) (d : decode M.1 pc = .ok (.invokestatic idx, 3)) (hs0 : st0 = As.reverse ++ st) (kk : ∀ z V', post z V' → G l D tys L a M (bmp x (c0 + 1) (s0 + 6)) (pc + 3) lv (.int (iN z) :: st) V') : G l D tys L a M (bmp x c0 s0) pc lv st0 V := by
  obtain ⟨p, e, s, m, args, below, meth, c, cells, slots, Q, A⟩ := x
  obtain ⟨rfl, rfl⟩ := q0
  subst hs0
  refine fun cx ls H locs hl hP hS => ?_
  obtain ⟨w1, w2, w3, w4, w5, w6, w7⟩ := hk
  have hgood : GoodIn gw (wsC y M2 hh) := good_sub fun w hw => by
    rcases List.mem_cons.mp hw with rfl | hw
    · exact w4
    · exact hw
  have hrg := rg_sub (L := L) (a := a) cx.2.2.2.2.2.2.2.1 cx.2.2.2.2.2.2.2.2.1 hS
  have hrun : va_Run p l e M.2.2.2.2 s m args below meth c H locs (0 + c0) (0 + s0) 1 6 (F0 m pc ls (As.reverse ++ st)) st (va_Qi (fun r V' => ∃ z, r = iN z ∧ post z V') (fun V' t => va_P D vwCl (wsOf L a V') t.heap) (rgA L a H.size) As.toArray) (rgA L a H.size) := by
    have hK : Back l M.2.2.2.2 p e below s args y 3 8 (PreOf M.2.2.2.2 1 6 (PcH D tys L a As V H.size)) (PostOf (va_Qi (fun r V' => ∃ z, r = iN z ∧ post z V') (fun V' t => va_P D vwCl (wsOf L a V') t.heap) (rgA L a H.size)) 1 6 (rgA L a H.size)) := va_backW (hh := hh) (bytes := M2.1) (maxL := M2.2.1) (ret := M2.2.2.2.1) (hM H.size) blindH hrm.2.2.1 hrm.2.2.2 hrm.1 hrm.2.1 (pay_in cx.2.2.2.2.1 hgood) List.mem_cons_self (fun a' U hW => word_at hW (Or.inl (by first | rfl | simp [Cond.onTables, Cond.keeps, Cond.steady])) (cx.2.2.2.2.1 _ w3))
    intro T hT X
    obtain ⟨mk, methM, cM, hnamed, hmethM, -, -, -, -, -, -, hsigM⟩ := Cond.codeWith_spec (cx.2.2.2.2.1 _ w4)
    have hstatic : methM.isStatic = true := Cond.static_spec hnamed hmethM (cx.2.2.2.2.1 _ w2)
    obtain ⟨kP, hkP, -⟩ := className_of_methodNamed hnamed
    have hinitP : kP.init = .initialized := Cond.initialized_spec (findClass_of_methodNamed hnamed) hkP (cx.2.2.2.2.1 _ w3)
    have hlen : As.length = methM.sig.parameters.length := by
      rw [hsigM] at w7
      rw [hn]
      exact (Option.some.inj w7).symm
    obtain ⟨vm₁, X₁, hstep₁⟩ := X.invokestatic cx.1 cx.2.2.2.1 (cx.2.2.2.2.1 _ w1) hnamed hmethM hstatic hkP hinitP ⟨w5, w6⟩ (g := F0 m pc ls (As.reverse ++ st)) rfl (argsL := As) (rest := st) hlen rfl (by rw [cx.2.1]; exact d)
    obtain ⟨v, ⟨U', l2, c2, s2⟩, X', ⟨g', mk', t, Lc, f1, f2, hq, h1, hL, h2, h3⟩, hsteps⟩ := hK m meth c ⟨T.setVm vm₁, locs, 0 + c0, 0 + s0⟩ { F0 m pc ls (As.reverse ++ st) with stack := st } (.invokestatic idx) mk As.toArray X₁ rfl (hl.1.trans cx.2.2.1.symm) (by rw [cx.2.1]; exact d) (lv_room hst) (X₁.named hnamed) ⟨by show 0 + c0 + 1 ≤ _; omega, by show 0 + s0 + 6 ≤ _; omega, rfl, by show T.heap.size = _; rw [hT], by show va_P D vwCl (wsOf L a V) T.heap; rw [hT]; exact hP, va_K.moved X₁.warmed.alike cx.2.2.2.2.2.1, q1.1.keep (U' := T.setVm vm₁) X₁.warmed (fun r h1 h2 => by show T.heap[r]? = _; rw [hT]; exact hS.2.1 r h1 h2) hrg, q1.2.moved X₁.warmed.alike⟩
    dsimp only [Pt.U, Pt.locs, Pt.cells, Pt.slots] at X' f1 f2 h1 h2 h3 hsteps
    subst h1; subst h2; subst h3
    exact ⟨v, (T.setVm vm₁).calling g' mk' As.toArray, t, U', Lc, hT, X', hL, f1, f2, hq, fun target h => hstep₁ _ fun acts => by rw [doInvoke_state]; exact hsteps.trans h⟩
  refine va_calli hrun hS (fun q _ h => hrg q h) hrg (fun r u t H1 locs1 ht hvm hw hB hz1 hk1 hS1 => ?_)
  obtain ⟨z, rfl, hp⟩ := hw
  rw [ht] at hB
  rw [Nat.add_assoc, Nat.add_assoc]
  exact kk z u hp ⟨cx.1, cx.2.1, cx.2.2.1, cx.2.2.2.1, cx.2.2.2.2.1, cx.2.2.2.2.2.1, cx.2.2.2.2.2.2.1, cx.2.2.2.2.2.2.2.1, cx.2.2.2.2.2.2.2.2.1, cx.2.2.2.2.2.2.2.2.2.1, cx.2.2.2.2.2.2.2.2.2.2.1, by show 0 + (c0 + 1) ≤ _; omega, by show 0 + (s0 + 6) ≤ _; omega⟩ ls H1 locs1 hl hB hS1
end GC
