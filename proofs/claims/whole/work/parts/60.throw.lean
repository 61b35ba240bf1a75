def xIA : String := "java/lang/IllegalArgumentException"
def xIO : String := "java/lang/IndexOutOfBoundsException"
def xUp : List String := ["java/lang/RuntimeException", "java/lang/Exception"]
def isStr : Cond → Bool
  | .stringRef .. => true
  | _ => false
def tW (w : Cond) : Bool := (w.onTables && w.keepsFace) || isStr w
def sw1 : Cond := .laysStatic Bundle.tN "UNASSIGNED_STACK" Bundle.steD
def sw2 : Cond := .laysStatic Bundle.tN "SUPPRESSED_SENTINEL" Bundle.listD
def sw3 : Cond := .isRef (.static Bundle.tN "UNASSIGNED_STACK" Bundle.steD)
def sw4 : Cond := .isRef (.static Bundle.tN "SUPPRESSED_SENTINEL" Bundle.listD)
/-- what a throw needs of a state, nothing of it lying in A -/
def TR (A : Nat → Prop) (U : State) : Prop := (∀ w ∈ tables_1, tW w = true → w.before #[] U = true) ∧ va_Zq Bundle.tN "UNASSIGNED_STACK" Bundle.steD A U U.heap ∧ va_Zq Bundle.tN "SUPPRESSED_SENTINEL" Bundle.listD A U U.heap ∧ sw1.before #[] U = true ∧ sw2.before #[] U = true
theorem tW_keep {w : Cond} {U U' : State} {args args' : Array Value} (hw : tW w = true) (hW : U.WarmedH U'.vm) (h : w.before args U = true) : w.before args' U' = true := by
  simp only [tW, Bool.or_eq_true, Bool.and_eq_true] at hw
  rcases hw with ⟨h1, h2⟩ | h1
  · have h3 := Cond.before_shiftedFace (State.Shifted.of_warmed hW) w h2 h
    rw [Cond.onTables_vm (A' := args') (U' := U') U'.vm w h1] at h3
    exact h3
  · cases w <;> simp [isStr] at h1
    exact Cond.stringRef_warmed hW h
theorem ls_keep {C n d : String} {A : Nat → Prop} {U U' : State} {args args' : Array Value} (hz : va_Zq C n d A U U.heap) (hW : U.WarmedH U'.vm) (hk : ∀ q : Nat, q < U.heap.size → ¬ A q → U'.heap[q]? = U.heap[q]?) (h : (Cond.laysStatic C n d).before args U = true) : (Cond.laysStatic C n d).before args' U' = true := by
  have h1 := Cond.before_shiftedFace (State.Shifted.of_warmed hW) (Cond.laysStatic C n d) rfl h
  have hz' := va_Zq.moved hW.alike hz
  obtain ⟨cf, kf, fi, f, a, cell, e1, -, -, e4, e5, -, -, e8⟩ : ∃ (cf : ClassId) (kf : Class) (fi : Nat) (f : Field) (a : Nat) (cell : Cell), U'.fieldFound? C n d = some (cf, kf, fi, f) ∧ f.isStatic = true ∧ kf.init = .initialized ∧ kf.statics = some a ∧ U.heap[a]? = some cell ∧ cell.vm.isStatics = true ∧ True ∧ ¬ A a := by
    rcases hz' with ⟨cf, kf, fi, f, a, cell, e1, e2, e3, e4, e5, e6, e7, e8⟩ | ⟨t, cf, kf, fi, f, a, cell, e1, e2, e3, e4, e5, e6, e7, e8⟩
    · exact ⟨cf, kf, fi, f, a, cell, e1, e2, e3, e4, e5, e6, trivial, e8⟩
    · exact ⟨cf, kf, fi, f, a, cell, e1, e2, e3, e4, e5, e6, trivial, e8⟩
  have e9 : U'.heap[a]? = some cell := by rw [hk a (Array.getElem?_eq_some_iff.mp e5).1 e8]; exact e5
  have e1' : (U.setVm U'.vm).fieldFound? C n d = some (cf, kf, fi, f) := e1
  simp only [Cond.before, Cond.holds, Cond.value, State.vm_setVm, e1'] at h1
  simp only [Cond.before, Cond.holds, Cond.value, e1]
  cases hf : U'.vm.findClass C with
  | none => rw [hf] at h1; simp at h1
  | some c =>
    rw [hf] at h1
    simp only [e4, Option.bind_some] at h1 ⊢
    rw [e9]
    rw [show (U.setVm U'.vm).heap[a]? = some cell from e5] at h1
    exact h1
theorem zq_ref {C n d : String} {A : Nat → Prop} {U : State} {args : Array Value} (hz : va_Zq C n d A U U.heap) : (Cond.isRef (.static C n d)).before args U = true := by
  rcases hz with ⟨cf, kf, fi, f, a, cell, e1, e2, e3, e4, e5, e6, e7, e8⟩ | ⟨t, cf, kf, fi, f, a, cell, e1, e2, e3, e4, e5, e6, e7, e8⟩
  · simp [Cond.before, Cond.holds, Cond.value, Term.eval, State.fieldNamed?, e1, e2, e4, e5, e6, e7, Value.isRef]
  · simp [Cond.before, Cond.holds, Cond.value, Term.eval, State.fieldNamed?, e1, e2, e4, e5, e6, e7, Value.isRef]
theorem TR.keep {A A' : Nat → Prop} {U U' : State} (h : TR A U) (hW : U.WarmedH U'.vm) (hk : ∀ q : Nat, q < U.heap.size → ¬ A q → U'.heap[q]? = U.heap[q]?) (hA : ∀ q, A' q → A q) : TR A' U' := by
  obtain ⟨h1, h2, h3, h4, h5⟩ := h
  exact ⟨fun w hw ht => tW_keep ht hW (h1 w hw ht), ((h2.moved hW.alike).kept hk).narrow hA, ((h3.moved hW.alike).kept hk).narrow hA, ls_keep h2 hW hk h4, ls_keep h3 hW hk h5⟩
theorem own_w {A : Nat → Prop} {U : State} (h : TR A U) {ws : List Cond} (ho : ∀ w ∈ ws, (w ∈ tables_1 ∧ tW w = true) ∨ (w = sw1 ∨ w = sw2 ∨ w = sw3 ∨ w = sw4)) (args : Array Value) : ∀ w ∈ ws, w.before args U = true := by
  intro w hw
  rcases ho w hw with ⟨h1, h2⟩ | rfl | rfl | rfl | rfl
  · exact tW_keep h2 (State.WarmedH.refl U) (h.1 w h1 h2)
  · exact ls_keep h.2.1 (State.WarmedH.refl U) (fun _ _ _ => rfl) h.2.2.2.1
  · exact ls_keep h.2.2.1 (State.WarmedH.refl U) (fun _ _ _ => rfl) h.2.2.2.2
  · exact zq_ref h.2.1
  · exact zq_ref h.2.2.1
def ownC (w : Cond) (k : Nat) : Bool := k == 9999 || tW w
theorem own_by {ws : List Cond} (ks : List Nat) (h : (ks.map fun k => if k = 9001 then some sw1 else if k = 9002 then some sw2 else if k = 9003 then some sw3 else if k = 9004 then some sw4 else tables_1[k]?) = ws.map some) (hg : ((ws.zip ks).all fun q => decide (9000 < q.2) || tW q.1) = true) : ∀ w ∈ ws, (w ∈ tables_1 ∧ tW w = true) ∨ (w = sw1 ∨ w = sw2 ∨ w = sw3 ∨ w = sw4) := by
  intro w hw
  obtain ⟨i, hi, rfl⟩ := List.mem_iff_getElem.mp hw
  have hlen : ks.length = ws.length := by simpa using congrArg List.length h
  have hk : (if ks[i] = 9001 then some sw1 else if ks[i] = 9002 then some sw2 else if ks[i] = 9003 then some sw3 else if ks[i] = 9004 then some sw4 else tables_1[ks[i]]?) = some ws[i] := by
    have := congrArg (fun l => l[i]?) h
    simpa [List.getElem?_eq_getElem hi, List.getElem?_eq_getElem (show i < ks.length by omega)] using this
  have hq : (decide (9000 < ks[i]) || tW ws[i]) = true := by
    have := List.all_eq_true.mp hg (ws[i], ks[i]) (by
      rw [List.mem_iff_getElem]
      exact ⟨i, by simp [List.length_zip]; omega, by simp⟩)
    exact this
  split at hk
  · exact Or.inr (Or.inl (Option.some.inj hk).symm)
  · split at hk
    · exact Or.inr (Or.inr (Or.inl (Option.some.inj hk).symm))
    · split at hk
      · exact Or.inr (Or.inr (Or.inr (Or.inl (Option.some.inj hk).symm)))
      · split at hk
        · exact Or.inr (Or.inr (Or.inr (Or.inr (Option.some.inj hk).symm)))
        · refine Or.inl ⟨List.mem_of_getElem? hk, ?_⟩
          rw [Bool.or_eq_true] at hq
          rcases hq with hq | hq
          · have h9 : ks[i] < tables_1.length := (List.getElem?_eq_some_iff.mp hk).1
            have h8 : tables_1.length ≤ 9000 := by decide +kernel
            have := of_decide_eq_true hq
            omega
          · exact hq
theorem own_IA : ∀ w ∈ Bundle.ownAtoms "FeederOrders" 80 xIA xUp, (w ∈ tables_1 ∧ tW w = true) ∨ (w = sw1 ∨ w = sw2 ∨ w = sw3 ∨ w = sw4) := own_by [11, 307, 316, 319, 322, 324, 308, 309, 24, 25, 310, 315, 320, 340, 297, 341, 299, 342, 301, 311, 9001, 313, 9002, 303, 336, 337, 339, 303, 327, 328, 329, 330, 289, 330, 331, 332, 333, 291, 333, 334, 335, 336, 293, 326, 286, 287, 294, 295, 296, 298, 300, 302, 9003, 9004, 306, 305, 304] (by decide +kernel) (by decide +kernel)
theorem own_IO : ∀ w ∈ Bundle.ownAtoms "FeederOrders" 117 xIO xUp, (w ∈ tables_1 ∧ tW w = true) ∨ (w = sw1 ∨ w = sw2 ∨ w = sw3 ∨ w = sw4) := own_by [11, 307, 316, 319, 322, 324, 308, 309, 24, 25, 310, 315, 320, 340, 297, 341, 299, 342, 301, 311, 9001, 313, 9002, 303, 336, 337, 339, 303, 380, 381, 382, 330, 289, 330, 331, 332, 333, 291, 333, 334, 335, 336, 293, 379, 370, 371, 372, 318, 373, 374, 375, 376, 9003, 9004, 306, 305, 377] (by decide +kernel) (by decide +kernel)
section TT
variable {p : Program} {l : Launch} {e : Env} {R : Room} {s : State} {m : MethodId} {args : Array Value} {below : List Frame} {meth : Method} {c : Code} {T : State} {locs : List Loc} {cells slots : Nat}
/-- the walk, begun anew where it stands -/
theorem rebase (X : Stand p l e R s m args below meth c T locs cells slots) (R' : Room) (hf : R'.frames ≤ R.frames) (hl : R'.locals ≤ R.locals) (hc : cells + R'.cells ≤ R.cells) (hs : slots + R'.slots ≤ R.slots) : Stand p l e R' (T.setFrames s.frames) m args below meth c T [] 0 0 := by
  obtain ⟨g₀, hfr⟩ := X.frames_eq
  have hcur : T.cur < T.threads.size := State.cur_lt_of_frames hfr
  have hF : (T.setFrames s.frames).frames = .invoking m args :: below := by rw [State.frames_setFrames _ hcur]; exact X.frames
  have hm : (T.setFrames s.frames).vm.method? m = some meth := X.method'
  have hT : (T.setFrames s.frames).setFrames T.frames = T := by
    rw [State.setFrames_setFrames]
    obtain ⟨t, ht, -⟩ := State.frames_cons hfr
    exact State.setFrames_self ht
  refine ⟨X.admits, X.cas, X.clock, hF, ?_, ?_, hm, X.code, X.here, X.tail, State.WarmedH.refl T, ?_, ?_, ?_⟩
  · refine State.hasRoom_ride (s := s) (r := R) ?_ ?_ ?_ ?_ ?_ ?_ ?_ X.room
    · rw [hF, X.frames]; exact Nat.add_le_add_left hf _
    · rw [State.localsInUse_invoking hF hm X.code, State.localsInUse_invoking X.frames X.method X.code]; exact Nat.add_le_add_left hl _
    · rw [State.stackLimits_setFrames]; exact X.limits
    · rw [State.stackBytes_setFrames]; exact X.bytes
    · have := X.heapSize
      show T.heap.size + R'.cells ≤ _
      omega
    · have := X.used
      show T.slotsUsed + R'.slots ≤ _
      omega
    · exact X.book
  · have h := X.hears
    have ha := X.warmed.alike
    cases below with
    | nil => simp only [State.hears] at h ⊢; rw [show (T.setFrames s.frames).vm = T.vm from rfl, ha.method?]; exact h
    | cons g r =>
      cases g <;> simp only [State.hears] at h ⊢ <;> first
        | (rw [show ∀ q, (T.setFrames s.frames).code? q = s.code? q from fun q => by rw [State.code?_eq, State.code?_eq]; rw [show (T.setFrames s.frames).vm = T.vm from rfl, ha.method?]]; exact h)
        | (rw [show (T.setFrames s.frames).vm = T.vm from rfl, ha.method?]; exact h)
  · rw [State.stackLimits_setFrames]
  · rw [State.stackBytes_setFrames]
  · refine ⟨?_, Nat.le_refl _, Nat.le_refl _, ?_, ?_, fun a c h => ⟨c, h, rfl, rfl, fun _ _ => rfl⟩⟩
    · show T.setVm T.vm = ({ (T.setFrames s.frames).setFrames T.frames with heap := T.heap, slotsUsed := T.slotsUsed } : State)
      rw [hT]
      rfl
    · show T.slotsUsed = T.slotsUsed + ((T.heap.toList.drop T.heap.size).map (·.slots.size)).sum
      rw [List.drop_eq_nil_of_le (by simp)]
      rfl
    · show ((T.heap.toList.drop T.heap.size).map (·.slots.size)).sum ≤ 0
      rw [List.drop_eq_nil_of_le (by simp)]
      exact Nat.le_refl _
end TT
section TU
variable {p : Program} {l : Launch} {e : Env} {R : Room} {s : State} {m : MethodId} {args : Array Value} {below : List Frame} {meth : Method} {c : Code} {T : State} {locs : List Loc} {cells slots : Nat}
/-- throw new E("text") -/
theorem throw_at (X : Stand p l e R s m args below meth c T locs cells slots) (hexec : p.tables.exec = Jvm.exec) (htr : e.platform.stackTraces = false) {cc : ByteArray} (hb : c.code = cc) {E text : String} {ia ib ic pc : Nat} {A : Nat → Prop}
    (hown : s.vm.findClass "FeederOrders" = some m.cls) (hTR : TR A s) (hS : va_S A s.heap T.heap locs) (hE : Bundle.fit E = true) (how : ∀ w ∈ Bundle.ownAtoms "FeederOrders" ic E xUp, (w ∈ tables_1 ∧ tW w = true) ∨ (w = sw1 ∨ w = sw2 ∨ w = sw3 ∨ w = sw4))
    (h1 : Cond.classLink "FeederOrders" ia E ∈ tables_1) (h2 : Cond.initialized E ∈ tables_1) (h3 : Cond.stringRef "FeederOrders" ib text ∈ tables_1)
    {ls : Array Slot} (hsize : ls.size = c.maxLocals) (hout : c.exceptionTable.isEmpty = true) (hlocks : meth.locks = false) (hRf : 6 ≤ R.frames) (hRl : 82 ≤ R.locals) (hRc : cells + 1 ≤ R.cells) (hRs : slots + 6 ≤ R.slots)
    (d0 : decode cc pc = .ok (.new ia, 3)) (d3 : decode cc (pc + 3) = .ok (.dup, 1)) (d4 : decode cc (pc + 4) = .ok (.ldc ib, 2)) (d6 : decode cc (pc + 6) = .ok (.invokespecial ic, 3)) (d9 : decode cc (pc + 9) = .ok (.athrow, 1)) :
    ∃ U : State, Steps p.tables e below (T.setTop (F0 m pc ls [])) U ∧ U.status = .running ∧ Ended U below (.threw T.heap.size) ∧ s.WarmedH U.vm ∧ s.sameButNew ({ U with vm := s.vm } : State) locs (cells + 1) (slots + 6) ∧ (∃ ce, U.heap[T.heap.size]? = some ce ∧ s.vm.findClass E = some ce.cls ∧ ce.vm = .none) ∧ (∀ r, r < T.heap.size → U.heap[r]? = T.heap[r]?) ∧ T.heap.size ≤ U.heap.size := by
  subst hb
  have X' := rebase X { frames := R.frames, cells := 1, slots := 6, locals := R.locals } (Nat.le_refl _) (Nat.le_refl _) hRc hRs
  have hW0 : s.WarmedH (T.setFrames s.frames).vm := X.warmed
  have hTR' : TR (fun q => A q) (T.setFrames s.frames) := hTR.keep hW0 (fun q h1 h2 => hS.2.1 q h1 h2) (fun _ h => h)
  have hw := own_w hTR' how args
  have hown' : (T.setFrames s.frames).vm.findClass "FeederOrders" = some m.cls := by rw [hW0.alike.findClass]; exact hown
  have w1 : (Cond.classLink "FeederOrders" ia E).before args (T.setFrames s.frames) = true := tW_keep rfl (State.WarmedH.refl _) (hTR'.1 _ h1 rfl)
  have w2 : (Cond.initialized E).before args (T.setFrames s.frames) = true := tW_keep rfl (State.WarmedH.refl _) (hTR'.1 _ h2 rfl)
  have w3 : (Cond.stringRef "FeederOrders" ib text).before args (T.setFrames s.frames) = true := tW_keep rfl (State.WarmedH.refl _) (hTR'.1 _ h3 rfl)
  have w4 : (Cond.instantiable E 6).before args (T.setFrames s.frames) = true := hw _ (by simp [Bundle.ownAtoms])
  obtain ⟨vm₁, cX, kX, hfX, hkX, -, -, X₁, st1⟩ := X'.newCold hexec (own := "FeederOrders") (C := E) (index := ia) (n := 6) hown' w1 w4 w2 (g := F0 m pc ls []) rfl d0 (Nat.le_refl _) (Nat.le_refl _)
  generalize hT1 : (T.setVm vm₁).pushCell { cls := cX, slots := kX.instanceTypes.map defaultValue, vm := .none } = T1 at X₁ st1
  have hcellA : T1.heap[T.heap.size]? = some (freshCell cX kX) := by rw [← hT1]; exact State.heap_pushCell_size _ _
  obtain ⟨-, -, -, sa, -, -, -, -, -, hev⟩ := Cond.stringRef_spec hown' w3
  obtain ⟨U, hsteps, hrun, hend, hWU, hsame, ce, hce, K⟩ := X₁.ctorThrowS hexec htr (own := "FeederOrders") (cls := E) (names := xUp) (ic := ic) hown' hE (by decide +kernel) hw (fun y hy => by cases hy) hfX hkX hcellA (Nat.le_refl _) (msg := .ref sa) rfl
    (g := F0 m (pc + 6) ls [.ref sa, .ref T.heap.size, .ref T.heap.size]) rfl hsize rfl rfl (rest := []) rfl d6 d9 (covers_of_empty hout _) (by show 2 + 3 < R.frames; omega) (by show 2 * 0 + 1 + (13 * (2 + 1) + 42) ≤ R.locals; omega) hlocks
  have hWT : T.WarmedH U.vm := hWU
  have hsT : T.sameButNew ({ U with vm := T.vm } : State) [] 1 6 := State.sameButNew.of_setFrames (F := s.frames) hsame
  refine ⟨U, ?_, hrun, hend, State.WarmedH.trans X.warmed hWT, ?_, ⟨ce, hce, ?_, K.vm⟩, fun r hr => ?_, ?_⟩
  · refine st1 _ ?_
    show Steps p.tables e below (T1.setTop { method := m, pc := pc + 3, locals := ls, stack := [.ref T.heap.size], locked := none }) _
    jvm_step X₁.here [X₁.here.top, hexec, d3, Value.category]
    exact X₁.ldcString hexec (own := "FeederOrders") (text := text) (index := ib) (a := sa) hown' w3 hev (g := { method := m, pc := pc + 4, locals := ls, stack := [.ref T.heap.size, .ref T.heap.size], locked := none }) rfl d4 _ hsteps
  · have := X.same.trans (hsT.setVm s.vm)
    rw [List.append_nil] at this
    exact this
  · have := K.cls
    rw [hW0.alike.findClass] at this
    exact this
  · obtain ⟨cr, hcr⟩ : ∃ x, T.heap[r]? = some x := ⟨_, Array.getElem?_eq_some_iff.mpr ⟨hr, rfl⟩⟩
    rw [hcr]
    exact State.sameButNew.old_cell hsT hcr
  · exact hsT.2.1
end TU
/-! contracts of calls that throw -/
/-- how such a call ends -/
def TQ (D : va_G) (L : Lay) (a : Nat → Nat) (V : Mem) (E : String) (A : Nat → Prop) (s : State) (q : Addr) (t : State) : Prop :=
  s.WarmedH t.vm ∧ (∃ Lc, s.sameButNew ({ t with vm := s.vm } : State) Lc 1 6 ∧ ∀ r ∈ Lc, A r.base) ∧ (∃ ce, t.heap[q]? = some ce ∧ s.vm.findClass E = some ce.cls ∧ ce.vm = .none) ∧ s.heap.size ≤ q ∧ va_P D vwCl (wsOf L a V) t.heap ∧ va_F A s t
def PcT (D : va_G) (tys : List (ClassId × FieldType)) (L : Lay) (a : Nat → Nat) (av : List Value) (V : Mem) (sz : Nat) : Array Value → State → Prop := va_Pc av (fun U => U.heap.size = sz ∧ va_P D vwCl (wsOf L a V) U.heap ∧ va_K D vwCl tys U ∧ TR (rgA L a sz) U)
def CT (l : Launch) (D : va_G) (tys : List (ClassId × FieldType)) (L : Lay) (a : Nat → Nat) (y : MethodName) (M : MInf) (av : List Value) (V : Mem) (E : String) : Prop :=
  ∀ sz, MetFree l y (headSpec (wsM y M) M.2.2.2.2) (PcT D tys L a av V sz) (fun _ _ _ _ _ => True) (fun _ st o t => ∃ q, o = .threw q ∧ TQ D L a V E (rgA L a sz) st q t)
/-- the walk's end is a throw of E, the memory is V -/
def QX (l : Launch) (D : va_G) (L : Lay) (a : Nat → Nat) (V : Mem) (E : String) (x : Ctx) : Prop :=
  match x with
  | (_, e, s, _, _, below, _, c, cells, slots, Q, A) => cells = 0 ∧ slots = 0 ∧ l.admits e ∧ c.exceptionTable.isEmpty = true ∧ TR A s ∧ Q = fun t => ∃ q, t.status = .running ∧ Ended t below (.threw q) ∧ TQ D L a V E A s q t
theorem noTr {l : Launch} {e : Env} (hl : l.stackTraces = false) (ha : l.admits e) : e.platform.stackTraces = false := by
  obtain ⟨-, -, -, -, hp, -⟩ := ha
  rw [hp]
  exact hl
section GT
variable {l : Launch} {D : va_G} {tys : List (ClassId × FieldType)} {L : Lay} {a : Nat → Nat} {M : MInf} {x : Ctx} {pc : Nat} {lv lv' : List (Nat × Value)} {st : List Value} {V : Mem}
theorem CT.of {y : MethodName} {av : List Value} {E : String} (hy : plainName y.cls = true) (hown : y.cls = M.2.2.1) (hlen : (lg_sl av).length ≤ M.2.1) (ha : Apart L a) (body : ∀ x, QX l D L a V E x → G l D tys L a M x 0 (lv_args 0 av) [] V) : CT l D tys L a y M av V E := by
  intro sz
  refine MetFree.of_bodyS (code := M.1) (maxLocals := M.2.1) (ret := M.2.2.2.1) hy ?_ ?_
  · intro args s m h hn
    obtain ⟨meth, c, h1, h2, h3, h4, h5, h6, -, -⟩ := Cond.code_spec hn (atoms_spec (ws := wsM y M) h _ List.mem_cons_self)
    exact ⟨meth, c, h1, h2, h3, h4, h5, h6⟩
  · intro p e s m args below meth c s₁ B hml hv _
    obtain ⟨rfl, hsz, hP, hK, hT⟩ := hv
    subst hsz
    have hh0 : s₁.heap = s.heap := by rw [B.state]; rfl
    have hl := lv_entry av (n := M.2.1) hlen
    have hw := atoms_spec (ws := wsM y M) B.pre
    obtain ⟨t, a1, q, b1, b2, b3⟩ := body (p, e, s, m, av.toArray, below, meth, c, 0, 0, _, rgA L a s.heap.size) ⟨rfl, rfl, (Stand.of_body B).admits, B.noHandlers (hw _ List.mem_cons_self), hT, rfl⟩ ⟨B.exec, B.bytes, hml, hown ▸ findClass_of_methodNamed B.named, fun w h => hw w (List.mem_cons_of_mem _ h), hK, ha, fun k hk => Or.inl ⟨k, hk, rfl⟩, fun q h => Or.inr h, B.returns, B.notSynchronized, Nat.zero_le _, Nat.zero_le _⟩ _ _ _ hl hP va_S.rf s₁ hh0 (Stand.of_body B)
    rw [lg_entry_eq]
    exact ⟨t, .threw q, a1, b1, b2, q, rfl, b3⟩
theorem va_F_trans {A : Nat → Prop} {s U : State} {H : Heap} (h1 : s.heap.size ≤ H.size ∧ ∀ q : Nat, q < s.heap.size → ¬ A q → H[q]? = s.heap[q]?) (h2 : H.size ≤ U.heap.size) (h3 : ∀ r, r < H.size → ¬ A r → U.heap[r]? = H[r]?) : va_F A s U :=
  ⟨Nat.le_trans h1.1 h2, fun q hq hA => by rw [h3 q (Nat.lt_of_lt_of_le hq h1.1) hA]; exact h1.2 q hq hA⟩
/-- throw new E("text"), here -/
theorem g_throw {E text : String} {ia ib ic : Nat} (hl : l.stackTraces = false) (hq : QX l D L a V E x) (hM : M.2.2.1 = "FeederOrders") (hE : Bundle.fit E = true) (how : ∀ w ∈ Bundle.ownAtoms "FeederOrders" ic E xUp, (w ∈ tables_1 ∧ tW w = true) ∨ (w = sw1 ∨ w = sw2 ∨ w = sw3 ∨ w = sw4)) (h1 : Cond.classLink "FeederOrders" ia E ∈ tables_1) (h2 : Cond.initialized E ∈ tables_1) (h3 : Cond.stringRef "FeederOrders" ib text ∈ tables_1) (hR : 6 ≤ M.2.2.2.2.frames ∧ 82 ≤ M.2.2.2.2.locals ∧ 1 ≤ M.2.2.2.2.cells ∧ 6 ≤ M.2.2.2.2.slots)
    (d0 : decode M.1 pc = .ok (.new ia, 3)) (d3 : decode M.1 (pc + 3) = .ok (.dup, 1)) (d4 : decode M.1 (pc + 4) = .ok (.ldc ib, 2)) (d6 : decode M.1 (pc + 6) = .ok (.invokespecial ic, 3)) (d9 : decode M.1 (pc + 9) = .ok (.athrow, 1)) : G l D tys L a M x pc lv [] V := by
  obtain ⟨p, e, s, m, args, below, meth, c, cells, slots, Q, A⟩ := x
  obtain ⟨rfl, rfl, hadm, hex, hTR, rfl⟩ := hq
  intro cx ls H locs hl' hP hS T hT X
  subst hT
  obtain ⟨U, s1, s2, s3, s4, s5, s6, s7, s8⟩ := throw_at X cx.1 (noTr hl hadm) cx.2.1 (hM ▸ cx.2.2.2.1) hTR hS hE how h1 h2 h3 (hl'.1.trans cx.2.2.1.symm) hex cx.2.2.2.2.2.2.2.2.2.2.1 hR.1 hR.2.1 (by omega) (by omega) d0 d3 d4 d6 d9
  refine ⟨U, s1, _, s2, s3, s4, ⟨locs, by simpa using s5, hS.2.2⟩, s6, hS.1, hP.kept (fun k q hk => s7 _ (hP k q hk).lt), va_F_trans ⟨hS.1, hS.2.1⟩ s8 (fun r hr _ => s7 r hr)⟩
end GT
section TV
variable {p : Program} {l : Launch} {e : Env} {R : Room} {s : State} {m : MethodId} {args : Array Value} {below : List Frame} {meth : Method} {c : Code} {U : State} {locs : List Loc} {cells slots : Nat}
/-- an invocation that throws: the note lies over the caller's frame -/
theorem thrownOver (X : Stand p l e R s m args below meth c U locs cells slots) {y : MethodName} {S : Spec} {P : Array Value → State → Prop} {Tq : State → Addr → State → Prop} {bytes : ByteArray} {maxL : Nat} {ret : Option FieldType} {mk : MethodId} {av : Array Value} {g : JFrame} {ig : Instr} {len W k n : Nat}
    (hM : MetFree l y S P (fun _ _ _ _ _ => True) (fun _ st o t => ∃ q, o = .threw q ∧ Tq st q t)) (hT : ∀ st q t, Tq st q t → st.WarmedH t.vm ∧ ∃ Lc, st.sameButNew ({ t with vm := st.vm } : State) Lc k n)
    (hg : g.method = m) (hsize : g.locals.size = c.maxLocals) (hdg : decode c.code g.pc = .ok (ig, len)) (hW : 2 * g.monitorRoom + (g.stack.map fun v => v.category).sum ≤ W) (hn : U.methodNamed? y = some mk) (h1 : S.pre.before av U = true) (h2 : (Cond.code y bytes maxL ret).before av U = true) (h3 : (Cond.initialized y.cls).before av U = true)
    (hframes : S.room.frames + 1 ≤ R.frames) (hlocals : W + (maxL + 11) + S.room.locals ≤ R.locals) (h4 : cells + S.room.cells ≤ R.cells) (h5 : slots + S.room.slots ≤ R.slots) (hP : P av (U.calling g mk av)) :
    ∃ (q : Addr) (t U' : State), Tq (U.calling g mk av) q t ∧ U'.heap = t.heap ∧ U'.vm = t.vm ∧ (∀ Lc, (U.calling g mk av).sameButNew ({ t with vm := (U.calling g mk av).vm } : State) Lc k n → Stand p l e R s m args below meth c U' (locs ++ Lc) (cells + k) (slots + n)) ∧ Steps p.tables e below (doInvoke e (U.setTop g) [] mk av).1 ((U'.setTop g).pushFrame (.throwing q)) := by
  obtain ⟨methY, cY, hmY, hcY, -, hlY, -, -, -, -⟩ := Cond.code_spec hn h2
  obtain ⟨kY, hkY, -⟩ := className_of_methodNamed hn
  have hinitY : kY.init = .initialized := Cond.initialized_spec (findClass_of_methodNamed hn) hkY h3
  have h : At U g.method c below := by rw [hg]; exact X.here
  have happ : S.appliesLoose y e.platform (U.calling g mk av) = true :=
    Spec.appliesLoose_calling (g := g) h hdg hn hkY hinitY (X.room_calling (g := g) (R' := S.room) hsize hmY hcY hframes (by rw [hlY]; omega) h4 h5) h1
  obtain ⟨mid, hmid⟩ := h.above
  have hfr : (U.setTop g).frames = (.java g :: mid) ++ below := by rw [State.frames_setTop' g h.top, hmid]; rfl
  obtain ⟨o, s₂, hsteps, -, hend, q, rfl, hq⟩ := Steps.callFree hM p X.admits X.cas X.clock (acts := []) hfr happ hP trivial
  have hq' : Tq (U.calling g mk av) q s₂ := hq
  rw [State.frames_setTop' g h.top] at hend
  have hf₂ : s₂.frames = .throwing q :: .java g :: U.frames.tail := hend
  obtain ⟨g₀, hg0⟩ := Option.isSome_iff_exists.mp h.top
  obtain ⟨r, hr⟩ := State.topJava?_eq_some.mp hg0
  obtain ⟨hWt, L0, e2, -⟩ := hT _ _ _ hq'
  have hW' : U.WarmedH s₂.vm := hWt
  have e3 : s₂ = ({ (U.calling g mk av).setFrames s₂.frames with heap := s₂.heap, slotsUsed := s₂.slotsUsed } : State).setVm s₂.vm := by
    have : s₂ = ({ s₂ with vm := (U.calling g mk av).vm } : State).setVm s₂.vm := rfl
    rw [e2] at this
    exact this
  have hs₂ : s₂ = ((({ U with heap := s₂.heap, slotsUsed := s₂.slotsUsed } : State).setVm s₂.vm).setTop g).pushFrame (.throwing q) := by
    have hr' : (({ U with heap := s₂.heap, slotsUsed := s₂.slotsUsed } : State).setVm s₂.vm).frames = .java g₀ :: r := hr
    rw [State.pushFrame, State.frames_setTop _ hr', State.setTop_of_frames _ hr', State.setFrames_setFrames]
    refine e3.trans ?_
    rw [hf₂, State.calling_eq h.top, State.setFrames_setFrames, hr]
    rfl
  refine ⟨q, s₂, (({ U with heap := s₂.heap, slotsUsed := s₂.slotsUsed } : State).setVm s₂.vm), hq', rfl, rfl, fun Lc hsm => ?_, by rw [← hs₂]; exact hsteps⟩
  have hsame : U.sameButNew ({ U with heap := s₂.heap, slotsUsed := s₂.slotsUsed } : State) Lc k n := by
    obtain ⟨-, q2, q3, q4, q5, q6⟩ := hsm
    refine ⟨?_, q2, q3, q4, q5, q6⟩
    obtain ⟨t, ht, -⟩ := State.frames_cons hr
    show ({ U with heap := s₂.heap, slotsUsed := s₂.slotsUsed } : State) = { U.setFrames U.frames with heap := s₂.heap, slotsUsed := s₂.slotsUsed }
    rw [State.setFrames_self ht]
  subst hg
  exact ⟨X.admits, X.cas, X.clock, X.frames, X.room, X.hears, X.method, X.code, (X.here.setHeapUsed s₂.heap s₂.slotsUsed).setVm hW'.alike, X.tail, State.WarmedH.trans X.warmed hW', X.limits, X.bytes, X.same.trans (hsame.setVm s.vm)⟩
/-- 'invokevirtual' of a method that throws -/
theorem invThrown (X : Stand p l e R s m args below meth c U locs cells slots) (hexec : p.tables.exec = Jvm.exec) {own : String} {index nn : Nat} {y : MethodName} {M2 : MInf} {P : Array Value → State → Prop} {Tq : State → Addr → State → Prop} {k n : Nat}
    (hM : MetFree l y (headSpec (wsM y M2) M2.2.2.2.2) P (fun _ _ _ _ _ => True) (fun _ st o t => ∃ q, o = .threw q ∧ Tq st q t)) (hT : ∀ st q t, Tq st q t → st.WarmedH t.vm ∧ ∃ Lc, st.sameButNew ({ t with vm := st.vm } : State) Lc k n)
    (hown : s.vm.findClass own = some m.cls) (hts : ∀ w ∈ gw, w.before args s = true) (hk : LkV own index y M2 nn) (hblind : FrameBlind P)
    {b : Addr} {cellB : Cell} (hcell : U.heap[b]? = some cellB) (hobj : cellB.vm.isStatics = false) (hcls : s.vm.findClass y.cls = some cellB.cls)
    {g : JFrame} (hg : g.method = m) (hsize : g.locals.size = c.maxLocals) {As rest : List Value} (hlen : As.length = nn) (hstack : g.stack = As.reverse ++ .ref b :: rest) (hW : 2 * g.monitorRoom + (rest.map fun v => v.category).sum ≤ 8) (hdg : decode c.code g.pc = .ok (.invokevirtual index, 3))
    (hR : M2.2.2.2.2.frames + 1 ≤ R.frames ∧ 8 + (M2.2.1 + 11) + M2.2.2.2.2.locals ≤ R.locals ∧ cells + M2.2.2.2.2.cells ≤ R.cells ∧ slots + M2.2.2.2.2.slots ≤ R.slots) (hP : ∀ vm₁, s.WarmedH vm₁ → P (Value.ref b :: As).toArray (U.setVm vm₁)) :
    ∃ (q : Addr) (vm₁ : Vm) (mk : MethodId) (t U' : State), s.WarmedH vm₁ ∧ Tq ((U.setVm vm₁).calling { g with stack := rest } mk (Value.ref b :: As).toArray) q t ∧ U'.heap = t.heap ∧ U'.vm = t.vm ∧ (∀ Lc, ((U.setVm vm₁).calling { g with stack := rest } mk (Value.ref b :: As).toArray).sameButNew ({ t with vm := ((U.setVm vm₁).calling { g with stack := rest } mk (Value.ref b :: As).toArray).vm } : State) Lc k n → Stand p l e R s m args below meth c U' (locs ++ Lc) (cells + k) (slots + n)) ∧ Steps p.tables e below (U.setTop g) ((U'.setTop { g with stack := rest }).pushFrame (.throwing q)) := by
  obtain ⟨w1, w2, w3, w4, w5, w6, w7, w8⟩ := hk
  have hlink := hts _ w1
  have hinst := hts _ w2
  have hsel := hts _ w3
  have hcode := hts _ w5
  obtain ⟨mk, methM, hnamed, hmethM, hstM, habM⟩ := Cond.instanceMethod_spec hinst
  obtain ⟨methM', cM, hmethM', -, -, -, -, -, -, hsigM⟩ := Cond.code_spec hnamed hcode
  cases hmethM.symm.trans hmethM'
  obtain ⟨c2, r2, m2, q1, q2, q3, q4, kP, hkP, hkPi⟩ := Cond.selects_spec hsel
  cases hcls.symm.trans q1
  cases (State.methodFound?_of_named hnamed ⟨w6, w7⟩).symm.trans q2
  cases hnamed.symm.trans q3
  have hselP : selectMethod e.platform s.vm cellB.cls mk = .method mk := by rw [Launch.admits_selectMethod X.admits]; exact q4
  have hpar : As.length = methM.sig.parameters.length := by
    rw [hsigM] at w8
    rw [hlen]
    exact (Option.some.inj w8).symm
  obtain ⟨vm₁, X₁, hstep₁⟩ := X.invokevirtual hexec hown hlink hnamed hmethM hstM hkP hkPi ⟨w6, w7⟩ (a := b) (cell := cellB) hcell (fun z h => by rw [h] at hobj; cases hobj) hselP hmethM habM hkP hkPi (g := g) hg (argsL := As) (rest := rest) hpar hstack hdg
  have hgw : ∀ w ∈ wsM y M2, ∀ (a' : Array Value), w.before a' (U.setVm vm₁) = true := fun w hw a' => by
    rcases List.mem_cons.mp hw with rfl | hw
    · exact word_at X₁.warmed (tbl_good _ w5).2 hcode
    · exact word_at X₁.warmed (tbl_good _ hw).2 (hts _ hw)
  obtain ⟨q, t, U', h1, h2, h3, h4, h5⟩ := thrownOver X₁ (S := headSpec (wsM y M2) M2.2.2.2.2) (bytes := M2.1) (maxL := M2.2.1) (ret := M2.2.2.2.1) (av := (Value.ref b :: As).toArray) (g := { g with stack := rest }) (ig := .invokevirtual index) (len := 3) (W := 8) hM hT hg hsize hdg hW (X₁.named hnamed) (atoms_intro fun w hw => hgw w hw _) (hgw _ List.mem_cons_self _) (word_at X₁.warmed (tbl_good _ w4).2 (hts _ w4)) hR.1 hR.2.1 hR.2.2.1 hR.2.2.2 (hblind _ _ _ _ (hP vm₁ X₁.warmed))
  exact ⟨q, vm₁, mk, t, U', X₁.warmed, h1, h2, h3, h4, hstep₁ _ fun acts => by rw [doInvoke_state]; exact h5⟩
end TV
section GU
variable {l : Launch} {D : va_G} {tys : List (ClassId × FieldType)} {L : Lay} {a : Nat → Nat} {M : MInf} {x : Ctx} {pc : Nat} {lv lv' : List (Nat × Value)} {st : List Value} {V : Mem}
theorem blindT {av : List Value} {sz : Nat} : FrameBlind (PcT D tys L a av V sz) := fun a' U g mk q => by
  obtain ⟨q0, q1, qP, qK, qT⟩ := q
  exact ⟨q0, q1, qP, va_K.moved (u := U) (U := U.calling g mk a') (Vm.Alike.refl U.vm) qK, qT.keep (U' := U.calling g mk a') (State.WarmedH.refl U) (fun _ _ _ => rfl) (fun _ h => h)⟩
theorem TQ_frame {V : Mem} {E : String} {A : Nat → Prop} : ∀ (st : State) (q : Addr) (t : State), TQ D L a V E A st q t → st.WarmedH t.vm ∧ ∃ Lc, st.sameButNew ({ t with vm := st.vm } : State) Lc 1 6 := fun _ _ _ h => ⟨h.1, h.2.1.imp fun _ q => q.1⟩
/-- a call that throws, in a method that throws so -/
theorem g_callT {y : MethodName} {M2 : MInf} {idx n k ci : Nat} {fs : (Nat → Int) → List Value} {C : vw_C} (As : List Value) {E : String} {st0 : List Value} (hq : QX l D L a V E x) (hM : CT l D tys L a y M2 (.ref (a k) :: As) V E) (hk : LkV M.2.2.1 idx y M2 n) (ho : ObC L a k ci fs) (hc : vwCl[ci]? = some C) (hcl : C.1 = y.cls) (hR : M2.2.2.2.2.frames + 1 ≤ M.2.2.2.2.frames ∧ 8 + (M2.2.1 + 11) + M2.2.2.2.2.locals ≤ M.2.2.2.2.locals ∧ M2.2.2.2.2.cells ≤ M.2.2.2.2.cells ∧ M2.2.2.2.2.slots ≤ M.2.2.2.2.slots) (hn : As.length = n) (hst : (st.map fun v => v.category).sum ≤ 8) (d : decode M.1 pc = .ok (.invokevirtual idx, 3)) (hs0 : st0 = As.reverse ++ .ref (a k) :: st) : G l D tys L a M x pc lv st0 V := by
  obtain ⟨p, e, s, m, args, below, meth, c, cells, slots, Q, A⟩ := x
  obtain ⟨rfl, rfl, hadm, hex, hTR, rfl⟩ := hq
  subst hs0
  intro cx ls H locs hl' hP hS T hT X
  subst hT
  obtain ⟨cellB, b1, b2, b3⟩ := hcl ▸ va_recv cx.2.2.2.2.2.1 hP hc (show (wsOf L a V)[k]? = some (a k, (Sum.inr (ci, fs (V k)) : va_E)) by rw [wsOf_at ho.1, ho.2])
  have hsub := rg_sub (L := L) (a := a) cx.2.2.2.2.2.2.2.1 cx.2.2.2.2.2.2.2.2.1 hS
  obtain ⟨q, vm₁, mk, t, U', hW1, hTq, e1, e2, hX', hst'⟩ := invThrown X cx.1 (hM T.heap.size) TQ_frame cx.2.2.2.1 cx.2.2.2.2.1 hk blindT b1 b2 b3 (g := F0 m pc ls (As.reverse ++ .ref (a k) :: st)) rfl (hl'.1.trans cx.2.2.1.symm) (As := As) (rest := st) hn rfl (lv_room hst) (by rw [cx.2.1]; exact d) ⟨hR.1, hR.2.1, by omega, by omega⟩ (fun vm₁ hW => ⟨rfl, rfl, hP, va_K.moved hW.alike cx.2.2.2.2.2.1, hTR.keep (U' := T.setVm vm₁) hW (fun r h1 h2 => hS.2.1 r h1 h2) hsub⟩)
  obtain ⟨t1, ⟨Lc, t2, t3⟩, ⟨ce, t4, t5, t6⟩, t7, t8, t9⟩ := hTq
  have X' := hX' Lc t2
  obtain ⟨f1, f2, f3, f4, f5⟩ := X'.leaveThrown q (g := F0 m pc ls st) rfl rfl rfl (covers_of_empty hex _) cx.2.2.2.2.2.2.2.2.2.2.1
  have hh : (U'.setFrames (.throwing q :: below)).heap = t.heap := e1
  refine ⟨_, hst'.trans f1, q, f2, f3, f4, ⟨locs ++ Lc, by simpa using f5, fun r hr => ?_⟩, ⟨ce, by rw [hh]; exact t4, ?_, t6⟩, Nat.le_trans hS.1 t7, by rw [hh]; exact t8, va_F_trans ⟨hS.1, hS.2.1⟩ (by rw [hh]; exact t9.1) (fun r hr hA => by rw [hh]; exact t9.2 r hr (fun z => hA (hsub r z)))⟩
  · rcases List.mem_append.mp hr with h | h
    · exact hS.2.2 r h
    · exact hsub _ (t3 r h)
  · have := t5
    rw [show ((T.setVm vm₁).calling { F0 m pc ls (As.reverse ++ .ref (a k) :: st) with stack := st } mk (Value.ref (a k) :: As).toArray).vm = vm₁ from rfl, hW1.alike.findClass] at this
    exact this
end GU
