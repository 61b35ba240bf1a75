/-! the judgement: the machine stands at pc of a method, locals lv, stack st, the layout's cells hold the memory V -/
abbrev MInf : Type := ByteArray × Nat × String × Option FieldType × Room
abbrev Ctx : Type := Program × Env × State × MethodId × Array Value × List Frame × Method × Code × Nat × Nat × (State → Prop) × (Nat → Prop)
def Cx (D : va_G) (tys : List (ClassId × FieldType)) (L : Lay) (a : Nat → Nat) (M : MInf) (p : Program) (s : State) (m : MethodId) (args : Array Value) (meth : Method) (c : Code) (cells slots : Nat) (A : Nat → Prop) : Prop :=
  p.tables.exec = Jvm.exec ∧ c.code = M.1 ∧ c.maxLocals = M.2.1 ∧ s.vm.findClass M.2.2.1 = some m.cls ∧ (∀ w ∈ gw, w.before args s = true) ∧ va_K D vwCl tys s ∧ Apart L a ∧ (∀ k, k < L.1 → A (a k)) ∧ (∀ q, s.heap.size ≤ q → A q) ∧ meth.sig.returnType = M.2.2.2.1 ∧ meth.locks = false ∧ cells ≤ M.2.2.2.2.cells ∧ slots ≤ M.2.2.2.2.slots
def G (l : Launch) (D : va_G) (tys : List (ClassId × FieldType)) (L : Lay) (a : Nat → Nat) (M : MInf) (x : Ctx) (pc : Nat) (lv : List (Nat × Value)) (st : List Value) (V : Mem) : Prop :=
  match x with
  | (p, e, s, m, args, below, meth, c, cells, slots, Q, A) => Cx D tys L a M p s m args meth c cells slots A → ∀ (ls : Array Slot) (H : Heap) (locs : List Loc), lv_has ls M.2.1 lv → va_P D vwCl (wsOf L a V) H → va_S A s.heap H locs → W p l e M.2.2.2.2 s m args below meth c H locs cells slots Q (F0 m pc ls st)
section GG
variable {l : Launch} {D : va_G} {tys : List (ClassId × FieldType)} {L : Lay} {a : Nat → Nat} {M : MInf} {x : Ctx} {pc : Nat} {lv lv' : List (Nat × Value)} {st : List Value} {V : Mem}
/-- fewer locals, in another order -/
theorem g_lv (ks : List Nat) (h : lv_pick lv ks = lv') (k : G l D tys L a M x pc lv' st V) : G l D tys L a M x pc lv st V := by
  obtain ⟨p, e, s, m, args, below, meth, c, cells, slots, Q, A⟩ := x
  exact fun cx ls H locs hl hP hS => k cx ls H locs (lv_sub hl ks h) hP hS
/-- the memory by another name -/
theorem g_mem {V' : Mem} (h : V = V') (k : G l D tys L a M x pc lv st V') : G l D tys L a M x pc lv st V := h ▸ k
theorem g_top {u v : Int} (h : u = v) (k : G l D tys L a M x pc lv (.int (iN v) :: st) V) : G l D tys L a M x pc lv (.int (iN u) :: st) V := h ▸ k
theorem g_topl {u v : Int} (h : u = v) (k : G l D tys L a M x pc lv (.long (jN v) :: st) V) : G l D tys L a M x pc lv (.long (jN u) :: st) V := h ▸ k
theorem g_iconst {n : Int} (d : decode M.1 pc = .ok (.iconst n, 1)) (k : G l D tys L a M x (pc + 1) lv (.int (iN n) :: st) V) : G l D tys L a M x pc lv st V := by
  obtain ⟨p, e, s, m, args, below, meth, c, cells, slots, Q, A⟩ := x
  exact fun cx ls H locs hl hP hS => lv_iconst cx.1 cx.2.1 d rfl (k cx ls H locs hl hP hS)
theorem g_bipush {n : Int} (d : decode M.1 pc = .ok (.bipush n, 2)) (hv : (Int8.ofInt n).toInt32 = iN n) (k : G l D tys L a M x (pc + 2) lv (.int (iN n) :: st) V) : G l D tys L a M x pc lv st V := by
  obtain ⟨p, e, s, m, args, below, meth, c, cells, slots, Q, A⟩ := x
  exact fun cx ls H locs hl hP hS => lv_bipush cx.1 cx.2.1 d hv (k cx ls H locs hl hP hS)
theorem g_sipush {n : Int} (d : decode M.1 pc = .ok (.sipush n, 3)) (hv : (Int16.ofInt n).toInt32 = iN n) (k : G l D tys L a M x (pc + 3) lv (.int (iN n) :: st) V) : G l D tys L a M x pc lv st V := by
  obtain ⟨p, e, s, m, args, below, meth, c, cells, slots, Q, A⟩ := x
  exact fun cx ls H locs hl hP hS => lv_sipush cx.1 cx.2.1 d hv (k cx ls H locs hl hP hS)
theorem g_lconst {n : Fin 2} (z : Int) (d : decode M.1 pc = .ok (.lconst n, 1)) (hv : Int64.ofNat (n : Nat) = jN z) (k : G l D tys L a M x (pc + 1) lv (.long (jN z) :: st) V) : G l D tys L a M x pc lv st V := by
  obtain ⟨p, e, s, m, args, below, meth, c, cells, slots, Q, A⟩ := x
  exact fun cx ls H locs hl hP hS => lv_lconst cx.1 cx.2.1 d hv (k cx ls H locs hl hP hS)
theorem g_ldc {index : Nat} {w : Int32} (z : Int) (hw : Cond.constant M.2.2.1 index w ∈ gw) (hv : w = iN z) (d : decode M.1 pc = .ok (.ldc index, 2)) (k : G l D tys L a M x (pc + 2) lv (.int (iN z) :: st) V) : G l D tys L a M x pc lv st V := by
  obtain ⟨p, e, s, m, args, below, meth, c, cells, slots, Q, A⟩ := x
  subst hv
  exact fun cx ls H locs hl hP hS => lv_ldc cx.1 cx.2.1 cx.2.2.2.1 (cx.2.2.2.2.1 _ hw) d (k cx ls H locs hl hP hS)
theorem g_ldc2 {index : Nat} {w : Int64} (z : Int) (hw : Cond.constantLong M.2.2.1 index w ∈ gw) (hv : w = jN z) (d : decode M.1 pc = .ok (.ldc2_w index, 3)) (k : G l D tys L a M x (pc + 3) lv (.long (jN z) :: st) V) : G l D tys L a M x pc lv st V := by
  obtain ⟨p, e, s, m, args, below, meth, c, cells, slots, Q, A⟩ := x
  subst hv
  exact fun cx ls H locs hl hP hS => lv_ldc2 cx.1 cx.2.1 cx.2.2.2.1 (cx.2.2.2.2.1 _ hw) d (k cx ls H locs hl hP hS)
theorem g_iload_n {j : Fin 4} (q : Nat) {i : Nat} {v : Int} (d : decode M.1 pc = .ok (.iload_n j, 1)) (hi : (j : Nat) = i) (hk : lv[q]? = some (i, .int (iN v))) (k : G l D tys L a M x (pc + 1) lv (.int (iN v) :: st) V) : G l D tys L a M x pc lv st V := by
  obtain ⟨p, e, s, m, args, below, meth, c, cells, slots, Q, A⟩ := x
  exact fun cx ls H locs hl hP hS => lv_iload_n cx.1 cx.2.1 d hi (lv_at hl q hk) (k cx ls H locs hl hP hS)
theorem g_iload (q : Nat) {i : Nat} {v : Int} (d : decode M.1 pc = .ok (.iload i, 2)) (hk : lv[q]? = some (i, .int (iN v))) (k : G l D tys L a M x (pc + 2) lv (.int (iN v) :: st) V) : G l D tys L a M x pc lv st V := by
  obtain ⟨p, e, s, m, args, below, meth, c, cells, slots, Q, A⟩ := x
  exact fun cx ls H locs hl hP hS => lv_iload cx.1 cx.2.1 d (lv_at hl q hk) (k cx ls H locs hl hP hS)
theorem g_lload_n {j : Fin 4} (q : Nat) {i : Nat} {v : Int} (d : decode M.1 pc = .ok (.lload_n j, 1)) (hi : (j : Nat) = i) (hk : lv[q]? = some (i, .long (jN v))) (k : G l D tys L a M x (pc + 1) lv (.long (jN v) :: st) V) : G l D tys L a M x pc lv st V := by
  obtain ⟨p, e, s, m, args, below, meth, c, cells, slots, Q, A⟩ := x
  exact fun cx ls H locs hl hP hS => lv_lload_n cx.1 cx.2.1 d hi (lv_at hl q hk) (k cx ls H locs hl hP hS)
theorem g_lload (q : Nat) {i : Nat} {v : Int} (d : decode M.1 pc = .ok (.lload i, 2)) (hk : lv[q]? = some (i, .long (jN v))) (k : G l D tys L a M x (pc + 2) lv (.long (jN v) :: st) V) : G l D tys L a M x pc lv st V := by
  obtain ⟨p, e, s, m, args, below, meth, c, cells, slots, Q, A⟩ := x
  exact fun cx ls H locs hl hP hS => lv_lload cx.1 cx.2.1 d (lv_at hl q hk) (k cx ls H locs hl hP hS)
theorem g_aload_n {j : Fin 4} (q : Nat) {i y : Nat} (d : decode M.1 pc = .ok (.aload_n j, 1)) (hi : (j : Nat) = i) (hk : lv[q]? = some (i, .ref y)) (k : G l D tys L a M x (pc + 1) lv (.ref y :: st) V) : G l D tys L a M x pc lv st V := by
  obtain ⟨p, e, s, m, args, below, meth, c, cells, slots, Q, A⟩ := x
  exact fun cx ls H locs hl hP hS => lv_aload_n cx.1 cx.2.1 d hi (lv_at hl q hk) (k cx ls H locs hl hP hS)
theorem g_aload (q : Nat) {i y : Nat} (d : decode M.1 pc = .ok (.aload i, 2)) (hk : lv[q]? = some (i, .ref y)) (k : G l D tys L a M x (pc + 2) lv (.ref y :: st) V) : G l D tys L a M x pc lv st V := by
  obtain ⟨p, e, s, m, args, below, meth, c, cells, slots, Q, A⟩ := x
  exact fun cx ls H locs hl hP hS => lv_aload cx.1 cx.2.1 d (lv_at hl q hk) (k cx ls H locs hl hP hS)
theorem g_istore_n (lv' : List (Nat × Value)) {j : Fin 4} {i : Nat} {v : Int} (d : decode M.1 pc = .ok (.istore_n j, 1)) (hi : (j : Nat) = i) (hn : i < M.2.1) (h : (i, Value.int (iN v)) :: lv.filter (fun q => !(q.1 == i) && !(q.1 + 1 == i && q.2.category == 2)) = lv') (k : G l D tys L a M x (pc + 1) lv' st V) : G l D tys L a M x pc lv (.int (iN v) :: st) V := by
  obtain ⟨p, e, s, m, args, below, meth, c, cells, slots, Q, A⟩ := x
  exact fun cx ls H locs hl hP hS => lv_istore_n cx.1 cx.2.1 d hi hl hn h (fun ls' hl' => k cx ls' H locs hl' hP hS)
theorem g_istore (lv' : List (Nat × Value)) {i : Nat} {v : Int} (d : decode M.1 pc = .ok (.istore i, 2)) (hn : i < M.2.1) (h : (i, Value.int (iN v)) :: lv.filter (fun q => !(q.1 == i) && !(q.1 + 1 == i && q.2.category == 2)) = lv') (k : G l D tys L a M x (pc + 2) lv' st V) : G l D tys L a M x pc lv (.int (iN v) :: st) V := by
  obtain ⟨p, e, s, m, args, below, meth, c, cells, slots, Q, A⟩ := x
  exact fun cx ls H locs hl hP hS => lv_istore cx.1 cx.2.1 d hl hn h (fun ls' hl' => k cx ls' H locs hl' hP hS)
theorem g_lstore_n (lv' : List (Nat × Value)) {j : Fin 4} {i : Nat} {v : Int} (d : decode M.1 pc = .ok (.lstore_n j, 1)) (hi : (j : Nat) = i) (hn : i + 1 < M.2.1) (h : (i, Value.long (jN v)) :: lv.filter (fun q => !(q.1 == i) && (!(q.1 == i + 1) && !(q.1 + 1 == i && q.2.category == 2))) = lv') (k : G l D tys L a M x (pc + 1) lv' st V) : G l D tys L a M x pc lv (.long (jN v) :: st) V := by
  obtain ⟨p, e, s, m, args, below, meth, c, cells, slots, Q, A⟩ := x
  exact fun cx ls H locs hl hP hS => lv_lstore_n cx.1 cx.2.1 d hi hl hn h (fun ls' hl' => k cx ls' H locs hl' hP hS)
theorem g_lstore (lv' : List (Nat × Value)) {i : Nat} {v : Int} (d : decode M.1 pc = .ok (.lstore i, 2)) (hn : i + 1 < M.2.1) (h : (i, Value.long (jN v)) :: lv.filter (fun q => !(q.1 == i) && (!(q.1 == i + 1) && !(q.1 + 1 == i && q.2.category == 2))) = lv') (k : G l D tys L a M x (pc + 2) lv' st V) : G l D tys L a M x pc lv (.long (jN v) :: st) V := by
  obtain ⟨p, e, s, m, args, below, meth, c, cells, slots, Q, A⟩ := x
  exact fun cx ls H locs hl hP hS => lv_lstore cx.1 cx.2.1 d hl hn h (fun ls' hl' => k cx ls' H locs hl' hP hS)
theorem g_astore_n (lv' : List (Nat × Value)) {j : Fin 4} {i y : Nat} (d : decode M.1 pc = .ok (.astore_n j, 1)) (hi : (j : Nat) = i) (hn : i < M.2.1) (h : (i, Value.ref y) :: lv.filter (fun q => !(q.1 == i) && !(q.1 + 1 == i && q.2.category == 2)) = lv') (k : G l D tys L a M x (pc + 1) lv' st V) : G l D tys L a M x pc lv (.ref y :: st) V := by
  obtain ⟨p, e, s, m, args, below, meth, c, cells, slots, Q, A⟩ := x
  exact fun cx ls H locs hl hP hS => lv_astore_n cx.1 cx.2.1 d hi hl hn h (fun ls' hl' => k cx ls' H locs hl' hP hS)
theorem g_astore (lv' : List (Nat × Value)) {i y : Nat} (d : decode M.1 pc = .ok (.astore i, 2)) (hn : i < M.2.1) (h : (i, Value.ref y) :: lv.filter (fun q => !(q.1 == i) && !(q.1 + 1 == i && q.2.category == 2)) = lv') (k : G l D tys L a M x (pc + 2) lv' st V) : G l D tys L a M x pc lv (.ref y :: st) V := by
  obtain ⟨p, e, s, m, args, below, meth, c, cells, slots, Q, A⟩ := x
  exact fun cx ls H locs hl hP hS => lv_astore cx.1 cx.2.1 d hl hn h (fun ls' hl' => k cx ls' H locs hl' hP hS)
theorem g_iinc (q : Nat) (lv' : List (Nat × Value)) {i : Nat} {n v : Int} (d : decode M.1 pc = .ok (.iinc i n, 3)) (hk : lv[q]? = some (i, .int (iN v))) (hn : i < M.2.1) (h : (i, Value.int (iN (v + n))) :: lv.filter (fun q => !(q.1 == i) && !(q.1 + 1 == i && q.2.category == 2)) = lv') (k : G l D tys L a M x (pc + 3) lv' st V) : G l D tys L a M x pc lv st V := by
  obtain ⟨p, e, s, m, args, below, meth, c, cells, slots, Q, A⟩ := x
  exact fun cx ls H locs hl hP hS => lv_iinc cx.1 cx.2.1 d hl hk (iN_add v n) hn h (fun ls' hl' => k cx ls' H locs hl' hP hS)
theorem g_iadd {u v : Int} (d : decode M.1 pc = .ok (.iadd, 1)) (k : G l D tys L a M x (pc + 1) lv (.int (iN (u + v)) :: st) V) : G l D tys L a M x pc lv (.int (iN v) :: .int (iN u) :: st) V := by
  obtain ⟨p, e, s, m, args, below, meth, c, cells, slots, Q, A⟩ := x
  exact fun cx ls H locs hl hP hS => lv_iadd cx.1 cx.2.1 d (by rw [iN_add]; exact k cx ls H locs hl hP hS)
theorem g_isub {u v : Int} (d : decode M.1 pc = .ok (.isub, 1)) (k : G l D tys L a M x (pc + 1) lv (.int (iN (u - v)) :: st) V) : G l D tys L a M x pc lv (.int (iN v) :: .int (iN u) :: st) V := by
  obtain ⟨p, e, s, m, args, below, meth, c, cells, slots, Q, A⟩ := x
  exact fun cx ls H locs hl hP hS => lv_isub cx.1 cx.2.1 d (by rw [iN_sub]; exact k cx ls H locs hl hP hS)
theorem g_imul {u v : Int} (d : decode M.1 pc = .ok (.imul, 1)) (k : G l D tys L a M x (pc + 1) lv (.int (iN (u * v)) :: st) V) : G l D tys L a M x pc lv (.int (iN v) :: .int (iN u) :: st) V := by
  obtain ⟨p, e, s, m, args, below, meth, c, cells, slots, Q, A⟩ := x
  exact fun cx ls H locs hl hP hS => lv_imul cx.1 cx.2.1 d (by rw [iN_mul]; exact k cx ls H locs hl hP hS)
theorem g_idiv {u v : Int} (d : decode M.1 pc = .ok (.idiv, 1)) (hu : 0 ≤ u ∧ u ≤ 2147483647) (hv : 0 < v ∧ v ≤ 2147483647) (k : G l D tys L a M x (pc + 1) lv (.int (iN (u / v)) :: st) V) : G l D tys L a M x pc lv (.int (iN v) :: .int (iN u) :: st) V := by
  obtain ⟨p, e, s, m, args, below, meth, c, cells, slots, Q, A⟩ := x
  exact fun cx ls H locs hl hP hS => lv_idiv cx.1 cx.2.1 d (iN_ne0 hv) (by rw [iN_div hu hv]; exact k cx ls H locs hl hP hS)
theorem g_irem {u v : Int} (d : decode M.1 pc = .ok (.irem, 1)) (hu : 0 ≤ u ∧ u ≤ 2147483647) (hv : 0 < v ∧ v ≤ 2147483647) (k : G l D tys L a M x (pc + 1) lv (.int (iN (u % v)) :: st) V) : G l D tys L a M x pc lv (.int (iN v) :: .int (iN u) :: st) V := by
  obtain ⟨p, e, s, m, args, below, meth, c, cells, slots, Q, A⟩ := x
  exact fun cx ls H locs hl hP hS => lv_irem cx.1 cx.2.1 d (iN_ne0 hv) (by rw [iN_rem hu hv]; exact k cx ls H locs hl hP hS)
theorem g_ladd {u v : Int} (d : decode M.1 pc = .ok (.ladd, 1)) (k : G l D tys L a M x (pc + 1) lv (.long (jN (u + v)) :: st) V) : G l D tys L a M x pc lv (.long (jN v) :: .long (jN u) :: st) V := by
  obtain ⟨p, e, s, m, args, below, meth, c, cells, slots, Q, A⟩ := x
  exact fun cx ls H locs hl hP hS => lv_ladd cx.1 cx.2.1 d (by rw [jN_add]; exact k cx ls H locs hl hP hS)
theorem g_lsub {u v : Int} (d : decode M.1 pc = .ok (.lsub, 1)) (k : G l D tys L a M x (pc + 1) lv (.long (jN (u - v)) :: st) V) : G l D tys L a M x pc lv (.long (jN v) :: .long (jN u) :: st) V := by
  obtain ⟨p, e, s, m, args, below, meth, c, cells, slots, Q, A⟩ := x
  exact fun cx ls H locs hl hP hS => lv_lsub cx.1 cx.2.1 d (by rw [jN_sub]; exact k cx ls H locs hl hP hS)
theorem g_lmul {u v : Int} (d : decode M.1 pc = .ok (.lmul, 1)) (k : G l D tys L a M x (pc + 1) lv (.long (jN (u * v)) :: st) V) : G l D tys L a M x pc lv (.long (jN v) :: .long (jN u) :: st) V := by
  obtain ⟨p, e, s, m, args, below, meth, c, cells, slots, Q, A⟩ := x
  exact fun cx ls H locs hl hP hS => lv_lmul cx.1 cx.2.1 d (by rw [jN_mul]; exact k cx ls H locs hl hP hS)
theorem g_i2l {u : Int} (d : decode M.1 pc = .ok (.i2l, 1)) (hu : -2147483648 ≤ u ∧ u ≤ 2147483647) (k : G l D tys L a M x (pc + 1) lv (.long (jN u) :: st) V) : G l D tys L a M x pc lv (.int (iN u) :: st) V := by
  obtain ⟨p, e, s, m, args, below, meth, c, cells, slots, Q, A⟩ := x
  exact fun cx ls H locs hl hP hS => lv_i2l cx.1 cx.2.1 d (iN_j hu) (k cx ls H locs hl hP hS)
theorem g_l2i {u : Int} (d : decode M.1 pc = .ok (.l2i, 1)) (k : G l D tys L a M x (pc + 1) lv (.int (iN u) :: st) V) : G l D tys L a M x pc lv (.long (jN u) :: st) V := by
  obtain ⟨p, e, s, m, args, below, meth, c, cells, slots, Q, A⟩ := x
  exact fun cx ls H locs hl hP hS => lv_l2i cx.1 cx.2.1 d (jN_i u) (k cx ls H locs hl hP hS)
theorem g_dup {va : Value} (d : decode M.1 pc = .ok (.dup, 1)) (hva : va.category = 1) (k : G l D tys L a M x (pc + 1) lv (va :: va :: st) V) : G l D tys L a M x pc lv (va :: st) V := by
  obtain ⟨p, e, s, m, args, below, meth, c, cells, slots, Q, A⟩ := x
  exact fun cx ls H locs hl hP hS => lv_dup cx.1 cx.2.1 d hva (k cx ls H locs hl hP hS)
theorem g_dup_x1 {va vb : Value} (d : decode M.1 pc = .ok (.dup_x1, 1)) (hva : va.category = 1) (hvb : vb.category = 1) (k : G l D tys L a M x (pc + 1) lv (va :: vb :: va :: st) V) : G l D tys L a M x pc lv (va :: vb :: st) V := by
  obtain ⟨p, e, s, m, args, below, meth, c, cells, slots, Q, A⟩ := x
  exact fun cx ls H locs hl hP hS => lv_dup_x1 cx.1 cx.2.1 d hva hvb (k cx ls H locs hl hP hS)
theorem g_dup2 {va vb : Value} (d : decode M.1 pc = .ok (.dup2, 1)) (hva : va.category = 1) (hvb : vb.category = 1) (k : G l D tys L a M x (pc + 1) lv (va :: vb :: va :: vb :: st) V) : G l D tys L a M x pc lv (va :: vb :: st) V := by
  obtain ⟨p, e, s, m, args, below, meth, c, cells, slots, Q, A⟩ := x
  exact fun cx ls H locs hl hP hS => lv_dup2_11 cx.1 cx.2.1 d hva hvb (k cx ls H locs hl hP hS)
theorem g_pop {va : Value} (d : decode M.1 pc = .ok (.pop, 1)) (hva : va.category = 1) (k : G l D tys L a M x (pc + 1) lv st V) : G l D tys L a M x pc lv (va :: st) V := by
  obtain ⟨p, e, s, m, args, below, meth, c, cells, slots, Q, A⟩ := x
  exact fun cx ls H locs hl hP hS => lv_pop cx.1 cx.2.1 d hva (k cx ls H locs hl hP hS)
theorem g_goto {off : Int} (tgt : Nat) (d : decode M.1 pc = .ok (.goto off, 3)) (ht : (pc : Int) + off = (tgt : Int)) (k : G l D tys L a M x tgt lv st V) : G l D tys L a M x pc lv st V := by
  obtain ⟨p, e, s, m, args, below, meth, c, cells, slots, Q, A⟩ := x
  exact fun cx ls H locs hl hP hS => lv_goto cx.1 cx.2.1 d ht (k cx ls H locs hl hP hS)
theorem g_icmp_eq {off u v : Int} (tgt : Nat) (d : decode M.1 pc = .ok (.if_icmp .eq off, 3)) (ht : (pc : Int) + off = (tgt : Int)) (kt : u = v → G l D tys L a M x tgt lv st V) (kf : ¬ u = v → G l D tys L a M x (pc + 3) lv st V) (hu : -2147483648 ≤ u ∧ u ≤ 2147483647 := by omega) (hv : -2147483648 ≤ v ∧ v ≤ 2147483647 := by omega) : G l D tys L a M x pc lv (.int (iN v) :: .int (iN u) :: st) V := by
  obtain ⟨p, e, s, m, args, below, meth, c, cells, slots, Q, A⟩ := x
  exact fun cx ls H locs hl hP hS => lv_icmp_eq cx.1 cx.2.1 d ht (fun h => kt ((iN_eq hu hv).mp h) cx ls H locs hl hP hS) (fun h => kf (fun q => h ((iN_eq hu hv).mpr q)) cx ls H locs hl hP hS)
theorem g_if_eq {off u : Int} (tgt : Nat) (d : decode M.1 pc = .ok (.ifCond .eq off, 3)) (ht : (pc : Int) + off = (tgt : Int)) (kt : u = 0 → G l D tys L a M x tgt lv st V) (kf : ¬ u = 0 → G l D tys L a M x (pc + 3) lv st V) (hu : -2147483648 ≤ u ∧ u ≤ 2147483647 := by omega) : G l D tys L a M x pc lv (.int (iN u) :: st) V := by
  obtain ⟨p, e, s, m, args, below, meth, c, cells, slots, Q, A⟩ := x
  have h0 : -2147483648 ≤ (0 : Int) ∧ (0 : Int) ≤ 2147483647 := by omega
  exact fun cx ls H locs hl hP hS => lv_if_eq cx.1 cx.2.1 d ht (fun h => kt ((iN_eq hu h0).mp h) cx ls H locs hl hP hS) (fun h => kf (fun q => h ((iN_eq hu h0).mpr q)) cx ls H locs hl hP hS)
theorem g_icmp_ne {off u v : Int} (tgt : Nat) (d : decode M.1 pc = .ok (.if_icmp .ne off, 3)) (ht : (pc : Int) + off = (tgt : Int)) (kt : ¬ u = v → G l D tys L a M x tgt lv st V) (kf : u = v → G l D tys L a M x (pc + 3) lv st V) (hu : -2147483648 ≤ u ∧ u ≤ 2147483647 := by omega) (hv : -2147483648 ≤ v ∧ v ≤ 2147483647 := by omega) : G l D tys L a M x pc lv (.int (iN v) :: .int (iN u) :: st) V := by
  obtain ⟨p, e, s, m, args, below, meth, c, cells, slots, Q, A⟩ := x
  exact fun cx ls H locs hl hP hS => lv_icmp_ne cx.1 cx.2.1 d ht (fun h => kt (fun q => h ((iN_eq hu hv).mpr q)) cx ls H locs hl hP hS) (fun h => kf ((iN_eq hu hv).mp h) cx ls H locs hl hP hS)
theorem g_if_ne {off u : Int} (tgt : Nat) (d : decode M.1 pc = .ok (.ifCond .ne off, 3)) (ht : (pc : Int) + off = (tgt : Int)) (kt : ¬ u = 0 → G l D tys L a M x tgt lv st V) (kf : u = 0 → G l D tys L a M x (pc + 3) lv st V) (hu : -2147483648 ≤ u ∧ u ≤ 2147483647 := by omega) : G l D tys L a M x pc lv (.int (iN u) :: st) V := by
  obtain ⟨p, e, s, m, args, below, meth, c, cells, slots, Q, A⟩ := x
  have h0 : -2147483648 ≤ (0 : Int) ∧ (0 : Int) ≤ 2147483647 := by omega
  exact fun cx ls H locs hl hP hS => lv_if_ne cx.1 cx.2.1 d ht (fun h => kt (fun q => h ((iN_eq hu h0).mpr q)) cx ls H locs hl hP hS) (fun h => kf ((iN_eq hu h0).mp h) cx ls H locs hl hP hS)
theorem g_icmp_lt {off u v : Int} (tgt : Nat) (d : decode M.1 pc = .ok (.if_icmp .lt off, 3)) (ht : (pc : Int) + off = (tgt : Int)) (kt : u < v → G l D tys L a M x tgt lv st V) (kf : ¬ u < v → G l D tys L a M x (pc + 3) lv st V) (hu : -2147483648 ≤ u ∧ u ≤ 2147483647 := by omega) (hv : -2147483648 ≤ v ∧ v ≤ 2147483647 := by omega) : G l D tys L a M x pc lv (.int (iN v) :: .int (iN u) :: st) V := by
  obtain ⟨p, e, s, m, args, below, meth, c, cells, slots, Q, A⟩ := x
  exact fun cx ls H locs hl hP hS => lv_icmp_lt cx.1 cx.2.1 d ht (fun h => kt ((iN_lt hu hv).mp h) cx ls H locs hl hP hS) (fun h => kf (fun q => h ((iN_lt hu hv).mpr q)) cx ls H locs hl hP hS)
theorem g_if_lt {off u : Int} (tgt : Nat) (d : decode M.1 pc = .ok (.ifCond .lt off, 3)) (ht : (pc : Int) + off = (tgt : Int)) (kt : u < 0 → G l D tys L a M x tgt lv st V) (kf : ¬ u < 0 → G l D tys L a M x (pc + 3) lv st V) (hu : -2147483648 ≤ u ∧ u ≤ 2147483647 := by omega) : G l D tys L a M x pc lv (.int (iN u) :: st) V := by
  obtain ⟨p, e, s, m, args, below, meth, c, cells, slots, Q, A⟩ := x
  have h0 : -2147483648 ≤ (0 : Int) ∧ (0 : Int) ≤ 2147483647 := by omega
  exact fun cx ls H locs hl hP hS => lv_if_lt cx.1 cx.2.1 d ht (fun h => kt ((iN_lt hu h0).mp h) cx ls H locs hl hP hS) (fun h => kf (fun q => h ((iN_lt hu h0).mpr q)) cx ls H locs hl hP hS)
theorem g_icmp_ge {off u v : Int} (tgt : Nat) (d : decode M.1 pc = .ok (.if_icmp .ge off, 3)) (ht : (pc : Int) + off = (tgt : Int)) (kt : v ≤ u → G l D tys L a M x tgt lv st V) (kf : ¬ v ≤ u → G l D tys L a M x (pc + 3) lv st V) (hu : -2147483648 ≤ u ∧ u ≤ 2147483647 := by omega) (hv : -2147483648 ≤ v ∧ v ≤ 2147483647 := by omega) : G l D tys L a M x pc lv (.int (iN v) :: .int (iN u) :: st) V := by
  obtain ⟨p, e, s, m, args, below, meth, c, cells, slots, Q, A⟩ := x
  exact fun cx ls H locs hl hP hS => lv_icmp_ge cx.1 cx.2.1 d ht (fun h => kt ((iN_le hv hu).mp h) cx ls H locs hl hP hS) (fun h => kf (fun q => h ((iN_le hv hu).mpr q)) cx ls H locs hl hP hS)
theorem g_if_ge {off u : Int} (tgt : Nat) (d : decode M.1 pc = .ok (.ifCond .ge off, 3)) (ht : (pc : Int) + off = (tgt : Int)) (kt : 0 ≤ u → G l D tys L a M x tgt lv st V) (kf : ¬ 0 ≤ u → G l D tys L a M x (pc + 3) lv st V) (hu : -2147483648 ≤ u ∧ u ≤ 2147483647 := by omega) : G l D tys L a M x pc lv (.int (iN u) :: st) V := by
  obtain ⟨p, e, s, m, args, below, meth, c, cells, slots, Q, A⟩ := x
  have h0 : -2147483648 ≤ (0 : Int) ∧ (0 : Int) ≤ 2147483647 := by omega
  exact fun cx ls H locs hl hP hS => lv_if_ge cx.1 cx.2.1 d ht (fun h => kt ((iN_le h0 hu).mp h) cx ls H locs hl hP hS) (fun h => kf (fun q => h ((iN_le h0 hu).mpr q)) cx ls H locs hl hP hS)
theorem g_icmp_gt {off u v : Int} (tgt : Nat) (d : decode M.1 pc = .ok (.if_icmp .gt off, 3)) (ht : (pc : Int) + off = (tgt : Int)) (kt : v < u → G l D tys L a M x tgt lv st V) (kf : ¬ v < u → G l D tys L a M x (pc + 3) lv st V) (hu : -2147483648 ≤ u ∧ u ≤ 2147483647 := by omega) (hv : -2147483648 ≤ v ∧ v ≤ 2147483647 := by omega) : G l D tys L a M x pc lv (.int (iN v) :: .int (iN u) :: st) V := by
  obtain ⟨p, e, s, m, args, below, meth, c, cells, slots, Q, A⟩ := x
  exact fun cx ls H locs hl hP hS => lv_icmp_gt cx.1 cx.2.1 d ht (fun h => kt ((iN_lt hv hu).mp h) cx ls H locs hl hP hS) (fun h => kf (fun q => h ((iN_lt hv hu).mpr q)) cx ls H locs hl hP hS)
theorem g_if_gt {off u : Int} (tgt : Nat) (d : decode M.1 pc = .ok (.ifCond .gt off, 3)) (ht : (pc : Int) + off = (tgt : Int)) (kt : 0 < u → G l D tys L a M x tgt lv st V) (kf : ¬ 0 < u → G l D tys L a M x (pc + 3) lv st V) (hu : -2147483648 ≤ u ∧ u ≤ 2147483647 := by omega) : G l D tys L a M x pc lv (.int (iN u) :: st) V := by
  obtain ⟨p, e, s, m, args, below, meth, c, cells, slots, Q, A⟩ := x
  have h0 : -2147483648 ≤ (0 : Int) ∧ (0 : Int) ≤ 2147483647 := by omega
  exact fun cx ls H locs hl hP hS => lv_if_gt cx.1 cx.2.1 d ht (fun h => kt ((iN_lt h0 hu).mp h) cx ls H locs hl hP hS) (fun h => kf (fun q => h ((iN_lt h0 hu).mpr q)) cx ls H locs hl hP hS)
theorem g_icmp_le {off u v : Int} (tgt : Nat) (d : decode M.1 pc = .ok (.if_icmp .le off, 3)) (ht : (pc : Int) + off = (tgt : Int)) (kt : u ≤ v → G l D tys L a M x tgt lv st V) (kf : ¬ u ≤ v → G l D tys L a M x (pc + 3) lv st V) (hu : -2147483648 ≤ u ∧ u ≤ 2147483647 := by omega) (hv : -2147483648 ≤ v ∧ v ≤ 2147483647 := by omega) : G l D tys L a M x pc lv (.int (iN v) :: .int (iN u) :: st) V := by
  obtain ⟨p, e, s, m, args, below, meth, c, cells, slots, Q, A⟩ := x
  exact fun cx ls H locs hl hP hS => lv_icmp_le cx.1 cx.2.1 d ht (fun h => kt ((iN_le hu hv).mp h) cx ls H locs hl hP hS) (fun h => kf (fun q => h ((iN_le hu hv).mpr q)) cx ls H locs hl hP hS)
theorem g_if_le {off u : Int} (tgt : Nat) (d : decode M.1 pc = .ok (.ifCond .le off, 3)) (ht : (pc : Int) + off = (tgt : Int)) (kt : u ≤ 0 → G l D tys L a M x tgt lv st V) (kf : ¬ u ≤ 0 → G l D tys L a M x (pc + 3) lv st V) (hu : -2147483648 ≤ u ∧ u ≤ 2147483647 := by omega) : G l D tys L a M x pc lv (.int (iN u) :: st) V := by
  obtain ⟨p, e, s, m, args, below, meth, c, cells, slots, Q, A⟩ := x
  have h0 : -2147483648 ≤ (0 : Int) ∧ (0 : Int) ≤ 2147483647 := by omega
  exact fun cx ls H locs hl hP hS => lv_if_le cx.1 cx.2.1 d ht (fun h => kt ((iN_le hu h0).mp h) cx ls H locs hl hP hS) (fun h => kf (fun q => h ((iN_le hu h0).mpr q)) cx ls H locs hl hP hS)
/-! fields and arrays -/
def up1 (r : Nat → Int) (j : Nat) (v : Int) : Nat → Int := fun i => if i = j then v else r i
theorem up_self {V : Mem} {k j : Nat} {v : Int} : up V k j v k = up1 (V k) j v := funext fun i => by simp [up, up1]
theorem upd_i {r : Nat → Int} {i : Nat} {v : Int} : upd (fun j => iN (r j)) i (iN v) = fun j => iN (up1 r i v j) := funext fun j => by
  by_cases h : j = i
  · simp [upd, up1, h]
  · simp [upd, up1, h]
theorem upd_l {r : Nat → Int} {i : Nat} {v : Int} : vp_updL (fun j => jN (r j)) i (jN v) = fun j => jN (up1 r i v j) := funext fun j => by
  by_cases h : j = i
  · simp [vp_updL, up1, h]
  · simp [vp_updL, up1, h]
/-- a field as an instruction of the class own names it: pool index, class by its number, slot -/
def FLg (own : String) (idx ci j : Nat) : Prop := ∃ (C : String) (T : u_T) (N : Nat), vwCl[ci]? = some (C, T, N) ∧ j < N ∧ Cond.fieldLink own idx (T j).1 (T j).2.1 (T j).2.2.1 ∈ gw ∧ ∀ w ∈ u_ws C T N, w ∈ gw
def FLp (own : String) (idx ci j : Nat) (ty : FieldType) : Prop := ∃ (C : String) (T : u_T) (N : Nat) (ty0 : Nat → FieldType), vwCl[ci]? = some (C, T, N) ∧ j < N ∧ Cond.fieldLink own idx (T j).1 (T j).2.1 (T j).2.2.1 ∈ gw ∧ (∀ w ∈ u_ws C T N, w ∈ gw) ∧ (∀ k, k < N → parseFieldDescriptor (T k).2.2.1 = some (ty0 k)) ∧ (∀ a, a < N → ∀ b, b < N → a ≠ b → (T a).2.1 ≠ (T b).2.1) ∧ (T j).2.2.2 = false ∧ parseFieldDescriptor (T j).2.2.1 = some ty
/-- cell k is an object of class ci with these fields -/
def ObC (L : Lay) (a : Nat → Nat) (k ci : Nat) (fs : (Nat → Int) → List Value) : Prop := k < L.1 ∧ ∀ r, L.2 a k r = .inr (ci, fs r)
/-- cell k is an array of n ints; of longs; of booleans; of references to the cells g -/
def ArI (L : Lay) (a : Nat → Nat) (tys : List (ClassId × FieldType)) (k n : Nat) : Prop := k < L.1 ∧ n ≤ 2147483647 ∧ ∃ (cA : ClassId) (t0 : Nat), tys[t0]? = some (cA, .int) ∧ ∀ r, L.2 a k r = .inl (cA, n, .inl (fun j => iN (r j)))
def ArL (L : Lay) (a : Nat → Nat) (tys : List (ClassId × FieldType)) (k n : Nat) : Prop := k < L.1 ∧ n ≤ 2147483647 ∧ ∃ (cA : ClassId) (t0 : Nat), tys[t0]? = some (cA, .long) ∧ ∀ r, L.2 a k r = .inl (cA, n, .inr (.inl (fun j => jN (r j))))
def ArZ (L : Lay) (a : Nat → Nat) (tys : List (ClassId × FieldType)) (k n : Nat) : Prop := k < L.1 ∧ n ≤ 2147483647 ∧ ∃ (cA : ClassId) (t0 : Nat), tys[t0]? = some (cA, .boolean) ∧ ∀ r, L.2 a k r = .inl (cA, n, .inl (fun j => iN (r j)))
def ArQ (L : Lay) (a : Nat → Nat) (tys : List (ClassId × FieldType)) (k n : Nat) (g : Nat → Nat) : Prop := k < L.1 ∧ n ≤ 2147483647 ∧ ∃ (cA : ClassId) (t0 : Nat) (ty : FieldType), tys[t0]? = some (cA, ty) ∧ refKind ty = true ∧ ∀ r, L.2 a k r = .inl (cA, n, .inr (.inr (.inr (.inr (fun j => some (a (g j)))))))
theorem g_getf {idx ci j : Nat} {fs : (Nat → Int) → List Value} (k : Nat) (v : Value) (f : FLg M.2.2.1 idx ci j) (ho : ObC L a k ci fs) (d : decode M.1 pc = .ok (.getfield idx, 3)) (hv : (fs (V k))[j]? = some v) (kk : G l D tys L a M x (pc + 3) lv (v :: st) V) : G l D tys L a M x pc lv (.ref (a k) :: st) V := by
  obtain ⟨p, e, s, m, args, below, meth, c, cells, slots, Q, A⟩ := x
  obtain ⟨C, T, N, hc, hj, hl0, hin⟩ := f
  exact fun cx ls H locs hl hP hS => va_get (D := D) (C := C) (T := T) (N := N) cx.1 cx.2.1 cx.2.2.2.2.1 hin cx.2.2.2.1 cx.2.2.2.2.2.1 hP k (by rw [wsOf_at ho.1, ho.2]) hc j hj (cx.2.2.2.2.1 _ hl0) (fun _ h9 => h9) hv d (kk cx ls H locs hl hP hS)
theorem g_putf {idx ci j : Nat} {ty : FieldType} {fs : (Nat → Int) → List Value} (k : Nat) {v : Int} (w : Value) (f : FLp M.2.2.1 idx ci j ty) (ho : ObC L a k ci fs) (d : decode M.1 pc = .ok (.putfield idx, 3)) (hn : narrow ty w = w) (hfit : fits ty w = true) (hl9 : j < (fs (V k)).length) (hset : (fs (V k)).set j w = fs (up1 (V k) j v)) (kk : G l D tys L a M x (pc + 3) lv st (up V k j v)) : G l D tys L a M x pc lv (w :: .ref (a k) :: st) V := by
  obtain ⟨p, e, s, m, args, below, meth, c, cells, slots, Q, A⟩ := x
  obtain ⟨C, T, N, ty0, hc, hj, hl0, hin, hty, hnm, hfin, hd⟩ := f
  refine fun cx ls H locs hl hP hS => va_put (D := D) (C := C) (T := T) (N := N) cx.1 cx.2.1 cx.2.2.2.2.1 hin ty0 hty hnm cx.2.2.2.1 cx.2.2.2.2.2.1 hP (wsOf_D cx.2.2.2.2.2.2.1 cx.2.2.2.2.2.2.2.1) hS k (by rw [wsOf_at ho.1, ho.2]) hc j hj (cx.2.2.2.2.1 _ hl0) (fun _ h9 => h9) hfin hd hn hfit hl9 d (fun H1 locs1 hP1 hD1 hS1 => ?_)
  rw [wsOf_set (V' := up V k j v) (by rw [up_self, ho.2, hset]) (fun c9 h => up_ne1 h)] at hP1
  exact kk cx ls H1 locs1 hl hP1 hS1
theorem g_iald (k i : Nat) {n : Nat} {ix : Int} (h : ArI L a tys k n) (d : decode M.1 pc = .ok (.iaload, 1)) (he : ix = (i : Int)) (hi : i < n) (kk : G l D tys L a M x (pc + 1) lv (.int (iN (V k i)) :: st) V) : G l D tys L a M x pc lv (.int (iN ix) :: .ref (a k) :: st) V := by
  obtain ⟨p, e, s, m, args, below, meth, c, cells, slots, Q, A⟩ := x
  obtain ⟨hk, hn, cA, t0, ht, hs⟩ := h
  subst he
  exact fun cx ls H locs hl hP hS => va_iald cx.1 cx.2.1 cx.2.2.2.2.2.1 hP k t0 (f := fun j => iN (V k j)) (by rw [wsOf_at hk, hs]) ht (iN_in hi hn) d (by rw [iN_clamp (by omega)]; exact kk cx ls H locs hl hP hS)
theorem g_zald (k i : Nat) {n : Nat} {ix : Int} (h : ArZ L a tys k n) (d : decode M.1 pc = .ok (.baload, 1)) (he : ix = (i : Int)) (hi : i < n) (kk : G l D tys L a M x (pc + 1) lv (.int (iN (V k i)) :: st) V) : G l D tys L a M x pc lv (.int (iN ix) :: .ref (a k) :: st) V := by
  obtain ⟨p, e, s, m, args, below, meth, c, cells, slots, Q, A⟩ := x
  obtain ⟨hk, hn, cA, t0, ht, hs⟩ := h
  subst he
  exact fun cx ls H locs hl hP hS => va_zald cx.1 cx.2.1 cx.2.2.2.2.2.1 hP k t0 (f := fun j => iN (V k j)) (by rw [wsOf_at hk, hs]) ht (iN_in hi hn) d (by rw [iN_clamp (by omega)]; exact kk cx ls H locs hl hP hS)
theorem g_lald (k i : Nat) {n : Nat} {ix : Int} (h : ArL L a tys k n) (d : decode M.1 pc = .ok (.laload, 1)) (he : ix = (i : Int)) (hi : i < n) (kk : G l D tys L a M x (pc + 1) lv (.long (jN (V k i)) :: st) V) : G l D tys L a M x pc lv (.int (iN ix) :: .ref (a k) :: st) V := by
  obtain ⟨p, e, s, m, args, below, meth, c, cells, slots, Q, A⟩ := x
  obtain ⟨hk, hn, cA, t0, ht, hs⟩ := h
  subst he
  exact fun cx ls H locs hl hP hS => va_lald cx.1 cx.2.1 cx.2.2.2.2.2.1 hP k t0 (f := fun j => jN (V k j)) (by rw [wsOf_at hk, hs]) ht (iN_in hi hn) d (by rw [iN_clamp (by omega)]; exact kk cx ls H locs hl hP hS)
theorem g_aald (k i : Nat) {n : Nat} {g : Nat → Nat} {ix : Int} (h : ArQ L a tys k n g) (d : decode M.1 pc = .ok (.aaload, 1)) (he : ix = (i : Int)) (hi : i < n) (kk : G l D tys L a M x (pc + 1) lv (.ref (a (g i)) :: st) V) : G l D tys L a M x pc lv (.int (iN ix) :: .ref (a k) :: st) V := by
  obtain ⟨p, e, s, m, args, below, meth, c, cells, slots, Q, A⟩ := x
  obtain ⟨hk, hn, cA, t0, ty, ht, hty, hs⟩ := h
  subst he
  intro cx ls H locs hl hP hS
  have hcell : H[a k]? = some (vp_cell cA (n, .inr (.inr (.inr (.inr (fun j => some (a (g j)))))))) := by
    have h9 := hP k _ (wsOf_at hk)
    rw [hs] at h9
    exact h9
  exact W.aald (v := .ref (a (g i))) (ty := ty) cx.1 cx.2.1 hcell ((cx.2.2.2.2.2.1.2 t0 _ ht).1 n (fun j => va_rf (some (a (g j))))) hty (fun q => by cases q) (by show ¬ (_ ∨ (arrV _ _ _).slots.size ≤ _); rw [arrV_size]; exact iN_in hi hn) (by show (arrV _ _ _).slots[_]? = _; rw [iN_clamp (by omega), arrV_read _ _ hi]; rfl) rfl rfl d (kk cx ls H locs hl hP hS)
theorem g_iast (k i : Nat) {n : Nat} {ix v : Int} (h : ArI L a tys k n) (d : decode M.1 pc = .ok (.iastore, 1)) (he : ix = (i : Int)) (hi : i < n) (kk : G l D tys L a M x (pc + 1) lv st (up V k i v)) : G l D tys L a M x pc lv (.int (iN v) :: .int (iN ix) :: .ref (a k) :: st) V := by
  obtain ⟨p, e, s, m, args, below, meth, c, cells, slots, Q, A⟩ := x
  obtain ⟨hk, hn, cA, t0, ht, hs⟩ := h
  subst he
  refine fun cx ls H locs hl hP hS => va_iast cx.1 cx.2.1 cx.2.2.2.2.2.1 hP (wsOf_D cx.2.2.2.2.2.2.1 cx.2.2.2.2.2.2.2.1) hS k t0 (f := fun j => iN (V k j)) (by rw [wsOf_at hk, hs]) ht (iN_in hi hn) d (fun H1 locs1 hP1 hD1 hS1 => ?_)
  rw [iN_clamp (by omega), upd_i, wsOf_set (V' := up V k i v) (by rw [up_self, hs]) (fun c9 h => up_ne1 h)] at hP1
  exact kk cx ls H1 locs1 hl hP1 hS1
theorem g_last (k i : Nat) {n : Nat} {ix v : Int} (h : ArL L a tys k n) (d : decode M.1 pc = .ok (.lastore, 1)) (he : ix = (i : Int)) (hi : i < n) (kk : G l D tys L a M x (pc + 1) lv st (up V k i v)) : G l D tys L a M x pc lv (.long (jN v) :: .int (iN ix) :: .ref (a k) :: st) V := by
  obtain ⟨p, e, s, m, args, below, meth, c, cells, slots, Q, A⟩ := x
  obtain ⟨hk, hn, cA, t0, ht, hs⟩ := h
  subst he
  refine fun cx ls H locs hl hP hS => va_last cx.1 cx.2.1 cx.2.2.2.2.2.1 hP (wsOf_D cx.2.2.2.2.2.2.1 cx.2.2.2.2.2.2.2.1) hS k t0 (f := fun j => jN (V k j)) (by rw [wsOf_at hk, hs]) ht (iN_in hi hn) d (fun H1 locs1 hP1 hD1 hS1 => ?_)
  rw [iN_clamp (by omega), upd_l, wsOf_set (V' := up V k i v) (by rw [up_self, hs]) (fun c9 h => up_ne1 h)] at hP1
  exact kk cx ls H1 locs1 hl hP1 hS1
theorem g_zast (k i : Nat) {n : Nat} {ix v : Int} (h : ArZ L a tys k n) (d : decode M.1 pc = .ok (.bastore, 1)) (he : ix = (i : Int)) (hi : i < n) (hv : vp_nar .boolean (iN v) = iN v) (kk : G l D tys L a M x (pc + 1) lv st (up V k i v)) : G l D tys L a M x pc lv (.int (iN v) :: .int (iN ix) :: .ref (a k) :: st) V := by
  obtain ⟨p, e, s, m, args, below, meth, c, cells, slots, Q, A⟩ := x
  obtain ⟨hk, hn, cA, t0, ht, hs⟩ := h
  subst he
  refine fun cx ls H locs hl hP hS => va_zast cx.1 cx.2.1 cx.2.2.2.2.2.1 hP (wsOf_D cx.2.2.2.2.2.2.1 cx.2.2.2.2.2.2.2.1) hS k t0 (f := fun j => iN (V k j)) (by rw [wsOf_at hk, hs]) ht (iN_in hi hn) d (fun H1 locs1 hP1 hD1 hS1 => ?_)
  rw [iN_clamp (by omega), hv, upd_i, wsOf_set (V' := up V k i v) (by rw [up_self, hs]) (fun c9 h => up_ne1 h)] at hP1
  exact kk cx ls H1 locs1 hl hP1 hS1
/-! longs compared -/
theorem g_lcmp {u v : Int} (z : Int) (d : decode M.1 pc = .ok (.lcmp, 1)) (hz : lg_cmp (jN u) (jN v) = iN z) (k : G l D tys L a M x (pc + 1) lv (.int (iN z) :: st) V) : G l D tys L a M x pc lv (.long (jN v) :: .long (jN u) :: st) V := by
  obtain ⟨p, e, s, m, args, below, meth, c, cells, slots, Q, A⟩ := x
  exact fun cx ls H locs hl hP hS => W.lcmp cx.1 cx.2.1 d (by rw [hz]; exact k cx ls H locs hl hP hS)
/-! ends -/
def QI (l : Launch) (D : va_G) (L : Lay) (a : Nat → Nat) (post : Int → Mem → Prop) (x : Ctx) : Prop :=
  match x with
  | (_, _, s, _, args, below, _, _, cells, slots, Q, A) => cells = 0 ∧ slots = 0 ∧ Q = MQ below (va_Qi (fun r V' => ∃ z, r = iN z ∧ post z V') (fun V' t => va_P D vwCl (wsOf L a V') t.heap) A) args s 0 0 A
def QL (l : Launch) (D : va_G) (L : Lay) (a : Nat → Nat) (post : Int → Mem → Prop) (x : Ctx) : Prop :=
  match x with
  | (_, _, s, _, args, below, _, _, cells, slots, Q, A) => cells = 0 ∧ slots = 0 ∧ Q = MQ below (va_Ql (fun r V' => ∃ z, r = jN z ∧ post z V') (fun V' t => va_P D vwCl (wsOf L a V') t.heap) A) args s 0 0 A
def QV (l : Launch) (D : va_G) (L : Lay) (a : Nat → Nat) (post : Mem → Prop) (x : Ctx) : Prop :=
  match x with
  | (_, _, s, _, args, below, _, _, cells, slots, Q, A) => cells = 0 ∧ slots = 0 ∧ Q = MQ below (va_Qv post (fun V' t => va_P D vwCl (wsOf L a V') t.heap) A) args s 0 0 A
theorem g_iret {post : Int → Mem → Prop} {v : Int} {ty : FieldType} (hq : QI l D L a post x) (hr : M.2.2.2.1 = some ty) (hn : narrow ty (.int (iN v)) = .int (iN v)) (d : decode M.1 pc = .ok (.ireturn, 1)) (hp : post v V) : G l D tys L a M x pc lv [.int (iN v)] V := by
  obtain ⟨p, e, s, m, args, below, meth, c, cells, slots, Q, A⟩ := x
  obtain ⟨rfl, rfl, rfl⟩ := hq
  exact fun cx ls H locs hl hP hS => W.zret cx.1 cx.2.1 (cx.2.2.2.2.2.2.2.2.2.1.trans hr) hn (fun t ht _ => ⟨⟨iN v, V, rfl, ⟨v, rfl, hp⟩, by show va_P D vwCl (wsOf L a V) t.heap; rw [ht]; exact hP⟩, hS.F ht⟩) hS.2.2 d cx.2.2.2.2.2.2.2.2.2.2.1
theorem g_lret {post : Int → Mem → Prop} {v : Int} (hq : QL l D L a post x) (hr : M.2.2.2.1 = some .long) (d : decode M.1 pc = .ok (.lreturn, 1)) (hp : post v V) : G l D tys L a M x pc lv [.long (jN v)] V := by
  obtain ⟨p, e, s, m, args, below, meth, c, cells, slots, Q, A⟩ := x
  obtain ⟨rfl, rfl, rfl⟩ := hq
  exact fun cx ls H locs hl hP hS => W.lret cx.1 cx.2.1 (cx.2.2.2.2.2.2.2.2.2.1.trans hr) (fun t ht _ => ⟨⟨jN v, V, rfl, ⟨v, rfl, hp⟩, by show va_P D vwCl (wsOf L a V) t.heap; rw [ht]; exact hP⟩, hS.F ht⟩) hS.2.2 d cx.2.2.2.2.2.2.2.2.2.2.1
theorem g_vret {post : Mem → Prop} (hq : QV l D L a post x) (hr : M.2.2.2.1 = none) (d : decode M.1 pc = .ok (.return_, 1)) (hp : post V) : G l D tys L a M x pc lv [] V := by
  obtain ⟨p, e, s, m, args, below, meth, c, cells, slots, Q, A⟩ := x
  obtain ⟨rfl, rfl, rfl⟩ := hq
  exact fun cx ls H locs hl hP hS => W.vret cx.1 cx.2.1 (cx.2.2.2.2.2.2.2.2.2.1.trans hr) (fun t ht _ => ⟨⟨V, rfl, hp, by show va_P D vwCl (wsOf L a V) t.heap; rw [ht]; exact hP⟩, hS.F ht⟩) hS.2.2 d cx.2.2.2.2.2.2.2.2.2.2.1
/-! contracts: a method over a layout's cells that makes no cell -/
def wsM (y : MethodName) (M : MInf) : List Cond := Cond.code y M.1 M.2.1 M.2.2.2.1 :: gw
def PcM (D : va_G) (tys : List (ClassId × FieldType)) (L : Lay) (a : Nat → Nat) (av : List Value) (V : Mem) (sz : Nat) : Array Value → State → Prop := va_Pc av (fun U => U.heap.size = sz ∧ va_P D vwCl (wsOf L a V) U.heap ∧ va_K D vwCl tys U)
def CI (l : Launch) (D : va_G) (tys : List (ClassId × FieldType)) (L : Lay) (a : Nat → Nat) (y : MethodName) (M : MInf) (av : List Value) (V : Mem) (post : Int → Mem → Prop) : Prop :=
  ∀ sz, Met l y (wsM y M) M.2.2.2.2 (PcM D tys L a av V sz) (va_Qi (fun r V' => ∃ z, r = iN z ∧ post z V') (fun V' t => va_P D vwCl (wsOf L a V') t.heap) (rgA L a sz)) 0 0 (rgA L a sz)
def CL (l : Launch) (D : va_G) (tys : List (ClassId × FieldType)) (L : Lay) (a : Nat → Nat) (y : MethodName) (M : MInf) (av : List Value) (V : Mem) (post : Int → Mem → Prop) : Prop :=
  ∀ sz, Met l y (wsM y M) M.2.2.2.2 (PcM D tys L a av V sz) (va_Ql (fun r V' => ∃ z, r = jN z ∧ post z V') (fun V' t => va_P D vwCl (wsOf L a V') t.heap) (rgA L a sz)) 0 0 (rgA L a sz)
def CV (l : Launch) (D : va_G) (tys : List (ClassId × FieldType)) (L : Lay) (a : Nat → Nat) (y : MethodName) (M : MInf) (av : List Value) (V : Mem) (post : Mem → Prop) : Prop :=
  ∀ sz, Met l y (wsM y M) M.2.2.2.2 (PcM D tys L a av V sz) (va_Qv post (fun V' t => va_P D vwCl (wsOf L a V') t.heap) (rgA L a sz)) 0 0 (rgA L a sz)
theorem CI.of {y : MethodName} {av : List Value} {post : Int → Mem → Prop} (hy : plainName y.cls = true) (hown : y.cls = M.2.2.1) (hlen : (lg_sl av).length ≤ M.2.1) (ha : Apart L a) (body : ∀ x, QI l D L a post x → G l D tys L a M x 0 (lv_args 0 av) [] V) : CI l D tys L a y M av V post := by
  intro sz
  refine Met.ofW (cc := M.1) (maxL := M.2.1) (ret := M.2.2.2.1) hy rfl ?_
  intro p e s m args below meth c s₁ B hml hv
  obtain ⟨rfl, hsz, hP, hK⟩ := hv
  subst hsz
  have hl := lv_entry av (n := M.2.1) hlen
  rw [lg_entry_eq]
  exact body (p, e, s, m, av.toArray, below, meth, c, 0, 0, _, rgA L a s.heap.size) ⟨rfl, rfl, rfl⟩ ⟨B.exec, B.bytes, hml, hown ▸ findClass_of_methodNamed B.named, fun w hw => atoms_spec (ws := wsM y M) B.pre w (List.mem_cons_of_mem _ hw), hK, ha, fun k hk => Or.inl ⟨k, hk, rfl⟩, fun q h => Or.inr h, B.returns, B.notSynchronized, Nat.zero_le _, Nat.zero_le _⟩ _ _ _ hl hP va_S.rf
theorem CL.of {y : MethodName} {av : List Value} {post : Int → Mem → Prop} (hy : plainName y.cls = true) (hown : y.cls = M.2.2.1) (hlen : (lg_sl av).length ≤ M.2.1) (ha : Apart L a) (body : ∀ x, QL l D L a post x → G l D tys L a M x 0 (lv_args 0 av) [] V) : CL l D tys L a y M av V post := by
  intro sz
  refine Met.ofW (cc := M.1) (maxL := M.2.1) (ret := M.2.2.2.1) hy rfl ?_
  intro p e s m args below meth c s₁ B hml hv
  obtain ⟨rfl, hsz, hP, hK⟩ := hv
  subst hsz
  have hl := lv_entry av (n := M.2.1) hlen
  rw [lg_entry_eq]
  exact body (p, e, s, m, av.toArray, below, meth, c, 0, 0, _, rgA L a s.heap.size) ⟨rfl, rfl, rfl⟩ ⟨B.exec, B.bytes, hml, hown ▸ findClass_of_methodNamed B.named, fun w hw => atoms_spec (ws := wsM y M) B.pre w (List.mem_cons_of_mem _ hw), hK, ha, fun k hk => Or.inl ⟨k, hk, rfl⟩, fun q h => Or.inr h, B.returns, B.notSynchronized, Nat.zero_le _, Nat.zero_le _⟩ _ _ _ hl hP va_S.rf
theorem CV.of {y : MethodName} {av : List Value} {post : Mem → Prop} (hy : plainName y.cls = true) (hown : y.cls = M.2.2.1) (hlen : (lg_sl av).length ≤ M.2.1) (ha : Apart L a) (body : ∀ x, QV l D L a post x → G l D tys L a M x 0 (lv_args 0 av) [] V) : CV l D tys L a y M av V post := by
  intro sz
  refine Met.ofW (cc := M.1) (maxL := M.2.1) (ret := M.2.2.2.1) hy rfl ?_
  intro p e s m args below meth c s₁ B hml hv
  obtain ⟨rfl, hsz, hP, hK⟩ := hv
  subst hsz
  have hl := lv_entry av (n := M.2.1) hlen
  rw [lg_entry_eq]
  exact body (p, e, s, m, av.toArray, below, meth, c, 0, 0, _, rgA L a s.heap.size) ⟨rfl, rfl, rfl⟩ ⟨B.exec, B.bytes, hml, hown ▸ findClass_of_methodNamed B.named, fun w hw => atoms_spec (ws := wsM y M) B.pre w (List.mem_cons_of_mem _ hw), hK, ha, fun k hk => Or.inl ⟨k, hk, rfl⟩, fun q h => Or.inr h, B.returns, B.notSynchronized, Nat.zero_le _, Nat.zero_le _⟩ _ _ _ hl hP va_S.rf
/-! calls -/
theorem tbl_good : GoodIn gw gw := fun w hw => ⟨hw, good_of_word (List.mem_filter.mp hw).2⟩
/-- the words of a call of y at the pool index idx of own, with n arguments behind the receiver -/
def LkV (own : String) (idx : Nat) (y : MethodName) (M2 : MInf) (n : Nat) : Prop := Cond.methodLink own idx y ∈ gw ∧ Cond.instanceMethod y ∈ gw ∧ Cond.selects y.cls y y ∈ gw ∧ Cond.initialized y.cls ∈ gw ∧ Cond.code y M2.1 M2.2.1 M2.2.2.2.1 ∈ gw ∧ y.cls ≠ "java/lang/invoke/MethodHandle" ∧ y.cls ≠ "java/lang/invoke/VarHandle" ∧ (parseMethodDescriptor y.desc).map (fun d => d.parameters.length) = some n
def LkS (own : String) (idx : Nat) (y : MethodName) (M2 : MInf) (n : Nat) : Prop := Cond.methodLink own idx y ∈ gw ∧ Cond.static y ∈ gw ∧ Cond.initialized y.cls ∈ gw ∧ Cond.code y M2.1 M2.2.1 M2.2.2.2.1 ∈ gw ∧ y.cls ≠ "java/lang/invoke/MethodHandle" ∧ y.cls ≠ "java/lang/invoke/VarHandle" ∧ (parseMethodDescriptor y.desc).map (fun d => d.parameters.length) = some n ∧ y.cls = own
def rmOk (M M2 : MInf) : Prop := M2.2.2.2.2.cells = 0 ∧ M2.2.2.2.2.slots = 0 ∧ M2.2.2.2.2.frames + 1 ≤ M.2.2.2.2.frames ∧ 8 + (M2.2.1 + 11) + M2.2.2.2.2.locals ≤ M.2.2.2.2.locals
theorem good_sub {ws : List Cond} (h : ∀ w ∈ ws, w ∈ gw) : GoodIn gw ws := fun w hw => ⟨h w hw, (tbl_good w (h w hw)).2⟩
theorem good_V {own : String} {idx n : Nat} {y : MethodName} {M2 : MInf} (h : LkV own idx y M2 n) : GoodIn gw (wsV own idx y.cls y (wsM y M2)) := by
  obtain ⟨h1, h2, h3, h4, h5, -⟩ := h
  refine good_sub fun w hw => ?_
  simp only [wsV, wsM, List.cons_append, List.nil_append, List.mem_cons] at hw
  rcases hw with rfl | rfl | rfl | rfl | rfl | hw
  · exact h1
  · exact h2
  · exact h3
  · exact h4
  · exact h5
  · exact hw
theorem good_S {own : String} {idx n : Nat} {y : MethodName} {M2 : MInf} (h : LkS own idx y M2 n) : GoodIn gw (wsS own idx y (wsM y M2)) := by
  obtain ⟨h1, h2, h4, h5, -, -, -, h8⟩ := h
  refine good_sub fun w hw => ?_
  simp only [wsS, wsM, List.cons_append, List.nil_append, List.mem_cons] at hw
  rcases hw with rfl | rfl | rfl | rfl | hw
  · exact h1
  · exact h2
  · exact h8 ▸ h4
  · exact h5
  · exact hw
theorem rg_sub {s : State} {H : Heap} {A : Nat → Prop} {locs : List Loc} (hA : ∀ k, k < L.1 → A (a k)) (hz : ∀ q, s.heap.size ≤ q → A q) (hS : va_S A s.heap H locs) : ∀ q, rgA L a H.size q → A q := by
  rintro q (⟨k, hk, rfl⟩ | h)
  · exact hA k hk
  · exact hz q (Nat.le_trans hS.1 h)
theorem blind {av : List Value} {sz : Nat} : FrameBlind (PcM D tys L a av V sz) := fun a' U g mk q => by
  obtain ⟨q0, q1, qP, qK⟩ := q
  exact ⟨q0, q1, qP, va_K.moved (u := U) (U := U.calling g mk a') (Vm.Alike.refl U.vm) qK⟩
theorem g_callI {y : MethodName} {M2 : MInf} {idx n k ci : Nat} {fs : (Nat → Int) → List Value} {C : vw_C} (As : List Value) {post : Int → Mem → Prop} {st0 : List Value} (hM : CI l D tys L a y M2 (.ref (a k) :: As) V post) (hk : LkV M.2.2.1 idx y M2 n) (ho : ObC L a k ci fs) (hc : vwCl[ci]? = some C) (hcl : C.1 = y.cls) (hrm : rmOk M M2) (hn : As.length = n) (hst : (st.map fun v => v.category).sum ≤ 8) (d : decode M.1 pc = .ok (.invokevirtual idx, 3)) (hs0 : st0 = As.reverse ++ .ref (a k) :: st) (kk : ∀ z V', post z V' → G l D tys L a M x (pc + 3) lv (.int (iN z) :: st) V') : G l D tys L a M x pc lv st0 V := by
  obtain ⟨p, e, s, m, args, below, meth, c, cells, slots, Q, A⟩ := x
  subst hs0
  refine fun cx ls H locs hl hP hS => ?_
  refine va_calli (va_runV (As := As) (rest := st) ⟨cx.1, cx.2.1, cx.2.2.1, cx.2.2.2.1, cx.2.2.2.2.1⟩ (hM H.size) (cwV n cx.2.2.2.2.1 (good_V hk) rfl hrm.1 hrm.2.1 ⟨rfl, hk.2.2.2.2.2⟩ ⟨hrm.2.2.1, hrm.2.2.2⟩) ⟨blind, hcl ▸ va_recv cx.2.2.2.2.2.1 hP hc (by rw [wsOf_at ho.1, ho.2]), fun U hU hW => ⟨rfl, by rw [hU], by rw [hU]; exact hP, va_K.moved hW.alike cx.2.2.2.2.2.1⟩⟩ rfl hn hl.1 rfl (lv_room hst) d ⟨cx.2.2.2.2.2.2.2.2.2.2.2.1, cx.2.2.2.2.2.2.2.2.2.2.2.2⟩) hS (fun q _ h => rg_sub cx.2.2.2.2.2.2.2.1 cx.2.2.2.2.2.2.2.2.1 hS q h) (fun q h => rg_sub cx.2.2.2.2.2.2.2.1 cx.2.2.2.2.2.2.2.2.1 hS q h) (fun r u t H1 locs1 ht hvm hw hB hz1 hk1 hS1 => ?_)
  obtain ⟨z, rfl, hp⟩ := hw
  rw [ht] at hB
  exact kk z u hp cx ls H1 locs1 hl hB hS1
theorem g_callL {y : MethodName} {M2 : MInf} {idx n k ci : Nat} {fs : (Nat → Int) → List Value} {C : vw_C} (As : List Value) {post : Int → Mem → Prop} {st0 : List Value} (hM : CL l D tys L a y M2 (.ref (a k) :: As) V post) (hk : LkV M.2.2.1 idx y M2 n) (ho : ObC L a k ci fs) (hc : vwCl[ci]? = some C) (hcl : C.1 = y.cls) (hrm : rmOk M M2) (hn : As.length = n) (hst : (st.map fun v => v.category).sum ≤ 8) (d : decode M.1 pc = .ok (.invokevirtual idx, 3)) (hs0 : st0 = As.reverse ++ .ref (a k) :: st) (kk : ∀ z V', post z V' → G l D tys L a M x (pc + 3) lv (.long (jN z) :: st) V') : G l D tys L a M x pc lv st0 V := by
  obtain ⟨p, e, s, m, args, below, meth, c, cells, slots, Q, A⟩ := x
  subst hs0
  refine fun cx ls H locs hl hP hS => ?_
  refine va_calll (va_runV (As := As) (rest := st) ⟨cx.1, cx.2.1, cx.2.2.1, cx.2.2.2.1, cx.2.2.2.2.1⟩ (hM H.size) (cwV n cx.2.2.2.2.1 (good_V hk) rfl hrm.1 hrm.2.1 ⟨rfl, hk.2.2.2.2.2⟩ ⟨hrm.2.2.1, hrm.2.2.2⟩) ⟨blind, hcl ▸ va_recv cx.2.2.2.2.2.1 hP hc (by rw [wsOf_at ho.1, ho.2]), fun U hU hW => ⟨rfl, by rw [hU], by rw [hU]; exact hP, va_K.moved hW.alike cx.2.2.2.2.2.1⟩⟩ rfl hn hl.1 rfl (lv_room hst) d ⟨cx.2.2.2.2.2.2.2.2.2.2.2.1, cx.2.2.2.2.2.2.2.2.2.2.2.2⟩) hS (fun q _ h => rg_sub cx.2.2.2.2.2.2.2.1 cx.2.2.2.2.2.2.2.2.1 hS q h) (fun q h => rg_sub cx.2.2.2.2.2.2.2.1 cx.2.2.2.2.2.2.2.2.1 hS q h) (fun r u t H1 locs1 ht hvm hw hB hz1 hk1 hS1 => ?_)
  obtain ⟨z, rfl, hp⟩ := hw
  rw [ht] at hB
  exact kk z u hp cx ls H1 locs1 hl hB hS1
theorem g_callV {y : MethodName} {M2 : MInf} {idx n k ci : Nat} {fs : (Nat → Int) → List Value} {C : vw_C} (As : List Value) {post : Mem → Prop} {st0 : List Value} (hM : CV l D tys L a y M2 (.ref (a k) :: As) V post) (hk : LkV M.2.2.1 idx y M2 n) (ho : ObC L a k ci fs) (hc : vwCl[ci]? = some C) (hcl : C.1 = y.cls) (hrm : rmOk M M2) (hn : As.length = n) (hst : (st.map fun v => v.category).sum ≤ 8) (d : decode M.1 pc = .ok (.invokevirtual idx, 3)) (hs0 : st0 = As.reverse ++ .ref (a k) :: st) (kk : ∀ V', post V' → G l D tys L a M x (pc + 3) lv st V') : G l D tys L a M x pc lv st0 V := by
  obtain ⟨p, e, s, m, args, below, meth, c, cells, slots, Q, A⟩ := x
  subst hs0
  refine fun cx ls H locs hl hP hS => ?_
  refine va_callv (va_runV (As := As) (rest := st) ⟨cx.1, cx.2.1, cx.2.2.1, cx.2.2.2.1, cx.2.2.2.2.1⟩ (hM H.size) (cwV n cx.2.2.2.2.1 (good_V hk) rfl hrm.1 hrm.2.1 ⟨rfl, hk.2.2.2.2.2⟩ ⟨hrm.2.2.1, hrm.2.2.2⟩) ⟨blind, hcl ▸ va_recv cx.2.2.2.2.2.1 hP hc (by rw [wsOf_at ho.1, ho.2]), fun U hU hW => ⟨rfl, by rw [hU], by rw [hU]; exact hP, va_K.moved hW.alike cx.2.2.2.2.2.1⟩⟩ rfl hn hl.1 rfl (lv_room hst) d ⟨cx.2.2.2.2.2.2.2.2.2.2.2.1, cx.2.2.2.2.2.2.2.2.2.2.2.2⟩) hS (fun q _ h => rg_sub cx.2.2.2.2.2.2.2.1 cx.2.2.2.2.2.2.2.2.1 hS q h) (fun q h => rg_sub cx.2.2.2.2.2.2.2.1 cx.2.2.2.2.2.2.2.2.1 hS q h) (fun u t H1 locs1 ht hvm hw hB hz1 hk1 hS1 => ?_)
  rw [ht] at hB
  exact kk u hw cx ls H1 locs1 hl hB hS1
theorem g_callSI {y : MethodName} {M2 : MInf} {idx n : Nat} (As : List Value) {post : Int → Mem → Prop} {st0 : List Value} (hM : CI l D tys L a y M2 As V post) (hk : LkS M.2.2.1 idx y M2 n) (hrm : rmOk M M2) (hn : As.length = n) (hst : (st.map fun v => v.category).sum ≤ 8) (d : decode M.1 pc = .ok (.invokestatic idx, 3)) (hs0 : st0 = As.reverse ++ st) (kk : ∀ z V', post z V' → G l D tys L a M x (pc + 3) lv (.int (iN z) :: st) V') : G l D tys L a M x pc lv st0 V := by
  obtain ⟨p, e, s, m, args, below, meth, c, cells, slots, Q, A⟩ := x
  subst hs0
  refine fun cx ls H locs hl hP hS => ?_
  refine va_calli (va_runS (As := As) (rest := st) ⟨cx.1, cx.2.1, cx.2.2.1, cx.2.2.2.1, cx.2.2.2.2.1⟩ (hM H.size) (cwS n cx.2.2.2.2.1 (good_S hk) rfl hrm.1 hrm.2.1 ⟨hk.2.2.2.2.2.2.2, hk.2.2.2.2.1, hk.2.2.2.2.2.1, hk.2.2.2.2.2.2.1⟩ ⟨hrm.2.2.1, hrm.2.2.2⟩) ⟨blind, fun U hU hW => ⟨rfl, by rw [hU], by rw [hU]; exact hP, va_K.moved hW.alike cx.2.2.2.2.2.1⟩⟩ rfl hn hl.1 rfl (lv_room hst) d ⟨cx.2.2.2.2.2.2.2.2.2.2.2.1, cx.2.2.2.2.2.2.2.2.2.2.2.2⟩) hS (fun q _ h => rg_sub cx.2.2.2.2.2.2.2.1 cx.2.2.2.2.2.2.2.2.1 hS q h) (fun q h => rg_sub cx.2.2.2.2.2.2.2.1 cx.2.2.2.2.2.2.2.2.1 hS q h) (fun r u t H1 locs1 ht hvm hw hB hz1 hk1 hS1 => ?_)
  obtain ⟨z, rfl, hp⟩ := hw
  rw [ht] at hB
  exact kk z u hp cx ls H1 locs1 hl hB hS1
theorem g_callSL {y : MethodName} {M2 : MInf} {idx n : Nat} (As : List Value) {post : Int → Mem → Prop} {st0 : List Value} (hM : CL l D tys L a y M2 As V post) (hk : LkS M.2.2.1 idx y M2 n) (hrm : rmOk M M2) (hn : As.length = n) (hst : (st.map fun v => v.category).sum ≤ 8) (d : decode M.1 pc = .ok (.invokestatic idx, 3)) (hs0 : st0 = As.reverse ++ st) (kk : ∀ z V', post z V' → G l D tys L a M x (pc + 3) lv (.long (jN z) :: st) V') : G l D tys L a M x pc lv st0 V := by
  obtain ⟨p, e, s, m, args, below, meth, c, cells, slots, Q, A⟩ := x
  subst hs0
  refine fun cx ls H locs hl hP hS => ?_
  refine va_calll (va_runS (As := As) (rest := st) ⟨cx.1, cx.2.1, cx.2.2.1, cx.2.2.2.1, cx.2.2.2.2.1⟩ (hM H.size) (cwS n cx.2.2.2.2.1 (good_S hk) rfl hrm.1 hrm.2.1 ⟨hk.2.2.2.2.2.2.2, hk.2.2.2.2.1, hk.2.2.2.2.2.1, hk.2.2.2.2.2.2.1⟩ ⟨hrm.2.2.1, hrm.2.2.2⟩) ⟨blind, fun U hU hW => ⟨rfl, by rw [hU], by rw [hU]; exact hP, va_K.moved hW.alike cx.2.2.2.2.2.1⟩⟩ rfl hn hl.1 rfl (lv_room hst) d ⟨cx.2.2.2.2.2.2.2.2.2.2.2.1, cx.2.2.2.2.2.2.2.2.2.2.2.2⟩) hS (fun q _ h => rg_sub cx.2.2.2.2.2.2.2.1 cx.2.2.2.2.2.2.2.2.1 hS q h) (fun q h => rg_sub cx.2.2.2.2.2.2.2.1 cx.2.2.2.2.2.2.2.2.1 hS q h) (fun r u t H1 locs1 ht hvm hw hB hz1 hk1 hS1 => ?_)
  obtain ⟨z, rfl, hp⟩ := hw
  rw [ht] at hB
  exact kk z u hp cx ls H1 locs1 hl hB hS1
theorem g_callSV {y : MethodName} {M2 : MInf} {idx n : Nat} (As : List Value) {post : Mem → Prop} {st0 : List Value} (hM : CV l D tys L a y M2 As V post) (hk : LkS M.2.2.1 idx y M2 n) (hrm : rmOk M M2) (hn : As.length = n) (hst : (st.map fun v => v.category).sum ≤ 8) (d : decode M.1 pc = .ok (.invokestatic idx, 3)) (hs0 : st0 = As.reverse ++ st) (kk : ∀ V', post V' → G l D tys L a M x (pc + 3) lv st V') : G l D tys L a M x pc lv st0 V := by
  obtain ⟨p, e, s, m, args, below, meth, c, cells, slots, Q, A⟩ := x
  subst hs0
  refine fun cx ls H locs hl hP hS => ?_
  refine va_callv (va_runS (As := As) (rest := st) ⟨cx.1, cx.2.1, cx.2.2.1, cx.2.2.2.1, cx.2.2.2.2.1⟩ (hM H.size) (cwS n cx.2.2.2.2.1 (good_S hk) rfl hrm.1 hrm.2.1 ⟨hk.2.2.2.2.2.2.2, hk.2.2.2.2.1, hk.2.2.2.2.2.1, hk.2.2.2.2.2.2.1⟩ ⟨hrm.2.2.1, hrm.2.2.2⟩) ⟨blind, fun U hU hW => ⟨rfl, by rw [hU], by rw [hU]; exact hP, va_K.moved hW.alike cx.2.2.2.2.2.1⟩⟩ rfl hn hl.1 rfl (lv_room hst) d ⟨cx.2.2.2.2.2.2.2.2.2.2.2.1, cx.2.2.2.2.2.2.2.2.2.2.2.2⟩) hS (fun q _ h => rg_sub cx.2.2.2.2.2.2.2.1 cx.2.2.2.2.2.2.2.2.1 hS q h) (fun q h => rg_sub cx.2.2.2.2.2.2.2.1 cx.2.2.2.2.2.2.2.2.1 hS q h) (fun u t H1 locs1 ht hvm hw hB hz1 hk1 hS1 => ?_)
  rw [ht] at hB
  exact kk u hw cx ls H1 locs1 hl hB hS1
end GG
