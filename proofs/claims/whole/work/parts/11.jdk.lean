/-! arrays' lengths; static methods of other classes; Arrays.fill -/
section GJ
variable {l : Launch} {D : va_G} {tys : List (ClassId × FieldType)} {L : Lay} {a : Nat → Nat} {M : MInf} {x : Ctx} {pc : Nat} {lv lv' : List (Nat × Value)} {st : List Value} {V : Mem}
theorem g_alen (k : Nat) {n : Nat} (h : ArI L a tys k n) (d : decode M.1 pc = .ok (.arraylength, 1)) (kk : G l D tys L a M x (pc + 1) lv (.int (iN (n : Int)) :: st) V) : G l D tys L a M x pc lv (.ref (a k) :: st) V := by
  obtain ⟨p, e, s, m, args, below, meth, c, cells, slots, Q, A⟩ := x
  obtain ⟨hk, hn, cA, t0, ht, hs⟩ := h
  exact fun cx ls H locs hl hP hS => va_alen cx.1 cx.2.1 cx.2.2.2.2.2.1 hP k t0 (cA := cA) (x := (n, .inl (fun j => iN (V k j)))) (by rw [wsOf_at hk, hs]) ht (iN_nI n).symm d (kk cx ls H locs hl hP hS)
def LkX (own : String) (idx : Nat) (y : MethodName) (M2 : MInf) (n : Nat) : Prop := Cond.methodLink own idx y ∈ gw ∧ Cond.static y ∈ gw ∧ Cond.initialized y.cls ∈ gw ∧ Cond.code y M2.1 M2.2.1 M2.2.2.2.1 ∈ gw ∧ y.cls ≠ "java/lang/invoke/MethodHandle" ∧ y.cls ≠ "java/lang/invoke/VarHandle" ∧ (parseMethodDescriptor y.desc).map (fun d => d.parameters.length) = some n
theorem good_X {own : String} {idx n : Nat} {y : MethodName} {M2 : MInf} (h : LkX own idx y M2 n) : GoodIn gw (va_wsS own idx y (wsM y M2)) := by
  obtain ⟨h1, h2, h4, h5, -⟩ := h
  refine good_sub fun w hw => ?_
  simp only [va_wsS, wsM, List.cons_append, List.nil_append, List.mem_cons] at hw
  rcases hw with rfl | rfl | rfl | rfl | hw
  · exact h1
  · exact h2
  · exact h4
  · exact h5
  · exact hw
theorem g_callXV {y : MethodName} {M2 : MInf} {idx n : Nat} (As : List Value) {post : Mem → Prop} {st0 : List Value} (hM : CV l D tys L a y M2 As V post) (hk : LkX M.2.2.1 idx y M2 n) (hrm : rmOk M M2) (hn : As.length = n) (hst : (st.map fun v => v.category).sum ≤ 8) (d : decode M.1 pc = .ok (.invokestatic idx, 3)) (hs0 : st0 = As.reverse ++ st) (kk : ∀ V', post V' → G l D tys L a M x (pc + 3) lv st V') : G l D tys L a M x pc lv st0 V := by
  obtain ⟨p, e, s, m, args, below, meth, c, cells, slots, Q, A⟩ := x
  subst hs0
  refine fun cx ls H locs hl hP hS => ?_
  refine va_callv (va_runS (As := As) (rest := st) ⟨cx.1, cx.2.1, cx.2.2.1, cx.2.2.2.1, cx.2.2.2.2.1⟩ (hM H.size) (va_cwS n cx.2.2.2.2.1 (good_X hk) rfl hrm.1 hrm.2.1 hk.2.2.2.2 ⟨hrm.2.2.1, hrm.2.2.2⟩) ⟨blind, fun U hU hW => ⟨rfl, by rw [hU], by rw [hU]; exact hP, va_K.moved hW.alike cx.2.2.2.2.2.1⟩⟩ rfl hn hl.1 rfl (lv_room hst) d ⟨cx.2.2.2.2.2.2.2.2.2.2.2.1, cx.2.2.2.2.2.2.2.2.2.2.2.2⟩) hS (fun q _ h => rg_sub cx.2.2.2.2.2.2.2.1 cx.2.2.2.2.2.2.2.2.1 hS q h) (fun q h => rg_sub cx.2.2.2.2.2.2.2.1 cx.2.2.2.2.2.2.2.2.1 hS q h) (fun u t H1 locs1 ht hvm hw hB hz1 hk1 hS1 => ?_)
  rw [ht] at hB
  exact kk u hw cx ls H1 locs1 hl hB hS1
theorem g_callXI {y : MethodName} {M2 : MInf} {idx n : Nat} (As : List Value) {post : Int → Mem → Prop} {st0 : List Value} (hM : CI l D tys L a y M2 As V post) (hk : LkX M.2.2.1 idx y M2 n) (hrm : rmOk M M2) (hn : As.length = n) (hst : (st.map fun v => v.category).sum ≤ 8) (d : decode M.1 pc = .ok (.invokestatic idx, 3)) (hs0 : st0 = As.reverse ++ st) (kk : ∀ z V', post z V' → G l D tys L a M x (pc + 3) lv (.int (iN z) :: st) V') : G l D tys L a M x pc lv st0 V := by
  obtain ⟨p, e, s, m, args, below, meth, c, cells, slots, Q, A⟩ := x
  subst hs0
  refine fun cx ls H locs hl hP hS => ?_
  refine va_calli (va_runS (As := As) (rest := st) ⟨cx.1, cx.2.1, cx.2.2.1, cx.2.2.2.1, cx.2.2.2.2.1⟩ (hM H.size) (va_cwS n cx.2.2.2.2.1 (good_X hk) rfl hrm.1 hrm.2.1 hk.2.2.2.2 ⟨hrm.2.2.1, hrm.2.2.2⟩) ⟨blind, fun U hU hW => ⟨rfl, by rw [hU], by rw [hU]; exact hP, va_K.moved hW.alike cx.2.2.2.2.2.1⟩⟩ rfl hn hl.1 rfl (lv_room hst) d ⟨cx.2.2.2.2.2.2.2.2.2.2.2.1, cx.2.2.2.2.2.2.2.2.2.2.2.2⟩) hS (fun q _ h => rg_sub cx.2.2.2.2.2.2.2.1 cx.2.2.2.2.2.2.2.2.1 hS q h) (fun q h => rg_sub cx.2.2.2.2.2.2.2.1 cx.2.2.2.2.2.2.2.2.1 hS q h) (fun r u t H1 locs1 ht hvm hw hB hz1 hk1 hS1 => ?_)
  obtain ⟨z, rfl, hp⟩ := hw
  rw [ht] at hB
  exact kk z u hp cx ls H1 locs1 hl hB hS1
end GJ
