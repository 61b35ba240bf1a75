/-! constructors: worlds that grow -/
def cE (n : Nat) (E : Nat → (Nat → Int) → va_E) : Lay := (n, fun _ k r => E k r)
def upf {α : Type} (f : Nat → α) (n : Nat) (v : α) : Nat → α := fun k => if k = n then v else f k
theorem upf_eq {α : Type} {f : Nat → α} {n : Nat} {v : α} : upf f n v n = v := if_pos rfl
theorem upf_ne {α : Type} {f : Nat → α} {n k : Nat} {v : α} (h : k ≠ n) : upf f n v k = f k := if_neg h
/-- the same walk, more cells and slots made -/
def bmp (x : Ctx) (k n : Nat) : Ctx := match x with
  | (p, e, s, m, args, below, meth, c, cells, slots, Q, A) => (p, e, s, m, args, below, meth, c, cells + k, slots + n, Q, A)
def zer (x : Ctx) : Prop := match x with
  | (_, _, _, _, _, _, _, _, cells, slots, _, _) => cells = 0 ∧ slots = 0
def Z0 : Mem := fun _ _ => 0
theorem wsP {D : va_G} {cl : List vw_C} {L : Lay} {a : Nat → Nat} {V : Mem} {H : Heap} : va_P D cl (wsOf L a V) H ↔ ∀ k, k < L.1 → va_at D cl (a k, L.2 a k (V k)) H := by
  constructor
  · intro h k hk
    exact h k _ (wsOf_at hk)
  · intro h k q hq
    obtain ⟨h1, rfl⟩ := wsOf_of hq
    exact h k h1
theorem grow_P {D : va_G} {cl : List vw_C} {E : Nat → (Nat → Int) → va_E} {a : Nat → Nat} {V : Mem} {n q : Nat} {v : (Nat → Int) → va_E} {H H1 : Heap} (hP : va_P D cl (wsOf (cE n E) a V) H) (ho : ∀ r, r < H.size → H1[r]? = H[r]?) (hv : va_at D cl (q, v (V n)) H1) : va_P D cl (wsOf (cE (n + 1) (upf E n v)) (upf a n q) V) H1 := by
  rw [wsP] at hP ⊢
  intro k hk
  show va_at D cl (upf a n q k, upf E n v k (V k)) H1
  by_cases e : k = n
  · subst e; rw [upf_eq, upf_eq]; exact hv
  · rw [upf_ne e, upf_ne e]
    have h := hP k (by have : k < n + 1 := hk; show k < n; omega)
    exact h.kept (ho _ h.lt)
theorem grow_A {E E' : Nat → (Nat → Int) → va_E} {a : Nat → Nat} {n q : Nat} (h : Apart (cE n E) a) (hq : ∀ k, k < n → a k ≠ q) : Apart (cE (n + 1) E') (upf a n q) := by
  intro i j hi hj e
  have hi' : i < n + 1 := hi
  have hj' : j < n + 1 := hj
  by_cases e1 : i = n <;> by_cases e2 : j = n
  · omega
  · subst e1; rw [upf_eq, upf_ne e2] at e; exact absurd e.symm (hq j (by omega))
  · subst e2; rw [upf_eq, upf_ne e1] at e; exact absurd e (hq i (by omega))
  · rw [upf_ne e1, upf_ne e2] at e
    exact h i j (show i < n by omega) (show j < n by omega) e
theorem P_lt {D : va_G} {cl : List vw_C} {L : Lay} {a : Nat → Nat} {V : Mem} {H : Heap} (h : va_P D cl (wsOf L a V) H) {k : Nat} (hk : k < L.1) : a k < H.size := (wsP.mp h k hk).lt
/-- another picture of the same cells -/
theorem g_lay {l : Launch} {D : va_G} {tys : List (ClassId × FieldType)} {L L' : Lay} {a : Nat → Nat} {M : MInf} {x : Ctx} {pc : Nat} {lv : List (Nat × Value)} {st : List Value} {V V' : Mem} (h1 : L'.1 = L.1) (h2 : ∀ k, k < L.1 → L.2 a k (V k) = L'.2 a k (V' k)) (k : G l D tys L' a M x pc lv st V') : G l D tys L a M x pc lv st V := by
  obtain ⟨p, e, s, m, args, below, meth, c, cells, slots, Q, A⟩ := x
  refine fun cx ls H locs hl hP hS => k ⟨cx.1, cx.2.1, cx.2.2.1, cx.2.2.2.1, cx.2.2.2.2.1, cx.2.2.2.2.2.1, fun i j hi hj => cx.2.2.2.2.2.2.1 i j (h1 ▸ hi) (h1 ▸ hj), fun i hi => cx.2.2.2.2.2.2.2.1 i (h1 ▸ hi), cx.2.2.2.2.2.2.2.2⟩ ls H locs hl ?_ hS
  rw [wsP] at hP ⊢
  intro i hi
  rw [h1] at hi
  rw [← h2 i hi]
  exact hP i hi
section GN
variable {l : Launch} {D : va_G} {tys : List (ClassId × FieldType)} {L : Lay} {a : Nat → Nat} {M : MInf} {x : Ctx} {pc : Nat} {lv lv' : List (Nat × Value)} {st : List Value} {V : Mem} {E : Nat → (Nat → Int) → va_E} {n c0 s0 : Nat} {τ : Nat → ClassId}
theorem g_objI {y : Nat} {idx : Nat} (h : Cond.methodLink M.2.2.1 idx objectInit ∈ gw ∧ Cond.instanceMethod objectInit ∈ gw ∧ Cond.code objectInit ⟨#[0xb1]⟩ 1 none ∈ gw) (hR : 1 ≤ M.2.2.2.2.frames ∧ 20 ≤ M.2.2.2.2.locals) (hst : (st.map fun v => v.category).sum ≤ 8) (d : decode M.1 pc = .ok (.invokespecial idx, 3)) (k : G l D tys L a M x (pc + 3) lv st V) : G l D tys L a M x pc lv (.ref y :: st) V := by
  obtain ⟨p, e, s, m, args, below, meth, c, cells, slots, Q, A⟩ := x
  exact fun cx ls H locs hl hP hS => W.objInit cx.1 cx.2.1 cx.2.2.2.1 (cx.2.2.2.2.1 _ h.1) (cx.2.2.2.2.1 _ h.2.1) (cx.2.2.2.2.1 _ h.2.2) (g := F0 m pc ls (.ref y :: st)) rfl (by rw [cx.2.2.1]; exact hl.1) rfl d hR.1 (by have := lv_room (m := m) (pc := pc) (ls := ls) (rest := .ref y :: st) hst; omega) (k cx ls H locs hl hP hS)
theorem ty_cls {s : State} {t : Nat} {ty : FieldType} {cA : ClassId} (hK : va_K D vwCl tys s) (ht : tys[t]? = some (cA, ty)) (hn : ∀ C, ty ≠ .object C) : s.vm.findClass ("[" ++ ty.toString) = some cA := by
  have h := (hK.2 t _ ht).2
  cases ty <;> first | exact absurd rfl (hn _) | exact h
theorem g_newA {t N : Nat} {at0 : ArrayType} {ty : FieldType} {cA : ClassId} {v : (Nat → Int) → va_E} (q0 : zer x) (hty : newarray.typeOf at0 = ty) (hno : ∀ C, ty ≠ .object C) (ht : tys[t]? = some (cA, ty)) (hw : Cond.arrayClass ty ∈ gw) (hN : N ≤ 1000) (hby : N * componentBytes ty ≤ 536870912) (hv : ∃ a0 : vp_A, v (V n) = .inl (cA, a0) ∧ vp_cell cA a0 = arrV cA N (fun _ => defaultValue ty)) (hR : c0 + 1 ≤ M.2.2.2.2.cells ∧ s0 + N ≤ M.2.2.2.2.slots) (d : decode M.1 pc = .ok (.newarray at0, 2))
    (kk : ∀ q, G l D tys (cE (n + 1) (upf E n v)) (upf a n q) M (bmp x (c0 + 1) (s0 + N)) (pc + 2) lv (.ref q :: st) V) : G l D tys (cE n E) a M (bmp x c0 s0) pc lv (.int (iN (N : Int)) :: st) V := by
  obtain ⟨p, e, s, m, args, below, meth, c, cells, slots, Q, A⟩ := x
  obtain ⟨rfl, rfl⟩ := q0
  subst hty
  obtain ⟨a0, hv1, hv2⟩ := hv
  refine fun cx ls H locs hl hP hS => ?_
  refine va_newaK cx.1 cx.2.1 (cx.2.2.2.2.1 _ hw) (g := F0 m pc ls (.int (iN (N : Int)) :: st)) rfl d rfl (by rw [iN_nI]; exact nI_pos (by omega)) (iN_clamp (by omega)) hby (by show 0 + c0 + 1 ≤ _; omega) (by show 0 + s0 + N ≤ _; omega) rfl (fun H1 cA' e1 z1 o1 hAr hNm => ?_)
  have hcl := ty_cls cx.2.2.2.2.2.1 ht hno
  have ec : cA' = cA := Option.some.inj (hNm.symm.trans hcl)
  subst ec
  have hsz := hS.1
  rw [Nat.add_assoc 0 s0 N]
  refine kk H.size ⟨cx.1, cx.2.1, cx.2.2.1, cx.2.2.2.1, cx.2.2.2.2.1, cx.2.2.2.2.2.1, grow_A cx.2.2.2.2.2.2.1 (fun k hk => Nat.ne_of_lt (P_lt hP (k := k) hk)), fun k hk => ?_, cx.2.2.2.2.2.2.2.2.1, cx.2.2.2.2.2.2.2.2.2.1, cx.2.2.2.2.2.2.2.2.2.2.1, by show 0 + (c0 + 1) ≤ _; omega, by show 0 + (s0 + N) ≤ _; omega⟩ ls H1 locs hl (grow_P hP (fun r hr => o1 r hr) (by
      show va_at D vwCl (H.size, v (V n)) H1
      rw [hv1]
      show H1[H.size]? = some (vp_cell cA' a0)
      rw [hv2]; exact e1)) ⟨by omega, fun q h1 h2 => (o1 q (by omega)).trans (hS.2.1 q h1 h2), hS.2.2⟩
  by_cases e : k = n
  · subst e; rw [upf_eq]; exact cx.2.2.2.2.2.2.2.2.1 _ hsz
  · rw [upf_ne e]; exact cx.2.2.2.2.2.2.2.1 k (by have hk' : k < n + 1 := hk; show k < n; omega)
theorem g_newO {ci idx : Nat} {C : String} {T : u_T} {N : Nat} {ty : Nat → FieldType} {fs : List Value} (q0 : zer x) (hc : vwCl[ci]? = some (C, T, N)) (hin : ∀ w ∈ u_ws C T N, w ∈ gw) (hty : ∀ k, k < N → parseFieldDescriptor (T k).2.2.1 = some (ty k)) (hw : Cond.classLink M.2.2.1 idx C ∈ gw ∧ Cond.instantiable C N ∈ gw ∧ Cond.initialized C ∈ gw) (hfs : ∀ j, j < N → defaultValue (ty j) = vp_V fs j) (hR : c0 + 1 ≤ M.2.2.2.2.cells ∧ s0 + N ≤ M.2.2.2.2.slots) (d : decode M.1 pc = .ok (.new idx, 3))
    (kk : ∀ q, G l D tys (cE (n + 1) (upf E n (fun _ => .inr (ci, fs)))) (upf a n q) M (bmp x (c0 + 1) (s0 + N)) (pc + 3) lv (.ref q :: st) V) : G l D tys (cE n E) a M (bmp x c0 s0) pc lv st V := by
  obtain ⟨p, e, s, m, args, below, meth, c, cells, slots, Q, A⟩ := x
  obtain ⟨rfl, rfl⟩ := q0
  refine fun cx ls H locs hl hP hS => ?_
  have hKn := cx.2.2.2.2.2.1.1 ci _ hc
  refine W.newcK cx.1 cx.2.1 cx.2.2.2.1 (cx.2.2.2.2.1 _ hw.1) (cx.2.2.2.2.1 _ hw.2.1) (cx.2.2.2.2.1 _ hw.2.2) (g := F0 m pc ls st) rfl d (by show 0 + c0 + 1 ≤ _; omega) (by show 0 + s0 + N ≤ _; omega) hKn.2.1 rfl fun H1 kC hkC e1 z1 o1 => ?_
  have hsz := hS.1
  rw [Nat.add_assoc 0 s0 N]
  refine kk H.size ⟨cx.1, cx.2.1, cx.2.2.1, cx.2.2.2.1, cx.2.2.2.2.1, cx.2.2.2.2.2.1, grow_A cx.2.2.2.2.2.2.1 (fun k hk => Nat.ne_of_lt (P_lt hP (k := k) hk)), fun k hk => ?_, cx.2.2.2.2.2.2.2.2.1, cx.2.2.2.2.2.2.2.2.2.1, cx.2.2.2.2.2.2.2.2.2.2.1, by show 0 + (c0 + 1) ≤ _; omega, by show 0 + (s0 + N) ≤ _; omega⟩ ls H1 locs hl (grow_P hP (fun r hr => o1 r hr) ⟨_, hc, (u_born ty cx.2.2.2.2.1 hin hKn hkC e1 hty).to hfs⟩) ⟨by omega, fun q h1 h2 => (o1 q (by omega)).trans (hS.2.1 q h1 h2), hS.2.2⟩
  by_cases e : k = n
  · subst e; rw [upf_eq]; exact cx.2.2.2.2.2.2.2.2.1 _ hsz
  · rw [upf_ne e]; exact cx.2.2.2.2.2.2.2.1 k (by have hk' : k < n + 1 := hk; show k < n; omega)
theorem wsOf_upE {k : Nat} {v : (Nat → Int) → va_E} (hk : k < n) : (wsOf (cE n E) a V).set k (a k, v (V k)) = wsOf (cE n (upf E k v)) a V := by
  apply List.ext_getElem?
  intro j
  rw [List.getElem?_set]
  by_cases hj : k = j
  · subst hj
    rw [if_pos rfl, wsOf_at (show k < (cE n (upf E k v)).1 from hk)]
    show (if k < (wsOf (cE n E) a V).length then some (a k, v (V k)) else none) = some (a k, upf E k v k (V k))
    rw [upf_eq, if_pos (by simp [wsOf, cE]; exact hk)]
  · rw [if_neg hj]
    by_cases h : j < n
    · rw [wsOf_at (show j < (cE n E).1 from h), wsOf_at (show j < (cE n (upf E k v)).1 from h)]
      show some (a j, E j (V j)) = some (a j, upf E k v j (V j))
      rw [upf_ne (Ne.symm hj)]
    · rw [List.getElem?_eq_none (by simp [wsOf, cE]; omega), List.getElem?_eq_none (by simp [wsOf, cE]; omega)]
/-- words of a putfield of a field that is final or not -/
def FLn (own : String) (idx ci j : Nat) (ty : FieldType) : Prop := ∃ (C : String) (T : u_T) (N : Nat) (ty0 : Nat → FieldType), vwCl[ci]? = some (C, T, N) ∧ j < N ∧ Cond.fieldLink own idx (T j).1 (T j).2.1 (T j).2.2.1 ∈ gw ∧ (∀ w ∈ u_ws C T N, w ∈ gw) ∧ (∀ k, k < N → parseFieldDescriptor (T k).2.2.1 = some (ty0 k)) ∧ (∀ a, a < N → ∀ b, b < N → a ≠ b → (T a).2.1 ≠ (T b).2.1) ∧ ((T j).2.2.2 = false ∨ ((T j).2.2.2 = true ∧ (T j).1 = own)) ∧ parseFieldDescriptor (T j).2.2.1 = some ty
def ini (x : Ctx) : Prop := match x with
  | (_, _, _, _, _, _, meth, _, _, _, _, _) => meth.name = "<init>"
theorem g_putE {idx ci j : Nat} {ty : FieldType} {fs : List Value} (k : Nat) (w : Value) (q1 : ini x) (f : FLn M.2.2.1 idx ci j ty) (hk : k < n) (hE : E k (V k) = .inr (ci, fs)) (d : decode M.1 pc = .ok (.putfield idx, 3)) (hn : narrow ty w = w) (hfit : fits ty w = true) (hl9 : j < fs.length) (kk : G l D tys (cE n (upf E k (fun _ => .inr (ci, fs.set j w)))) a M (bmp x c0 s0) (pc + 3) lv st V) : G l D tys (cE n E) a M (bmp x c0 s0) pc lv (w :: .ref (a k) :: st) V := by
  obtain ⟨p, e, s, m, args, below, meth, c, cells, slots, Q, A⟩ := x
  obtain ⟨C, T, N, ty0, hc, hj, hl0, hin, hty, hnm, hfin, hd⟩ := f
  refine fun cx ls H locs hl hP hS => ?_
  have he : (wsOf (cE n E) a V)[k]? = some (a k, .inr (ci, fs)) := by rw [wsOf_at (show k < (cE n E).1 from hk)]; show some (a k, E k (V k)) = _; rw [hE]
  have fin : ∀ (H1 : Heap) (locs1 : List Loc), va_P D vwCl ((wsOf (cE n E) a V).set k (a k, .inr (ci, fs.set j w))) H1 → va_D A ((wsOf (cE n E) a V).set k (a k, .inr (ci, fs.set j w))) → va_S A s.heap H1 locs1 → W p l e M.2.2.2.2 s m args below meth c H1 locs1 (cells + c0) (slots + s0) Q (F0 m (pc + 3) ls st) := fun H1 locs1 hP1 _ hS1 => by
    rw [show (wsOf (cE n E) a V).set k (a k, .inr (ci, fs.set j w)) = wsOf (cE n (upf E k (fun _ => .inr (ci, fs.set j w)))) a V from wsOf_upE (v := fun _ => .inr (ci, fs.set j w)) hk] at hP1
    exact kk ⟨cx.1, cx.2.1, cx.2.2.1, cx.2.2.2.1, cx.2.2.2.2.1, cx.2.2.2.2.2.1, cx.2.2.2.2.2.2.1, cx.2.2.2.2.2.2.2⟩ ls H1 locs1 hl hP1 hS1
  rcases hfin with hfin | ⟨hfin, hdecl⟩
  · exact va_put (D := D) (C := C) (T := T) (N := N) cx.1 cx.2.1 cx.2.2.2.2.1 hin ty0 hty hnm cx.2.2.2.1 cx.2.2.2.2.2.1 hP (wsOf_D cx.2.2.2.2.2.2.1 cx.2.2.2.2.2.2.2.1) hS k he hc j hj (cx.2.2.2.2.1 _ hl0) (fun _ h9 => h9) hfin hd hn hfit hl9 d fin
  · exact va_putF (D := D) (C := C) (T := T) (N := N) cx.1 cx.2.1 cx.2.2.2.2.1 hin ty0 hty hnm cx.2.2.2.1 cx.2.2.2.2.2.1 hP (wsOf_D cx.2.2.2.2.2.2.1 cx.2.2.2.2.2.2.2.1) hS k he hc j hj (cx.2.2.2.2.1 _ hl0) (fun _ h9 => h9) hfin q1 hdecl hd hn hfit hl9 d fin
end GN
/-! constructors: contracts and calls -/
/-- words of the tables that hold on, but not by their form -/
def aov (ty : FieldType) (U : State) : Prop := (Cond.arrayOver ty).before #[] U = true
theorem aov_moved {ty : FieldType} {s U : State} (hal : s.vm.Alike U.vm) (h : aov ty s) : aov ty U := (show (Cond.arrayOver ty).before #[] U = (Cond.arrayOver ty).before #[] (s.setVm U.vm) from rfl).trans ((Cond.arrayOver_setVmC (args := #[]) hal ty).trans h)
theorem aov_use {ty : FieldType} {A : Array Value} {U : State} (h : aov ty U) : (Cond.arrayOver ty).before A U = true := h
def Nst (U : State) : Prop := (va_Nw (.methodLinkNest RX6 9 yX1_init RX6) U ∧ va_Nw (.methodLinkNest RX6 18 yX3_init RX6) U ∧ va_Nw (.methodLinkNest RX6 32 yX4_init RX6) U ∧ va_Nw (.methodLinkNest RX6 39 yX5_init RX6) U) ∧ aov (.object RX2) U ∧ aov (.array .int) U ∧ aov (.array .long) U
theorem Nst.moved {s U : State} (hW : s.WarmedH U.vm) (h : Nst s) : Nst U := ⟨⟨va_Nw.warmM hW h.1.1, va_Nw.warmM hW h.1.2.1, va_Nw.warmM hW h.1.2.2.1, va_Nw.warmM hW h.1.2.2.2⟩, aov_moved hW.alike h.2.1, aov_moved hW.alike h.2.2.1, aov_moved hW.alike h.2.2.2⟩
theorem Nst.same {s U : State} (e : s.vm = U.vm) (h : Nst s) : Nst U := ⟨⟨va_Nw.same rfl e h.1.1, va_Nw.same rfl e h.1.2.1, va_Nw.same rfl e h.1.2.2.1, va_Nw.same rfl e h.1.2.2.2⟩, aov_moved (e ▸ Vm.Alike.refl _) h.2.1, aov_moved (e ▸ Vm.Alike.refl _) h.2.2.1, aov_moved (e ▸ Vm.Alike.refl _) h.2.2.2⟩
def rgO (o sz : Nat) : Nat → Prop := fun q => q = o ∨ sz ≤ q
def CNp (mini : Lay) (o sz : Nat) : (Nat → Nat) → Prop := fun b => b 0 = o ∧ (∀ k, 0 < k → k < mini.1 → sz ≤ b k) ∧ Apart mini b
def PcN (D : va_G) (tys : List (ClassId × FieldType)) (o : Nat) (As : List Value) (e0 : va_E) (sz : Nat) : Array Value → State → Prop := va_Pc (.ref o :: As) (fun U => U.heap.size = sz ∧ va_at D vwCl (o, e0) U.heap ∧ va_K D vwCl tys U ∧ Nst U)
def CN (l : Launch) (D : va_G) (tys : List (ClassId × FieldType)) (mini : Lay) (Vp : Mem) (y : MethodName) (M : MInf) (o : Nat) (As : List Value) (e0 : va_E) : Prop :=
  ∀ sz, Met l y (wsM y M) M.2.2.2.2 (PcN D tys o As e0 sz) (va_Qv (CNp mini o sz) (fun b t => va_P D vwCl (wsOf mini b Vp) t.heap) (rgO o sz)) M.2.2.2.2.cells M.2.2.2.2.slots (rgO o sz)
def QN (D : va_G) (mini : Lay) (Vp : Mem) (o : Nat) (M : MInf) (x : Ctx) : Prop :=
  match x with
  | (_, _, s, _, args, below, meth, _, cells, slots, Q, A) => (cells = 0 ∧ slots = 0) ∧ meth.name = "<init>" ∧ Nst s ∧ A = rgO o s.heap.size ∧ Q = MQ below (va_Qv (CNp mini o s.heap.size) (fun b t => va_P D vwCl (wsOf mini b Vp) t.heap) A) args s M.2.2.2.2.cells M.2.2.2.2.slots A
def nst (x : Ctx) : Prop := match x with
  | (_, _, s, _, _, _, _, _, _, _, _, _) => Nst s
theorem QN.zer {D : va_G} {mini : Lay} {Vp : Mem} {o : Nat} {M : MInf} {x : Ctx} (h : QN D mini Vp o M x) : zer x := by
  obtain ⟨p, e, s, m, args, below, meth, c, cells, slots, Q, A⟩ := x
  exact h.1
theorem QN.ini {D : va_G} {mini : Lay} {Vp : Mem} {o : Nat} {M : MInf} {x : Ctx} (h : QN D mini Vp o M x) : ini x := by
  obtain ⟨p, e, s, m, args, below, meth, c, cells, slots, Q, A⟩ := x
  exact h.2.1
theorem QN.nst {D : va_G} {mini : Lay} {Vp : Mem} {o : Nat} {M : MInf} {x : Ctx} (h : QN D mini Vp o M x) : nst x := by
  obtain ⟨p, e, s, m, args, below, meth, c, cells, slots, Q, A⟩ := x
  exact h.2.2.1
/-- one entry says no less than another -/
def eqv (e e' : va_E) : Prop := ∀ (D : va_G) (cl : List vw_C) (q : Nat) (H : Heap), va_at D cl (q, e) H → va_at D cl (q, e') H
theorem eqv.of {e e' : va_E} (h : e = e') : eqv e e' := fun _ _ _ _ q => h ▸ q
theorem arrV_congr {c : ClassId} {N : Nat} {f g : Nat → Value} (h : ∀ j, j < N → f j = g j) : arrV c N f = arrV c N g := by
  unfold arrV
  congr 1
  congr 1
  funext j
  exact h j.val j.isLt
theorem eqv.q {c : ClassId} {N : Nat} {f g : Nat → Option Nat} (h : ∀ j, j < N → f j = g j) : eqv (.inl (c, N, .inr (.inr (.inr (.inr f))))) (.inl (c, N, .inr (.inr (.inr (.inr g))))) := fun D cl q H z => by
  have z1 : H[q]? = some (vp_cell c (N, .inr (.inr (.inr (.inr f))))) := z
  show H[q]? = some (vp_cell c (N, .inr (.inr (.inr (.inr g)))))
  rw [z1, vp_cell_q, vp_cell_q]
  exact congrArg some (arrV_congr (fun j hj => by rw [h j hj]))
theorem eqv.i {c : ClassId} {N : Nat} {f g : Nat → Int} (h : ∀ j, j < N → f j = g j) : eqv (arI c N f) (arI c N g) := fun D cl q H z => by
  have z1 : H[q]? = some (vp_cell c (N, .inl (fun j => iN (f j)))) := z
  show H[q]? = some (vp_cell c (N, .inl (fun j => iN (g j))))
  rw [z1, vp_cell_i, vp_cell_i]
  exact congrArg some (arrV_congr (fun j hj => by rw [h j hj]))
/-- calls of a constructor -/
def LkN (own : String) (idx : Nat) (y : MethodName) (M2 : MInf) (n : Nat) : Prop := (Cond.methodLink own idx y ∈ gw ∨ ∃ host, ∀ U, Nst U → va_Nw (.methodLinkNest own idx y host) U) ∧ Cond.instanceMethod y ∈ gw ∧ Cond.initialized y.cls ∈ gw ∧ Cond.code y M2.1 M2.2.1 none ∈ gw ∧ M2.2.2.2.1 = none ∧ y.name = "<init>" ∧ (y.cls ≠ "java/lang/invoke/MethodHandle" ∧ y.cls ≠ "java/lang/invoke/VarHandle" ∧ (parseMethodDescriptor y.desc).map (fun d => d.parameters.length) = some n)
def jE (E : Nat → (Nat → Int) → va_E) (n k : Nat) (mini : Lay) (b : Nat → Nat) : Nat → (Nat → Int) → va_E := fun j r => if j = k then mini.2 b 0 r else if j < n then E j r else mini.2 b (j - n + 1) r
def jA (a : Nat → Nat) (n : Nat) (b : Nat → Nat) : Nat → Nat := fun j => if j < n then a j else b (j - n + 1)
def jV (V : Mem) (n k : Nat) (Vp : Mem) : Mem := fun j => if j = k then Vp 0 else if j < n then V j else Vp (j - n + 1)
/-- new T[n][m]: the outer array and its rows -/
def mA (a : Nat → Nat) (n q : Nat) (r : Nat → Nat) : Nat → Nat := fun j => if j < n then a j else if j = n then q else r (j - n - 1)
def mE (E : Nat → (Nat → Int) → va_E) (n N : Nat) (c : ClassId) (r : Nat → Nat) (v : (Nat → Int) → va_E) : Nat → (Nat → Int) → va_E := fun j w => if j < n then E j w else if j = n then .inl (c, N, .inr (.inr (.inr (.inr (fun i => some (r i)))))) else v w
theorem blindN {D : va_G} {tys : List (ClassId × FieldType)} {o : Nat} {As : List Value} {e0 : va_E} {sz : Nat} : FrameBlind (PcN D tys o As e0 sz) := fun a U g mk q => by
  obtain ⟨q0, q1, qP, qK, qN⟩ := q
  exact ⟨q0, q1, qP, va_K.moved (u := U) (U := U.calling g mk a) (Vm.Alike.refl U.vm) qK, qN.same rfl⟩
section GO
variable {l : Launch} {D : va_G} {tys : List (ClassId × FieldType)} {L : Lay} {a : Nat → Nat} {M : MInf} {x : Ctx} {pc : Nat} {lv lv' : List (Nat × Value)} {st : List Value} {V : Mem} {E : Nat → (Nat → Int) → va_E} {n c0 s0 : Nat} {τ : Nat → ClassId}
theorem CN.of {y : MethodName} {o : Nat} {As : List Value} {e0 : va_E} {mini : Lay} {Vp : Mem} (hy : plainName y.cls = true) (hown : y.cls = M.2.2.1) (hi : y.name = "<init>") (hlen : (lg_sl (.ref o :: As)).length ≤ M.2.1) (body : ∀ x, QN D mini Vp o M x → G l D tys (cE 1 (fun _ _ => e0)) (fun _ => o) M (bmp x 0 0) 0 (lv_args 0 (.ref o :: As)) [] Z0) : CN l D tys mini Vp y M o As e0 := by
  intro sz
  refine Met.ofW (cc := M.1) (maxL := M.2.1) (ret := M.2.2.2.1) hy rfl ?_
  intro p e s m args below meth c s₁ B hml hv
  obtain ⟨rfl, hsz, hP, hK, hN⟩ := hv
  subst hsz
  have hl := lv_entry (.ref o :: As) (n := M.2.1) hlen
  rw [lg_entry_eq]
  have hin : meth.name = "<init>" := (name_of_methodNamed B.named B.method).1.trans hi
  refine body (p, e, s, m, (.ref o :: As).toArray, below, meth, c, 0, 0, _, rgO o s.heap.size) ⟨⟨rfl, rfl⟩, hin, hN, rfl, rfl⟩ ⟨B.exec, B.bytes, hml, hown ▸ findClass_of_methodNamed B.named, fun w hw => atoms_spec (ws := wsM y M) B.pre w (List.mem_cons_of_mem _ hw), hK, ?_, fun k hk => Or.inl rfl, fun q h => Or.inr h, B.returns, B.notSynchronized, Nat.zero_le _, Nat.zero_le _⟩ _ _ _ hl ?_ va_S.rf
  · intro i j hi hj _
    have hi' : i < 1 := hi
    have hj' : j < 1 := hj
    omega
  · rw [wsP]
    intro k hk
    exact hP
theorem g_retN {o : Nat} {mini : Lay} {Vp : Mem} (hq : QN D mini Vp o M x) (hc : c0 = M.2.2.2.2.cells ∧ s0 = M.2.2.2.2.slots) (hn : mini.1 = n) (hn0 : 0 < n) (h0 : a 0 = o) (hE : ∀ k, k < n → eqv (E k (V k)) (mini.2 a k (Vp k))) (hr : M.2.2.2.1 = none) (d : decode M.1 pc = .ok (.return_, 1)) : G l D tys (cE n E) a M (bmp x c0 s0) pc lv [] V := by
  obtain ⟨p, e, s, m, args, below, meth, c, cells, slots, Q, A⟩ := x
  obtain ⟨⟨rfl, rfl⟩, -, -, hA, rfl⟩ := hq
  obtain ⟨rfl, rfl⟩ := hc
  refine fun cx ls H locs hl hP hS => ?_
  rw [Nat.zero_add, Nat.zero_add]
  have hap : Apart mini a := fun i j hi hj => cx.2.2.2.2.2.2.1 i j (show i < n from hn ▸ hi) (show j < n from hn ▸ hj)
  refine W.vret cx.1 cx.2.1 (cx.2.2.2.2.2.2.2.2.2.1.trans hr) (fun t ht _ => ⟨⟨a, rfl, ⟨h0, fun k h1 h2 => ?_, hap⟩, ?_⟩, hS.F ht⟩) hS.2.2 d cx.2.2.2.2.2.2.2.2.2.2.1
  · have := cx.2.2.2.2.2.2.2.1 k (show k < n from hn ▸ h2)
    rw [hA] at this
    rcases this with q | q
    · exact absurd (cx.2.2.2.2.2.2.1 k 0 (show k < n from hn ▸ h2) (show 0 < n from hn0) (q.trans h0.symm)) (by omega)
    · exact q
  · show va_P D vwCl (wsOf mini a Vp) t.heap
    rw [ht]
    rw [wsP] at hP ⊢
    intro k hk
    exact hE k (hn ▸ hk) D vwCl (a k) H (hP k (show k < n from hn ▸ hk))
theorem g_ctor {mini : Lay} {Vp : Mem} {y : MethodName} {M2 : MInf} {idx nA : Nat} {e0 : va_E} (k : Nat) (As : List Value) {st0 : List Value} (q0 : zer x) (q1 : nst x) (hM : CN l D tys mini Vp y M2 (a k) As e0) (hk : k < n) (hE : E k (V k) = e0) (hl0 : LkN M.2.2.1 idx y M2 nA) (hrm : M2.2.2.2.2.frames + 1 ≤ M.2.2.2.2.frames ∧ 8 + (M2.2.1 + 11) + M2.2.2.2.2.locals ≤ M.2.2.2.2.locals) (hc : c0 + M2.2.2.2.2.cells ≤ M.2.2.2.2.cells ∧ s0 + M2.2.2.2.2.slots ≤ M.2.2.2.2.slots) (hpos : 1 ≤ mini.1) (hn : As.length = nA) (hst : (st.map fun v => v.category).sum ≤ 8) (d : decode M.1 pc = .ok (.invokespecial idx, 3)) (hs0 : st0 = As.reverse ++ .ref (a k) :: st)
    (kk : ∀ b, b 0 = a k → G l D tys (cE (n + (mini.1 - 1)) (jE E n k mini b)) (jA a n b) M (bmp x (c0 + M2.2.2.2.2.cells) (s0 + M2.2.2.2.2.slots)) (pc + 3) lv st (jV V n k Vp)) : G l D tys (cE n E) a M (bmp x c0 s0) pc lv st0 V := by
  obtain ⟨p, e, s, m, args, below, meth, c, cells, slots, Q, A⟩ := x
  obtain ⟨rfl, rfl⟩ := q0
  subst hs0
  refine fun cx ls H locs hl hP hS => ?_
  obtain ⟨hlk, hin, hini, hcode, hret, hyn, hd⟩ := hl0
  have hat : va_at D vwCl (a k, e0) H := by
    have := wsP.mp hP k hk
    rw [show (cE n E).2 a k (V k) = e0 from hE] at this
    exact this
  have hlt : ∀ j, j < n → a j < H.size := fun j hj => P_lt hP (k := j) hj
  have hpre : PreS s H (PcN D tys (a k) As e0 H.size) (.ref (a k) :: As) := ⟨blindN, fun U hU hW => ⟨rfl, by rw [hU], by rw [hU]; exact hat, va_K.moved hW.alike cx.2.2.2.2.2.1, Nst.moved hW q1⟩⟩
  have hgood : GoodIn gw (wsM y M2) := good_sub fun w hw => by
    rcases List.mem_cons.mp hw with rfl | hw
    · rw [hret]; exact hcode
    · exact hw
  have hrun : va_Run p l e M.2.2.2.2 s m args below meth c H locs (0 + c0) (0 + s0) M2.2.2.2.2.cells M2.2.2.2.2.slots (F0 m pc ls (As.reverse ++ .ref (a k) :: st)) st (va_Qv (CNp mini (a k) H.size) (fun b t => va_P D vwCl (wsOf mini b Vp) t.heap) (rgO (a k) H.size) (Value.ref (a k) :: As).toArray) (rgO (a k) H.size) := by
    rcases hlk with hlk | ⟨host, hlk⟩
    · exact va_runI (As := As) (rest := st) ⟨cx.1, cx.2.1, cx.2.2.1, cx.2.2.2.1, cx.2.2.2.2.1⟩ (hM H.size) (cwI nA cx.2.2.2.2.1 hgood (by rw [wsM, hret]) rfl rfl (cx.2.2.2.2.1 _ hini) (cx.2.2.2.2.1 _ hlk) (cx.2.2.2.2.1 _ hin) hyn hd hrm) hpre rfl hn hl.1 rfl (lv_room hst) d ⟨by omega, by omega⟩
    · exact va_runIN (As := As) (rest := st) ⟨cx.1, cx.2.1, cx.2.2.1, cx.2.2.2.1, cx.2.2.2.2.1⟩ (hM H.size) ⟨va_cnB nA cx.2.2.2.2.1 hgood (by rw [wsM, hret]) rfl rfl (hlk s q1) (cx.2.2.2.2.1 _ hini) hd hrm, hyn, cx.2.2.2.2.1 _ hin⟩ hpre rfl hn hl.1 rfl (lv_room hst) d ⟨by omega, by omega⟩
  have hsz := hS.1
  have hfree : ∀ q, rgO (a k) H.size q → A q := fun q h => by
    rcases h with h | h
    · rw [h]; exact cx.2.2.2.2.2.2.2.1 k hk
    · exact cx.2.2.2.2.2.2.2.2.1 q (by omega)
  refine va_callv hrun hS (fun q _ h => hfree q h) hfree (fun b t H1 locs1 ht hvm hw hB hz1 hk1 hS1 => ?_)
  obtain ⟨hb0, hbf, hba⟩ := hw
  rw [ht] at hB
  have hP' := wsP.mp hP
  have hB' := wsP.mp hB
  rw [Nat.add_assoc, Nat.add_assoc]
  refine kk b hb0 ⟨cx.1, cx.2.1, cx.2.2.1, cx.2.2.2.1, cx.2.2.2.2.1, cx.2.2.2.2.2.1, ?_, ?_, cx.2.2.2.2.2.2.2.2.1, cx.2.2.2.2.2.2.2.2.2.1, cx.2.2.2.2.2.2.2.2.2.2.1, by show 0 + (c0 + M2.2.2.2.2.cells) ≤ _; omega, by show 0 + (s0 + M2.2.2.2.2.slots) ≤ _; omega⟩ ls H1 locs1 hl ?_ hS1
  · intro i j hi hj e
    have hi' : i < n + (mini.1 - 1) := hi
    have hj' : j < n + (mini.1 - 1) := hj
    unfold jA at e
    by_cases c1 : i < n <;> by_cases c2 : j < n
    · rw [if_pos c1, if_pos c2] at e; exact cx.2.2.2.2.2.2.1 i j c1 c2 e
    · rw [if_pos c1, if_neg c2] at e
      have := hlt i c1
      have := hbf (j - n + 1) (by omega) (by omega)
      omega
    · rw [if_neg c1, if_pos c2] at e
      have := hlt j c2
      have := hbf (i - n + 1) (by omega) (by omega)
      omega
    · rw [if_neg c1, if_neg c2] at e
      have := hba (i - n + 1) (j - n + 1) (by omega) (by omega) e
      omega
  · intro j hj
    have hj' : j < n + (mini.1 - 1) := hj
    unfold jA
    by_cases c1 : j < n
    · rw [if_pos c1]; exact cx.2.2.2.2.2.2.2.1 j c1
    · rw [if_neg c1]
      have := hbf (j - n + 1) (by omega) (by omega)
      exact cx.2.2.2.2.2.2.2.2.1 _ (by omega)
  · rw [wsP]
    intro j hj
    have hj' : j < n + (mini.1 - 1) := hj
    show va_at D vwCl (jA a n b j, jE E n k mini b j (jV V n k Vp j)) H1
    unfold jA jE jV
    by_cases c0 : j = k
    · subst c0
      rw [if_pos rfl, if_pos rfl, if_pos hk, ← hb0]
      exact hB' 0 (by omega)
    · rw [if_neg c0, if_neg c0]
      by_cases c1 : j < n
      · rw [if_pos c1, if_pos c1, if_pos c1]
        have h := hP' j c1
        refine va_at.kept h (hk1 _ h.lt ?_)
        rintro (q | q)
        · exact c0 (cx.2.2.2.2.2.2.1 j k c1 hk q)
        · have : a j < H.size := h.lt
          have q' : H.size ≤ a j := q
          omega
      · rw [if_neg c1, if_neg c1, if_neg c1]
        exact hB' (j - n + 1) (by omega)
theorem g_newQ {t N idx : Nat} {C : String} {cA : ClassId} (q0 : zer x) (q1 : nst x) (hov : ∀ U, Nst U → aov (.object C) U) (ht : tys[t]? = some (cA, .object C)) (hw : Cond.classLink M.2.2.1 idx C ∈ gw) (hN : N ≤ 1000) (hR : c0 + 1 ≤ M.2.2.2.2.cells ∧ s0 + N ≤ M.2.2.2.2.slots) (d : decode M.1 pc = .ok (.anewarray idx, 3))
    (kk : ∀ q, G l D tys (cE (n + 1) (upf E n (fun _ => .inl (cA, N, .inr (.inr (.inr (.inr (fun _ => none)))))))) (upf a n q) M (bmp x (c0 + 1) (s0 + N)) (pc + 3) lv (.ref q :: st) V) : G l D tys (cE n E) a M (bmp x c0 s0) pc lv (.int (iN (N : Int)) :: st) V := by
  obtain ⟨p, e, s, m, args, below, meth, c, cells, slots, Q, A⟩ := x
  obtain ⟨rfl, rfl⟩ := q0
  refine fun cx ls H locs hl hP hS => ?_
  have hcl : (iN (N : Int)).toNatClampNeg = N := iN_clamp (by omega)
  refine W.anew cx.1 cx.2.1 cx.2.2.2.1 (cx.2.2.2.2.1 _ hw) (aov_use (hov s q1)) (g := F0 m pc ls (.int (iN (N : Int)) :: st)) rfl d rfl (by rw [iN_nI]; exact nI_pos (by omega)) (by rw [hcl]; omega) (by show 0 + c0 + 1 ≤ _; omega) (by rw [hcl]; show 0 + s0 + N ≤ _; omega) (fun cA' kA comp f1 f2 f3 f4 => ?_)
  obtain ⟨kA2, comp2, g1, g2, g3, g4⟩ := (cx.2.2.2.2.2.1.2 t _ ht).2
  have ec : cA' = cA := Option.some.inj (f1.symm.trans g4)
  subst ec
  rw [hcl]
  generalize hH1 : H.push ({ cls := cA', slots := Array.replicate N .null, vm := .none } : Cell) = H1
  have z1 : H1.size = H.size + 1 := by rw [← hH1, Array.size_push]
  have e1 : H1[H.size]? = some (arrV cA' N (fun _ => .null)) := by rw [← hH1, Array.getElem?_push_size, ← arrV_new]
  have o1 : ∀ q : Nat, q < H.size → H1[q]? = H[q]? := fun q hq => by rw [← hH1, Array.getElem?_push, if_neg (Nat.ne_of_lt hq)]
  have hsz := hS.1
  rw [Nat.add_assoc 0 s0 N]
  refine kk H.size ⟨cx.1, cx.2.1, cx.2.2.1, cx.2.2.2.1, cx.2.2.2.2.1, cx.2.2.2.2.2.1, grow_A cx.2.2.2.2.2.2.1 (fun k hk => Nat.ne_of_lt (P_lt hP (k := k) hk)), fun k hk => ?_, cx.2.2.2.2.2.2.2.2.1, cx.2.2.2.2.2.2.2.2.2.1, cx.2.2.2.2.2.2.2.2.2.2.1, by show 0 + (c0 + 1) ≤ _; omega, by show 0 + (s0 + N) ≤ _; omega⟩ ls H1 locs hl (grow_P hP (fun r hr => o1 r hr) (by
      show H1[H.size]? = some (vp_cell cA' _)
      rw [vp_cell_q]; exact e1)) ⟨by omega, fun q h1 h2 => (o1 q (by omega)).trans (hS.2.1 q h1 h2), hS.2.2⟩
  by_cases e : k = n
  · subst e; rw [upf_eq]; exact cx.2.2.2.2.2.2.2.2.1 _ hsz
  · rw [upf_ne e]; exact cx.2.2.2.2.2.2.2.1 k (by have hk' : k < n + 1 := hk; show k < n; omega)
theorem g_astQ {t N ci i : Nat} {cA : ClassId} {r : vw_C} {vs : List Value} {f : Nat → Option Nat} (k kv : Nat) (ht : tys[t]? = some (cA, .object r.1)) (hc : vwCl[ci]? = some r) (hk : k < n) (hkv : kv < n) (hE : E k (V k) = .inl (cA, N, .inr (.inr (.inr (.inr f))))) (hEv : E kv (V kv) = .inr (ci, vs)) (hi : i < N) (hN : N ≤ 1000) (d : decode M.1 pc = .ok (.aastore, 1))
    (kk : G l D tys (cE n (upf E k (fun _ => .inl (cA, N, .inr (.inr (.inr (.inr (va_up f i (some (a kv))))))))) ) a M (bmp x c0 s0) (pc + 1) lv st V) : G l D tys (cE n E) a M (bmp x c0 s0) pc lv (.ref (a kv) :: .int (iN (i : Int)) :: .ref (a k) :: st) V := by
  obtain ⟨p, e, s, m, args, below, meth, c, cells, slots, Q, A⟩ := x
  refine fun cx ls H locs hl hP hS => ?_
  have he : (wsOf (cE n E) a V)[k]? = some (a k, .inl (cA, N, .inr (.inr (.inr (.inr f))))) := by rw [wsOf_at (show k < (cE n E).1 from hk)]; show some (a k, E k (V k)) = _; rw [hE]
  have hev : (wsOf (cE n E) a V)[kv]? = some (a kv, .inr (ci, vs)) := by rw [wsOf_at (show kv < (cE n E).1 from hkv)]; show some (a kv, E kv (V kv)) = _; rw [hEv]
  refine va_astq cx.1 cx.2.1 cx.2.2.2.2.2.1 hP (wsOf_D cx.2.2.2.2.2.2.1 cx.2.2.2.2.2.2.2.1) hS k t kv ci he ht hev hc (iN_in hi (by omega)) d (fun H1 locs1 hP1 _ hS1 => ?_)
  rw [iN_clamp (by omega), show (wsOf (cE n E) a V).set k (a k, .inl (cA, N, .inr (.inr (.inr (.inr (va_up f i (some (a kv)))))))) = wsOf (cE n (upf E k (fun _ => .inl (cA, N, .inr (.inr (.inr (.inr (va_up f i (some (a kv)))))))))) a V from wsOf_upE (v := fun _ => .inl (cA, N, .inr (.inr (.inr (.inr (va_up f i (some (a kv)))))))) hk] at hP1
  exact kk ⟨cx.1, cx.2.1, cx.2.2.1, cx.2.2.2.1, cx.2.2.2.2.1, cx.2.2.2.2.2.1, cx.2.2.2.2.2.2.1, cx.2.2.2.2.2.2.2⟩ ls H1 locs1 hl hP1 hS1
theorem outer_eq (c : ClassId) (N h0 : Nat) : ∀ i : Nat, Jvm.Free.Multi.outerC c N h0 i = arrV c N (fun j => va_rf (if j < i then some (h0 + 1 + j) else none))
  | 0 => by
    show ({ cls := c, slots := Array.replicate N .null, vm := .none } : Cell) = _
    rw [arrV_new]
    exact congrArg (arrV c N) (funext fun j => by simp [va_rf])
  | i + 1 => by
    show (Jvm.Free.Multi.outerC c N h0 i).setSlot i (.ref (h0 + 1 + i)) = _
    rw [outer_eq c N h0 i, arrV_store]
    refine congrArg (arrV c N) (funext fun j => ?_)
    by_cases e : j = i
    · subst e
      simp [updV, va_rf]
    · by_cases h : j < i
      · simp [updV, e, h, Nat.lt_succ_of_lt h]
      · simp [updV, e, h, show ¬ j < i + 1 by omega]
theorem g_mna {t t1 N K idx : Nat} {ty : FieldType} {cA cy : ClassId} {v : (Nat → Int) → va_E} (q0 : zer x) (q1 : nst x) (hov : ∀ U, Nst U → aov (.array ty) U) (hno : ∀ C, ty ≠ .object C) (ht : tys[t]? = some (cA, .array ty)) (ht1 : tys[t1]? = some (cy, ty)) (hstr : (FieldType.array ty).toString = "[" ++ ty.toString) (hw : Cond.classLink M.2.2.1 idx ("[" ++ (FieldType.array ty).toString) ∈ gw ∧ Cond.arrayClass ty ∈ gw) (hN : N ≤ 1000 ∧ K ≤ 1000) (hby : K * componentBytes ty ≤ 536870912) (hdf : fits ty (defaultValue ty) = true) (hdd : (defaultValue ty).isDefault = true) (hv : ∀ j, n < j → ∃ z : vp_A, v (V j) = .inl (cy, z) ∧ vp_cell cy z = Jvm.Free.Multi.innerC cy K (defaultValue ty)) (hR : c0 + (1 + N) ≤ M.2.2.2.2.cells ∧ s0 + (N + N * K) ≤ M.2.2.2.2.slots) (d : decode M.1 pc = .ok (.multianewarray idx 2, 4))
    (kk : ∀ q r, G l D tys (cE (n + (1 + N)) (mE E n N cA r v)) (mA a n q r) M (bmp x (c0 + (1 + N)) (s0 + (N + N * K))) (pc + 4) lv (.ref q :: st) V) : G l D tys (cE n E) a M (bmp x c0 s0) pc lv (.int (iN (K : Int)) :: .int (iN (N : Int)) :: st) V := by
  obtain ⟨p, e, s, m, args, below, meth, c, cells, slots, Q, A⟩ := x
  obtain ⟨rfl, rfl⟩ := q0
  refine fun cx ls H locs hl hP hS => ?_
  have hcN : (iN (N : Int)).toNatClampNeg = N := iN_clamp (by omega)
  have hcK : (iN (K : Int)).toNatClampNeg = K := iN_clamp (by omega)
  intro T hT Xs
  obtain ⟨vm₁, cA', comp, -, fA, fC, -, -, X', step⟩ := Xs.multianewarray2F cx.1 cx.2.2.2.1 (cx.2.2.2.2.1 _ hw.1) (aov_use (hov s q1)) (cx.2.2.2.2.1 _ hw.2) (g := F0 m pc ls (.int (iN (K : Int)) :: .int (iN (N : Int)) :: st)) rfl (by rw [cx.2.1]; exact d) rfl (by rw [iN_nI]; exact nI_pos (by omega)) (by rw [iN_nI]; exact nI_pos (by omega)) (by rw [hcN]; omega) (by rw [hcK]; exact hby) (by rw [hcK]; omega) hdf hdd (by rw [hcN]; show 0 + c0 + (1 + N) ≤ _; omega) (by rw [hcN, hcK]; show 0 + s0 + (N + N * K) ≤ _; omega)
  rw [hcN, hcK] at X' step
  have e1 : cA' = cA := Option.some.inj (fA.symm.trans (ty_cls cx.2.2.2.2.2.1 ht (fun C h => by cases h)))
  have e2 : comp = cy := Option.some.inj (fC.symm.trans (by rw [hstr]; exact ty_cls cx.2.2.2.2.2.1 ht1 hno))
  subst e1 e2
  obtain ⟨f1, f2, -, -⟩ := Jvm.Free.Multi.fill_facts (T.setVm vm₁) cA' comp N K (defaultValue ty) N
  have hold : ∀ x : Nat, x < H.size → (Jvm.Free.Multi.fill (T.setVm vm₁) cA' comp N K (defaultValue ty) N).heap[x]? = H[x]? := fun x hx => by
    have := Jvm.Free.Multi.fill_old (T.setVm vm₁) cA' comp N K (defaultValue ty) (a := x) (by show x < T.heap.size; rw [hT]; exact hx) N
    rw [this]; show T.heap[x]? = _; rw [hT]
  have hrow : ∀ j : Nat, j < N → (Jvm.Free.Multi.fill (T.setVm vm₁) cA' comp N K (defaultValue ty) N).heap[H.size + 1 + j]? = some (Jvm.Free.Multi.innerC comp K (defaultValue ty)) := fun j hj => by
    have := Jvm.Free.Multi.fill_inner (T.setVm vm₁) cA' comp N K (defaultValue ty) N j hj
    rw [← this]; show _ = (Jvm.Free.Multi.fill (T.setVm vm₁) cA' comp N K (defaultValue ty) N).heap[T.heap.size + 1 + j]?; rw [hT]
  have hTs : (T.setVm vm₁).heap.size = H.size := by show T.heap.size = _; rw [hT]
  rw [hTs] at f1 f2
  rw [outer_eq] at f2
  have hsz := hS.1
  have hlt : ∀ j, j < n → a j < H.size := fun j hj => P_lt hP (k := j) hj
  generalize hF : Jvm.Free.Multi.fill (T.setVm vm₁) cA' comp N K (defaultValue ty) N = F at X' step f1 f2 hold hrow
  have goal : W p l e M.2.2.2.2 s m args below meth c F.heap locs (0 + c0 + 1 + N) (0 + s0 + N + N * K) Q (F0 m (pc + 4) ls (.ref H.size :: st)) := by
    rw [show 0 + c0 + 1 + N = 0 + (c0 + (1 + N)) by omega, show 0 + s0 + N + N * K = 0 + (s0 + (N + N * K)) by omega]
    refine kk H.size (fun j => H.size + 1 + j) ⟨cx.1, cx.2.1, cx.2.2.1, cx.2.2.2.1, cx.2.2.2.2.1, cx.2.2.2.2.2.1, ?_, ?_, cx.2.2.2.2.2.2.2.2.1, cx.2.2.2.2.2.2.2.2.2.1, cx.2.2.2.2.2.2.2.2.2.2.1, by show 0 + (c0 + (1 + N)) ≤ _; omega, by show 0 + (s0 + (N + N * K)) ≤ _; omega⟩ ls F.heap locs hl ?_ ⟨by omega, fun q h1 h2 => (hold q (by omega)).trans (hS.2.1 q h1 h2), hS.2.2⟩
    · intro i j hi hj e
      have hi' : i < n + (1 + N) := hi
      have hj' : j < n + (1 + N) := hj
      unfold mA at e
      by_cases c1 : i < n <;> by_cases c2 : j < n
      · rw [if_pos c1, if_pos c2] at e; exact cx.2.2.2.2.2.2.1 i j c1 c2 e
      · rw [if_pos c1, if_neg c2] at e
        have := hlt i c1
        by_cases c3 : j = n
        · rw [if_pos c3] at e; omega
        · rw [if_neg c3] at e; dsimp only at e; omega
      · rw [if_neg c1, if_pos c2] at e
        have := hlt j c2
        by_cases c3 : i = n
        · rw [if_pos c3] at e; omega
        · rw [if_neg c3] at e; dsimp only at e; omega
      · rw [if_neg c1, if_neg c2] at e
        by_cases c3 : i = n <;> by_cases c4 : j = n
        · omega
        · rw [if_pos c3, if_neg c4] at e; dsimp only at e; omega
        · rw [if_neg c3, if_pos c4] at e; dsimp only at e; omega
        · rw [if_neg c3, if_neg c4] at e; dsimp only at e; omega
    · intro j hj
      unfold mA
      by_cases c1 : j < n
      · rw [if_pos c1]; exact cx.2.2.2.2.2.2.2.1 j c1
      · rw [if_neg c1]
        by_cases c3 : j = n
        · rw [if_pos c3]; exact cx.2.2.2.2.2.2.2.2.1 _ hsz
        · rw [if_neg c3]; exact cx.2.2.2.2.2.2.2.2.1 _ (show s.heap.size ≤ H.size + 1 + (j - n - 1) by omega)
    · rw [wsP]
      intro j hj
      have hj' : j < n + (1 + N) := hj
      show va_at D vwCl (mA a n H.size (fun j => H.size + 1 + j) j, mE E n N cA' (fun j => H.size + 1 + j) v j (V j)) F.heap
      unfold mA mE
      by_cases c1 : j < n
      · rw [if_pos c1, if_pos c1]
        have h := wsP.mp hP j c1
        exact va_at.kept h (hold _ h.lt)
      · rw [if_neg c1, if_neg c1]
        by_cases c3 : j = n
        · rw [if_pos c3, if_pos c3]
          show F.heap[H.size]? = some (vp_cell cA' _)
          rw [f2, vp_cell_q]
          exact congrArg some (arrV_congr (fun i hi => by rw [if_pos hi]))
        · rw [if_neg c3, if_neg c3]
          obtain ⟨z, hz1, hz2⟩ := hv j (by omega)
          rw [hz1]
          show F.heap[H.size + 1 + (j - n - 1)]? = some (vp_cell comp z)
          rw [hz2]
          exact hrow _ (by omega)
  obtain ⟨t', a1, b1⟩ := goal F rfl X'
  refine ⟨t', step t' ?_, b1⟩
  rw [show T.heap.size = H.size by rw [hT]]
  exact a1
end GO
