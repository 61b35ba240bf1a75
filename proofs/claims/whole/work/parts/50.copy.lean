/-! System.arraycopy of ints from place 0 to place 0 -/
def LkC (own : String) (idx : Nat) : Prop := Cond.methodLink own idx arraycopyName ∈ gw ∧ Cond.native arraycopyName ∈ gw ∧ Cond.static arraycopyName ∈ gw ∧ Cond.initialized "java/lang/System" ∈ gw
def cpyM (V : Mem) (k0 k1 n : Nat) : Mem := fun c j => if c = k1 ∧ j < n then V k0 j else V c j
theorem cpyM_ne {V : Mem} {k0 k1 n c : Nat} (h : c ≠ k1) : cpyM V k0 k1 n c = V c := funext fun j => if_neg (fun q => h q.1)
theorem cpyM_in {V : Mem} {k0 k1 n j : Nat} (h : j < n) : cpyM V k0 k1 n k1 j = V k0 j := if_pos ⟨rfl, h⟩
theorem g_copy {l : Launch} {D : va_G} {tys : List (ClassId × FieldType)} {L : Lay} {a : Nat → Nat} {M : MInf} {x : Ctx} {pc : Nat} {lv : List (Nat × Value)} {st : List Value} {V : Mem} {idx : Nat} (k0 k1 n : Nat) {n0 n1 : Nat} (hk : LkC M.2.2.1 idx) (h0 : ArI L a tys k0 n0) (h1 : ArI L a tys k1 n1) (hne : k0 ≠ k1) (hn0 : n ≤ n0) (hn1 : n ≤ n1) (hR : 1 ≤ M.2.2.2.2.frames ∧ 8 + (nativeFrameWords "java/lang/System" "arraycopy" 5 + 11) ≤ M.2.2.2.2.locals) (hst : (st.map fun v => v.category).sum ≤ 8) (d : decode M.1 pc = .ok (.invokestatic idx, 3)) (kk : G l D tys L a M x (pc + 3) lv st (cpyM V k0 k1 n)) : G l D tys L a M x pc lv (.int (iN (n : Int)) :: .int (iN 0) :: .ref (a k1) :: .int (iN 0) :: .ref (a k0) :: st) V := by
  obtain ⟨p, e, s, m, args, below, meth, c, cells, slots, Q, A⟩ := x
  obtain ⟨c1, c2, c3, c4⟩ := hk
  obtain ⟨hk0, hm0, cA0, t0, ht0, hs0⟩ := h0
  obtain ⟨hk1, hm1, cA1, t1, ht1, hs1⟩ := h1
  have e0 : (iN 0).toNatClampNeg = 0 := by decide
  have en : (iN (n : Int)).toNatClampNeg = n := iN_clamp (by omega)
  have hnn : ¬ iN (n : Int) < 0 := fun q => by
    have : iN (n : Int) < iN 0 := q
    rw [iN_lt (by omega) (by omega)] at this
    omega
  refine fun cx ls H locs hl hP hS => va_copyi (f := fun j => iN (V k0 j)) (g := fun j => iN (V k1 j)) (ty := .int) cx.1 cx.2.1 (cx.2.2.1.trans hl.1.symm) cx.2.2.2.1 (cx.2.2.2.2.1 _ c1) (cx.2.2.2.2.1 _ c2) (cx.2.2.2.2.1 _ c3) (cx.2.2.2.2.1 _ c4) cx.2.2.2.2.2.1 hP (wsOf_D cx.2.2.2.2.2.2.1 cx.2.2.2.2.2.2.2.1) hS k0 k1 t0 t1 (by rw [wsOf_at hk0, hs0]) (by rw [wsOf_at hk1, hs1]) ht0 ht1 rfl (by decide) (by decide) hnn (by rw [e0, en]; omega) (by rw [e0, en]; omega) (fun i _ => rfl) hR.1 (by omega) d (fun H1 locs1 hP1 hD1 hS1 => ?_)
  have hc : va_cpy (fun j => iN (V k0 j)) (fun j => iN (V k1 j)) (iN 0).toNatClampNeg (iN 0).toNatClampNeg (iN (n : Int)).toNatClampNeg = fun j => iN (cpyM V k0 k1 n k1 j) := funext fun j => by
    rw [e0, en]
    unfold va_cpy cpyM
    by_cases hj : j < n
    · simp [hj]
    · simp [hj]
  rw [hc, wsOf_set (V' := cpyM V k0 k1 n) (by rw [hs1]) (fun c9 h9 => cpyM_ne h9)] at hP1
  exact kk cx ls H1 locs1 hl hP1 hS1
/-- one trip of a row put in order -/
def arrSeg (ht x y : Nat → Int) (np : Int) (cr n tr : Nat) (f f' : Nat → Int) : Prop := ∃ g, isArr ht x y np (fun i => f (tr * cr + i)) g (min cr (n - tr * cr)) ∧ ∀ j, f' j = if tr * cr ≤ j ∧ j < tr * cr + min cr (n - tr * cr) then g (j - tr * cr) else f j
theorem isArr_unique {ht x y : Nat → Int} {np : Int} {f g g' : Nat → Int} {sz : Nat} (h : isArr ht x y np f g sz) (h' : isArr ht x y np f g' sz) : ∀ i, i < sz → g i = g' i := by
  obtain ⟨q, h1, h2⟩ := h
  obtain ⟨q', h1', h2'⟩ := h'
  intro i hi
  rw [h2 i hi, h2' i hi, tOrd_unique h1 h1' i hi]
theorem arrSeg_unique {ht x y : Nat → Int} {np : Int} {cr n tr : Nat} {f f1 f2 : Nat → Int} (h : arrSeg ht x y np cr n tr f f1) (h' : arrSeg ht x y np cr n tr f f2) : f1 = f2 := by
  obtain ⟨g, h1, h2⟩ := h
  obtain ⟨g', h1', h2'⟩ := h'
  funext j
  rw [h2, h2']
  split
  · rename_i hj
    exact isArr_unique h1 h1' _ (by omega)
  · rfl
/-- two places exchanged -/
def swp (f : Nat → Int) (i j : Nat) : Nat → Int := up1 (up1 f i (f j)) j (f i)
/-- s drawn anew -/
def lcg (s : Int) : Int := s * 6364136223846793005 + 1442695040888963407
theorem moveT_in {wy : Int → Int → Int} {cr : Nat} {f g : Nat → Int} (h : ∀ p q, 0 ≤ wy p q ∧ wy p q ≤ 100000) (n : Nat) (hn : n ≤ 40) : 0 ≤ moveT wy cr f g n ∧ moveT wy cr f g n ≤ 8101000 := by
  have h1 := mv_in (cr := cr) (f := f) h n
  have h2 := h (if n = 0 then -1 else f (n - 1)) (-1)
  have h3 := chg_in g n
  unfold moveT
  omega
