/-! the JDK's small functions, and bits -/
def LkM (own : String) (idx : Nat) (y : MethodName) (b : ByteArray) (n : Nat) (rt : FieldType) : Prop := Cond.methodLink own idx y ∈ gw ∧ Cond.static y ∈ gw ∧ Cond.initialized "java/lang/Math" ∈ gw ∧ Cond.code y b n (some rt) ∈ gw
theorem iN_if {c : Prop} [Decidable c] {u v w : Int} (h : (if c then v else u) = w) : (if c then iN v else iN u) = iN w := by
  rw [← h]
  split <;> rfl
section GM
variable {l : Launch} {D : va_G} {tys : List (ClassId × FieldType)} {L : Lay} {a : Nat → Nat} {M : MInf} {x : Ctx} {pc : Nat} {lv lv' : List (Nat × Value)} {st : List Value} {V : Mem}
theorem g_mmax {idx : Nat} {u v : Int} (hk : LkM M.2.2.1 idx Lib.Math.max.name Lib.Math.max.code 2 .int) (hR : 1 ≤ M.2.2.2.2.frames ∧ 21 ≤ M.2.2.2.2.locals) (hst : (st.map fun v => v.category).sum ≤ 8) (d : decode M.1 pc = .ok (.invokestatic idx, 3)) (hu : -2147483648 ≤ u ∧ u ≤ 2147483647) (hv : -2147483648 ≤ v ∧ v ≤ 2147483647) (k : G l D tys L a M x (pc + 3) lv (.int (iN (max u v)) :: st) V) : G l D tys L a M x pc lv (.int (iN v) :: .int (iN u) :: st) V := by
  obtain ⟨p, e, s, m, args, below, meth, c, cells, slots, Q, A⟩ := x
  obtain ⟨k1, k2, k3, k4⟩ := hk
  refine fun cx ls H locs hl hP hS => va_mmax cx.1 cx.2.1 (cx.2.2.1.trans hl.1.symm) cx.2.2.2.1 (cx.2.2.2.2.1 _ k1) (cx.2.2.2.2.1 _ k2) (cx.2.2.2.2.1 _ k3) (cx.2.2.2.2.1 _ k4) hR.1 (by omega) cx.2.2.2.2.2.2.2.2.2.2.2.1 cx.2.2.2.2.2.2.2.2.2.2.2.2 d ?_
  have e9 : (if iN u < iN v then iN v else iN u) = iN (max u v) := by
    by_cases h : u < v
    · rw [if_pos ((iN_lt hu hv).mpr h), show max u v = v by omega]
    · rw [if_neg (fun q => h ((iN_lt hu hv).mp q)), show max u v = u by omega]
  rw [e9]
  exact k cx ls H locs hl hP hS
theorem g_mmin {idx : Nat} {u v : Int} (hk : LkM M.2.2.1 idx Lib.Math.min.name Lib.Math.min.code 2 .int) (hR : 1 ≤ M.2.2.2.2.frames ∧ 21 ≤ M.2.2.2.2.locals) (hst : (st.map fun v => v.category).sum ≤ 8) (d : decode M.1 pc = .ok (.invokestatic idx, 3)) (hu : -2147483648 ≤ u ∧ u ≤ 2147483647) (hv : -2147483648 ≤ v ∧ v ≤ 2147483647) (k : G l D tys L a M x (pc + 3) lv (.int (iN (min u v)) :: st) V) : G l D tys L a M x pc lv (.int (iN v) :: .int (iN u) :: st) V := by
  obtain ⟨p, e, s, m, args, below, meth, c, cells, slots, Q, A⟩ := x
  obtain ⟨k1, k2, k3, k4⟩ := hk
  refine fun cx ls H locs hl hP hS => va_mmin cx.1 cx.2.1 (cx.2.2.1.trans hl.1.symm) cx.2.2.2.1 (cx.2.2.2.2.1 _ k1) (cx.2.2.2.2.1 _ k2) (cx.2.2.2.2.1 _ k3) (cx.2.2.2.2.1 _ k4) hR.1 (by omega) cx.2.2.2.2.2.2.2.2.2.2.2.1 cx.2.2.2.2.2.2.2.2.2.2.2.2 d ?_
  have e9 : (if iN v < iN u then iN v else iN u) = iN (min u v) := by
    by_cases h : v < u
    · rw [if_pos ((iN_lt hv hu).mpr h), show min u v = v by omega]
    · rw [if_neg (fun q => h ((iN_lt hv hu).mp q)), show min u v = u by omega]
  rw [e9]
  exact k cx ls H locs hl hP hS
/-- how far from 0 -/
def zabs (u : Int) : Int := if 0 ≤ u then u else -u
theorem g_mabs {idx : Nat} {u : Int} (hk : LkM M.2.2.1 idx Lib.Math.abs.name Lib.Math.abs.code 1 .int) (hR : 1 ≤ M.2.2.2.2.frames ∧ 21 ≤ M.2.2.2.2.locals) (hst : (st.map fun v => v.category).sum ≤ 8) (d : decode M.1 pc = .ok (.invokestatic idx, 3)) (hu : -2147483648 ≤ u ∧ u ≤ 2147483647) (k : G l D tys L a M x (pc + 3) lv (.int (iN (zabs u)) :: st) V) : G l D tys L a M x pc lv (.int (iN u) :: st) V := by
  obtain ⟨p, e, s, m, args, below, meth, c, cells, slots, Q, A⟩ := x
  obtain ⟨k1, k2, k3, k4⟩ := hk
  refine fun cx ls H locs hl hP hS => va_mabs cx.1 cx.2.1 (cx.2.2.1.trans hl.1.symm) cx.2.2.2.1 (cx.2.2.2.2.1 _ k1) (cx.2.2.2.2.1 _ k2) (cx.2.2.2.2.1 _ k3) (cx.2.2.2.2.1 _ k4) hR.1 (by omega) cx.2.2.2.2.2.2.2.2.2.2.2.1 cx.2.2.2.2.2.2.2.2.2.2.2.2 d ?_
  have e9 : (if (0 : Int32) ≤ iN u then iN u else 0 - iN u) = iN (zabs u) := by
    unfold zabs
    show (if iN 0 ≤ iN u then iN u else iN 0 - iN u) = _
    by_cases h : 0 ≤ u
    · rw [if_pos ((iN_le (x := 0) (by omega) hu).mpr h), if_pos h]
    · rw [if_neg (fun q => h ((iN_le (x := 0) (by omega) hu).mp q)), if_neg h]
      rw [iN_sub, show (0 : Int) - u = -u by omega]
  rw [e9]
  exact k cx ls H locs hl hP hS
theorem g_mmaxl {idx : Nat} {u v : Int} (hk : LkM M.2.2.1 idx Lib.MathLoose.max_long.x Lib.MathLoose.max_long.code 4 .long) (hR : 1 ≤ M.2.2.2.2.frames ∧ 23 ≤ M.2.2.2.2.locals) (hst : (st.map fun v => v.category).sum ≤ 8) (d : decode M.1 pc = .ok (.invokestatic idx, 3)) (hu : -9223372036854775808 ≤ u ∧ u ≤ 9223372036854775807) (hv : -9223372036854775808 ≤ v ∧ v ≤ 9223372036854775807) (k : G l D tys L a M x (pc + 3) lv (.long (jN (max u v)) :: st) V) : G l D tys L a M x pc lv (.long (jN v) :: .long (jN u) :: st) V := by
  obtain ⟨p, e, s, m, args, below, meth, c, cells, slots, Q, A⟩ := x
  obtain ⟨k1, k2, k3, k4⟩ := hk
  refine fun cx ls H locs hl hP hS => va_mmax_long cx.1 cx.2.1 (cx.2.2.1.trans hl.1.symm) cx.2.2.2.1 (cx.2.2.2.2.1 _ k1) (cx.2.2.2.2.1 _ k2) (cx.2.2.2.2.1 _ k3) (cx.2.2.2.2.1 _ k4) hR.1 (by omega) cx.2.2.2.2.2.2.2.2.2.2.2.1 cx.2.2.2.2.2.2.2.2.2.2.2.2 d ?_
  have e9 : (if jN v < jN u then jN u else jN v) = jN (max u v) := by
    by_cases h : v < u
    · rw [if_pos ((jN_lt hv hu).mpr h), show max u v = u by omega]
    · rw [if_neg (fun q => h ((jN_lt hv hu).mp q)), show max u v = v by omega]
  rw [e9]
  exact k cx ls H locs hl hP hS
theorem g_ishl {u v : Int} (z : Int) (d : decode M.1 pc = .ok (.ishl, 1)) (hz : iN u <<< (iN v &&& 31) = iN z) (k : G l D tys L a M x (pc + 1) lv (.int (iN z) :: st) V) : G l D tys L a M x pc lv (.int (iN v) :: .int (iN u) :: st) V := by
  obtain ⟨p, e, s, m, args, below, meth, c, cells, slots, Q, A⟩ := x
  exact fun cx ls H locs hl hP hS => lv_ishl cx.1 cx.2.1 d (by rw [hz]; exact k cx ls H locs hl hP hS)
theorem g_ishr {u v : Int} (z : Int) (d : decode M.1 pc = .ok (.ishr, 1)) (hz : iN u >>> (iN v &&& 31) = iN z) (k : G l D tys L a M x (pc + 1) lv (.int (iN z) :: st) V) : G l D tys L a M x pc lv (.int (iN v) :: .int (iN u) :: st) V := by
  obtain ⟨p, e, s, m, args, below, meth, c, cells, slots, Q, A⟩ := x
  exact fun cx ls H locs hl hP hS => lv_ishr cx.1 cx.2.1 d (by rw [hz]; exact k cx ls H locs hl hP hS)
theorem g_iand {u v : Int} (z : Int) (d : decode M.1 pc = .ok (.iand, 1)) (hz : iN u &&& iN v = iN z) (k : G l D tys L a M x (pc + 1) lv (.int (iN z) :: st) V) : G l D tys L a M x pc lv (.int (iN v) :: .int (iN u) :: st) V := by
  obtain ⟨p, e, s, m, args, below, meth, c, cells, slots, Q, A⟩ := x
  exact fun cx ls H locs hl hP hS => lv_iand cx.1 cx.2.1 d (by rw [hz]; exact k cx ls H locs hl hP hS)
theorem g_ior {u v : Int} (z : Int) (d : decode M.1 pc = .ok (.ior, 1)) (hz : iN u ||| iN v = iN z) (k : G l D tys L a M x (pc + 1) lv (.int (iN z) :: st) V) : G l D tys L a M x pc lv (.int (iN v) :: .int (iN u) :: st) V := by
  obtain ⟨p, e, s, m, args, below, meth, c, cells, slots, Q, A⟩ := x
  exact fun cx ls H locs hl hP hS => lv_ior cx.1 cx.2.1 d (by rw [hz]; exact k cx ls H locs hl hP hS)
theorem g_ixor {u v : Int} (z : Int) (d : decode M.1 pc = .ok (.ixor, 1)) (hz : iN u ^^^ iN v = iN z) (k : G l D tys L a M x (pc + 1) lv (.int (iN z) :: st) V) : G l D tys L a M x pc lv (.int (iN v) :: .int (iN u) :: st) V := by
  obtain ⟨p, e, s, m, args, below, meth, c, cells, slots, Q, A⟩ := x
  exact fun cx ls H locs hl hP hS => lv_ixor cx.1 cx.2.1 d (by rw [hz]; exact k cx ls H locs hl hP hS)
theorem g_land {u v : Int} (z : Int) (d : decode M.1 pc = .ok (.land, 1)) (hz : jN u &&& jN v = jN z) (k : G l D tys L a M x (pc + 1) lv (.long (jN z) :: st) V) : G l D tys L a M x pc lv (.long (jN v) :: .long (jN u) :: st) V := by
  obtain ⟨p, e, s, m, args, below, meth, c, cells, slots, Q, A⟩ := x
  exact fun cx ls H locs hl hP hS => lv_land cx.1 cx.2.1 d (by rw [hz]; exact k cx ls H locs hl hP hS)
theorem g_lor {u v : Int} (z : Int) (d : decode M.1 pc = .ok (.lor, 1)) (hz : jN u ||| jN v = jN z) (k : G l D tys L a M x (pc + 1) lv (.long (jN z) :: st) V) : G l D tys L a M x pc lv (.long (jN v) :: .long (jN u) :: st) V := by
  obtain ⟨p, e, s, m, args, below, meth, c, cells, slots, Q, A⟩ := x
  exact fun cx ls H locs hl hP hS => lv_lor cx.1 cx.2.1 d (by rw [hz]; exact k cx ls H locs hl hP hS)
theorem g_lshl {u v : Int} (z : Int) (d : decode M.1 pc = .ok (.lshl, 1)) (hz : jN u <<< ((iN v).toInt64 &&& 63) = jN z) (k : G l D tys L a M x (pc + 1) lv (.long (jN z) :: st) V) : G l D tys L a M x pc lv (.int (iN v) :: .long (jN u) :: st) V := by
  obtain ⟨p, e, s, m, args, below, meth, c, cells, slots, Q, A⟩ := x
  exact fun cx ls H locs hl hP hS => lv_lshl cx.1 cx.2.1 d hz (k cx ls H locs hl hP hS)
theorem g_lushr {u v : Int} (z : Int) (d : decode M.1 pc = .ok (.lushr, 1)) (hz : ((jN u).toUInt64 >>> ((iN v).toInt64.toUInt64 &&& Int64.toUInt64 63)).toInt64 = jN z) (k : G l D tys L a M x (pc + 1) lv (.long (jN z) :: st) V) : G l D tys L a M x pc lv (.int (iN v) :: .long (jN u) :: st) V := by
  obtain ⟨p, e, s, m, args, below, meth, c, cells, slots, Q, A⟩ := x
  exact fun cx ls H locs hl hP hS => lv_lushr cx.1 cx.2.1 d hz (k cx ls H locs hl hP hS)
theorem jN_div {x y : Int} (hx : 0 ≤ x ∧ x ≤ 9223372036854775807) (hy : 0 < y ∧ y ≤ 9223372036854775807) : jN x / jN y = jN (x / y) := by
  obtain ⟨a, rfl⟩ := Int.eq_ofNat_of_zero_le hx.1
  obtain ⟨b, rfl⟩ := Int.eq_ofNat_of_zero_le (Int.le_of_lt hy.1)
  rw [jN_lN, jN_lN, pk_lDiv (by omega) (by omega) (by omega), ← jN_lN]
  rfl
theorem jN_ne0 {y : Int} (hy : 0 < y ∧ y ≤ 9223372036854775807) : ¬ jN y = 0 := by
  intro h
  have : jN y = jN 0 := h
  rw [jN_eq (by omega) (by omega)] at this
  omega
theorem jN_rem {x y : Int} (hx : 0 ≤ x ∧ x ≤ 9223372036854775807) (hy : 0 < y ∧ y ≤ 9223372036854775807) : jN x - jN x / jN y * jN y = jN (x % y) := by
  rw [jN_div hx hy, jN_mul, jN_sub]
  congr 1
  rw [Int.emod_def, Int.mul_comm]
theorem g_ldiv {u v : Int} (d : decode M.1 pc = .ok (.ldiv, 1)) (hu : 0 ≤ u ∧ u ≤ 9223372036854775807) (hv : 0 < v ∧ v ≤ 9223372036854775807) (k : G l D tys L a M x (pc + 1) lv (.long (jN (u / v)) :: st) V) : G l D tys L a M x pc lv (.long (jN v) :: .long (jN u) :: st) V := by
  obtain ⟨p, e, s, m, args, below, meth, c, cells, slots, Q, A⟩ := x
  exact fun cx ls H locs hl hP hS => lv_ldiv cx.1 cx.2.1 d (jN_ne0 hv) (by rw [jN_div hu hv]; exact k cx ls H locs hl hP hS)
theorem g_lrem {u v : Int} (d : decode M.1 pc = .ok (.lrem, 1)) (hu : 0 ≤ u ∧ u ≤ 9223372036854775807) (hv : 0 < v ∧ v ≤ 9223372036854775807) (k : G l D tys L a M x (pc + 1) lv (.long (jN (u % v)) :: st) V) : G l D tys L a M x pc lv (.long (jN v) :: .long (jN u) :: st) V := by
  obtain ⟨p, e, s, m, args, below, meth, c, cells, slots, Q, A⟩ := x
  exact fun cx ls H locs hl hP hS => lv_lrem cx.1 cx.2.1 d (jN_ne0 hv) (by rw [jN_rem hu hv]; exact k cx ls H locs hl hP hS)
end GM
/-! numbers and bits -/
theorem sh_amt {k : Nat} (h : k < 32) : iN (k : Int) &&& 31 = nI k := by
  have : ∀ k : Fin 32, nI k.val &&& 31 = nI k.val := by decide +kernel
  rw [iN_nI]; exact this ⟨k, h⟩
theorem sh_smod {k : Nat} (h : k < 32) : (nI k).toBitVec.smod 32 = BitVec.ofNat 32 k := by
  have : ∀ k : Fin 32, (nI k.val).toBitVec.smod 32 = BitVec.ofNat 32 k.val := by decide +kernel
  exact this ⟨k, h⟩
/-- 1 << k -/
theorem iN_bit {k : Nat} (h : k < 31) : iN 1 <<< (iN (k : Int) &&& 31) = iN ((2 ^ k : Nat) : Int) := by
  rw [sh_amt (by omega), iN_nI]
  have : ∀ k : Fin 31, (iN 1) <<< (nI k.val) = nI (2 ^ k.val) := by decide +kernel
  exact this ⟨k, h⟩
/-- n >> k -/
theorem iN_shr {n k : Nat} (hn : n < 2147483648) (h : k < 32) : iN (n : Int) >>> (iN (k : Int) &&& 31) = iN ((n / 2 ^ k : Nat) : Int) := by
  rw [sh_amt h, iN_nI, iN_nI, pk_shrN (by omega) (nI k) k (by rw [sh_smod h]; simp; omega)]
theorem iN_and (x y : Nat) : iN (x : Int) &&& iN (y : Int) = iN ((x &&& y : Nat) : Int) := by
  rw [iN_nI, iN_nI, iN_nI]
  apply Int32.toBitVec.inj
  show BitVec.ofNat 32 x &&& BitVec.ofNat 32 y = BitVec.ofNat 32 (x &&& y)
  simp
theorem iN_or (x y : Nat) : iN (x : Int) ||| iN (y : Int) = iN ((x ||| y : Nat) : Int) := by
  rw [iN_nI, iN_nI, iN_nI]
  apply Int32.toBitVec.inj
  show BitVec.ofNat 32 x ||| BitVec.ofNat 32 y = BitVec.ofNat 32 (x ||| y)
  simp
theorem iN_and1 (x : Nat) : iN (x : Int) &&& iN 1 = iN ((x % 2 : Nat) : Int) := by
  have h := iN_and x 1
  rw [Nat.and_one_is_mod] at h
  exact h
