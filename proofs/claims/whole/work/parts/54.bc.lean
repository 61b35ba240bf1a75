/-! Integer.bitCount -/
def ush (u k : Int) : Int := (((iN u).toUInt32 >>> ((iN k).toUInt32 &&& Int32.toUInt32 31)).toInt32).toInt
def ian (u v : Int) : Int := (iN u &&& iN v).toInt
section GB
variable {l : Launch} {D : va_G} {tys : List (ClassId × FieldType)} {L : Lay} {a : Nat → Nat} {M : MInf} {x : Ctx} {pc : Nat} {lv lv' : List (Nat × Value)} {st : List Value} {V : Mem}
theorem g_iushr {u v : Int} (d : decode M.1 pc = .ok (.iushr, 1)) (k : G l D tys L a M x (pc + 1) lv (.int (iN (ush u v)) :: st) V) : G l D tys L a M x pc lv (.int (iN v) :: .int (iN u) :: st) V := by
  obtain ⟨p, e, s, m, args, below, meth, c, cells, slots, Q, A⟩ := x
  exact fun cx ls H locs hl hP hS => lv_iushr cx.1 cx.2.1 d (Int32.ofInt_toInt _).symm (k cx ls H locs hl hP hS)
theorem g_ian {u v : Int} (d : decode M.1 pc = .ok (.iand, 1)) (k : G l D tys L a M x (pc + 1) lv (.int (iN (ian u v)) :: st) V) : G l D tys L a M x pc lv (.int (iN v) :: .int (iN u) :: st) V := g_iand (ian u v) d (Int32.ofInt_toInt _).symm k
theorem g_ldcw {index : Nat} {w : Int32} (z : Int) (hw : Cond.constant M.2.2.1 index w ∈ gw) (hv : w = iN z) (d : decode M.1 pc = .ok (.ldc_w index, 3)) (k : G l D tys L a M x (pc + 3) lv (.int (iN z) :: st) V) : G l D tys L a M x pc lv st V := by
  obtain ⟨p, e, s, m, args, below, meth, c, cells, slots, Q, A⟩ := x
  subst hv
  exact fun cx ls H locs hl hP hS => lv_ldcw cx.1 cx.2.1 cx.2.2.2.1 (cx.2.2.2.2.1 _ hw) d (k cx ls H locs hl hP hS)
end GB
/-- how many of eight bits are set -/
def pop8 (n : Nat) : Nat := n / 1 % 2 + n / 2 % 2 + n / 4 % 2 + n / 8 % 2 + n / 16 % 2 + n / 32 % 2 + n / 64 % 2 + n / 128 % 2
def bc1 (n : Int) : Int := n - ian (ush n 1) 1431655765
def bc2 (n : Int) : Int := ian (bc1 n) 858993459 + ian (ush (bc1 n) 2) 858993459
def bc3 (n : Int) : Int := ian (bc2 n + ush (bc2 n) 4) 252645135
def bc4 (n : Int) : Int := bc3 n + ush (bc3 n) 8
def bc5 (n : Int) : Int := bc4 n + ush (bc4 n) 16
theorem bc_pop {n : Nat} (h : n < 256) : ian (bc5 (n : Int)) 63 = (pop8 n : Int) := by
  have : ∀ n : Fin 256, ian (bc5 (n.val : Int)) 63 = (pop8 n.val : Int) := by decide +kernel
  exact this ⟨n, h⟩
/-! times -/
def mxF (t : Nat → Int) : Nat → Int
  | 0 => 0
  | m + 1 => max (mxF t m) (t m)
theorem mxF_in {t : Nat → Int} {B : Int} {n : Nat} (hB : 0 ≤ B) (h : ∀ m, m < n → 0 ≤ t m ∧ t m ≤ B) : 0 ≤ mxF t n ∧ mxF t n ≤ B := by
  induction n with
  | zero => simp [mxF, hB]
  | succ n ih =>
    have h1 := ih (fun m hm => h m (by omega))
    have h2 := h n (by omega)
    simp only [mxF]
    omega
/-- the nozzles that are needed, as bits -/
def nzM (am nz : Nat → Int) : Nat → Nat
  | 0 => 0
  | k + 1 => if 0 < am k then nzM am nz k ||| 2 ^ (nz k).toNat else nzM am nz k
theorem nzM_lt {am nz : Nat → Int} {n : Nat} (h : ∀ k, k < n → 0 ≤ nz k ∧ nz k ≤ 7) : nzM am nz n < 256 := by
  induction n with
  | zero => show 0 < 256; omega
  | succ n ih =>
    have h1 := ih (fun k hk => h k (by omega))
    have h2 := h n (by omega)
    simp only [nzM]
    split
    · exact tOr_lt (sz := 8) h1 (by omega)
    · exact h1
theorem pop8_le {n : Nat} : pop8 n ≤ 8 := by unfold pop8; omega
