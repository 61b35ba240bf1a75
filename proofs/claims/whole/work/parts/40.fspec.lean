/-! FeederOrders: plain functions -/
/-- how many of the places 1 .. n - 1 differ from the one before -/
def chg (g : Nat → Int) : Nat → Int
  | 0 => 0
  | n + 1 => chg g n + (if 0 < n ∧ g (n - 1) ≠ g n then 1 else 0)
theorem chg_in (g : Nat → Int) : ∀ n : Nat, 0 ≤ chg g n ∧ chg g n ≤ n
  | 0 => by simp [chg]
  | n + 1 => by
    have h := chg_in g n
    simp only [chg]
    split <;> omega
/-- the ways up to place i, the way home of a trip counted as the next begins -/
def mv (wy : Int → Int → Int) (cr : Nat) (f : Nat → Int) : Nat → Int
  | 0 => 0
  | i + 1 => mv wy cr f i + (if 0 < i ∧ i / cr ≠ (i - 1) / cr then wy (f (i - 1)) (-1) + wy (-1) (f i) else wy (if i = 0 then -1 else f (i - 1)) (f i))
theorem mv_in {wy : Int → Int → Int} {cr : Nat} {f : Nat → Int} (h : ∀ p q, 0 ≤ wy p q ∧ wy p q ≤ 100000) : ∀ n : Nat, 0 ≤ mv wy cr f n ∧ mv wy cr f n ≤ 200000 * (n : Int)
  | 0 => by simp [mv]
  | n + 1 => by
    have h1 := mv_in (cr := cr) (f := f) h n
    have h2 := h (f (n - 1)) (-1)
    have h3 := h (-1) (f n)
    have h4 := h (if n = 0 then -1 else f (n - 1)) (f n)
    simp only [mv]
    split <;> omega
def moveT (wy : Int → Int → Int) (cr : Nat) (f g : Nat → Int) (n : Nat) : Int := mv wy cr f n + wy (if n = 0 then -1 else f (n - 1)) (-1) + 20 * chg g n
/-- time of parts, rejects, refills -/
def sup (am be ab rf : Nat → Int) : Nat → Int
  | 0 => 0
  | k + 1 => sup am be ab rf k + (if 0 < am k then 2 * picked (am k) (be k) (ab k) + 50 * refilled (picked (am k) (be k) (ab k)) (rf k) else 0)
theorem picked_in {n b a : Int} (hn : 0 < n ∧ n ≤ 40) (hb : 1 ≤ b ∧ b ≤ 1000) (ha : 0 ≤ a ∧ a < b) : 1 ≤ picked n b a ∧ picked n b a ≤ 41000 := by
  have hm : b ≤ n * b ∧ n * b ≤ 40000 := by
    constructor
    · have := Int.mul_le_mul_of_nonneg_right (show (1 : Int) ≤ n by omega) (show 0 ≤ b by omega)
      omega
    · exact Int.le_trans (Int.mul_le_mul hn.2 hb.2 (by omega) (by omega)) (by omega)
  unfold picked
  constructor
  · rw [Int.le_ediv_iff_mul_le (by omega)]
    omega
  · exact Int.le_trans (Int.ediv_le_self _ (by omega)) (by omega)
theorem refilled_in {n m : Int} (hn : 1 ≤ n ∧ n ≤ 41000) : 0 ≤ refilled n m ∧ refilled n m ≤ 41000 := by
  unfold refilled
  split
  · exact ⟨Int.ediv_nonneg (by omega) (by omega), Int.le_trans (Int.ediv_le_self _ (by omega)) (by omega)⟩
  · omega
theorem sup_in {am be ab rf : Nat → Int} {n : Nat} (ham : ∀ k, k < n → am k ≤ 40) (hbe : ∀ k, k < n → 1 ≤ be k ∧ be k ≤ 1000) (hab : ∀ k, k < n → 0 ≤ ab k ∧ ab k < be k) : 0 ≤ sup am be ab rf n ∧ sup am be ab rf n ≤ 2132000 * (n : Int) := by
  induction n with
  | zero => simp [sup]
  | succ n ih =>
    have h := ih (fun k hk => ham k (by omega)) (fun k hk => hbe k (by omega)) (fun k hk => hab k (by omega))
    simp only [sup]
    split
    · rename_i hp
      have h1 := picked_in ⟨hp, ham n (by omega)⟩ (hbe n (by omega)) (hab n (by omega))
      have h2 := refilled_in (m := rf n) h1
      omega
    · omega
/-- the first machine below n whose row has the part -/
def hst (pl : Nat → Int) : Nat → Int
  | 0 => -1
  | m + 1 => if hst pl m = -1 then (if pl m = -1 then -1 else (m : Int)) else hst pl m
theorem hst_s {pl : Nat → Int} {n : Nat} (h : hst pl n = -1) (hn : pl n = -1) : hst pl (n + 1) = -1 := by
  simp only [hst, h, if_true, hn]
theorem hst_at {pl : Nat → Int} {n i : Nat} (h : hst pl i = -1) (hi : ¬ pl i = -1) (hn : i < n) : hst pl n = (i : Int) := by
  induction n with
  | zero => omega
  | succ n ih =>
    by_cases e : i = n
    · subst e
      simp only [hst, h, if_true, if_neg hi]
    · have := ih (by omega)
      simp only [hst, this]
      rw [if_neg (by omega)]
theorem plc_in {f : Nat → Int} {p : Int} : ∀ n : Nat, -1 ≤ plc f p n ∧ plc f p n < n
  | 0 => by simp [plc]
  | n + 1 => by
    have := plc_in (f := f) (p := p) n
    simp only [plc]
    split
    · split <;> omega
    · omega
/-- the bits of the machines below n that have a nozzle -/
def hosts (has : Nat → Bool) : Nat → Nat
  | 0 => 0
  | m + 1 => if has m = true then hosts has m ||| 2 ^ m else hosts has m
theorem hosts_bit {has : Nat → Bool} : ∀ {n : Nat} (j : Nat), (hosts has n).testBit j = decide (j < n ∧ has j = true)
  | 0, j => by simp [hosts]
  | n + 1, j => by
    simp only [hosts]
    split
    · rename_i h
      rw [tBit, hosts_bit]
      by_cases e : n = j
      · subst e; simp [h]
      · simp only [e, decide_false, Bool.or_false]
        exact decide_eq_decide.mpr ⟨fun q => ⟨by omega, q.2⟩, fun q => ⟨by omega, q.2⟩⟩
    · rename_i h
      rw [hosts_bit]
      refine decide_eq_decide.mpr ⟨fun q => ⟨by omega, q.2⟩, fun q => ⟨?_, q.2⟩⟩
      by_cases e : j = n
      · subst e; exact absurd q.2 h
      · omega
theorem hosts_lt {has : Nat → Bool} {n : Nat} (hn : n ≤ 3) : hosts has n < 8 := Nat.lt_pow_two_of_testBit (n := 3) _ fun i hi => by
  rw [hosts_bit]
  exact decide_eq_false (by omega)
