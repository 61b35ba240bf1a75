/-! the reference's exchanges -/
/-- a machine's whole time with the row f -/
def rTm (V : Mem) (m cr n kc : Nat) (f : Nat → Int) : Int := moveT (way (V 8) (V 9) (V 0 10)) cr f (fun i => V 2 (V 7 (f i).toNat).toNat) n + sup (fun k => cnt (fun i => V 7 (f i).toNat) (k : Int) n) (V 6) (V 5) (V 4) kc
/-- V but for s, the row of m and what is worked with -/
def rxO (V V' : Mem) (m : Nat) : Prop := (∀ c, c ≠ 0 → c ≠ 15 → c ≠ 19 → c ≠ 20 → c ≠ 21 → V' c = V c) ∧ (∀ j, j ≠ 1 → j ≠ 25 → V' 0 j = V 0 j) ∧ ∀ j, ¬ (40 * m ≤ j ∧ j < 40 * m + 40) → V' 15 j = V 15 j
theorem rxO_refl (V : Mem) (m : Nat) : rxO V V m := ⟨fun _ _ _ _ _ _ => rfl, fun _ _ _ => rfl, fun _ _ => rfl⟩
theorem rxO_trans {A B C : Mem} {m : Nat} (h : rxO A B m) (h' : rxO B C m) : rxO A C m := ⟨fun c a b d e f => (h'.1 c a b d e f).trans (h.1 c a b d e f), fun j a b => (h'.2.1 j a b).trans (h.2.1 j a b), fun j a => (h'.2.2 j a).trans (h.2.2 j a)⟩
theorem rxO_s {V : Mem} {m : Nat} {v : Int} : rxO V (up V 0 1 v) m := ⟨fun c a _ _ _ _ => up_ne1 a, fun j a _ => up_ne (by omega), fun j _ => up_ne (by omega)⟩
theorem rxO_row {V : Mem} {m i : Nat} {v : Int} (hi : i < 40) : rxO V (up V 15 (40 * m + i) v) m := ⟨fun c _ b _ _ _ => up_ne1 b, fun j _ _ => up_ne (by omega), fun j h => up_ne (by omega)⟩
theorem rxO_bef {V : Mem} {m i : Nat} {v : Int} : rxO V (up V 21 i v) m := ⟨fun c _ _ _ _ e => up_ne1 e, fun j _ _ => up_ne (by omega), fun j _ => up_ne (by omega)⟩
/-- one exchange of machine m, n parts, cr a trip -/
def rxR (V : Mem) (m n cr kc : Nat) (z : Int) (V' : Mem) : Prop :=
  (n < 2 ∧ z = 0 ∧ V' = up V 0 1 (lcg (V 0 1))) ∨ (2 ≤ n ∧ V' 0 1 = lcg (lcg (lcg (V 0 1))) ∧ rxO V V' m ∧ ∃ a0 b0 : Nat, (a0 : Int) = drw (lcg (lcg (V 0 1))) % (n : Int) ∧ (b0 : Int) = drw (lcg (lcg (lcg (V 0 1)))) % (n : Int) ∧ a0 < n ∧ b0 < n ∧
    ((z = 0 ∧ ¬ V 10 (V 15 (40 * m + a0)).toNat = V 10 (V 15 (40 * m + b0)).toNat ∧ ∀ i, i < 40 → V' 15 (40 * m + i) = V 15 (40 * m + i)) ∨
      (V 10 (V 15 (40 * m + a0)).toNat = V 10 (V 15 (40 * m + b0)).toNat ∧ ∃ f2 f3, arrSeg (V 10) (V 8) (V 9) (V 0 10) cr n (a0 / cr) (swp (fun i => V 15 (40 * m + i)) a0 b0) f2 ∧ arrSeg (V 10) (V 8) (V 9) (V 0 10) cr n (b0 / cr) f2 f3 ∧
        ((z = 1 ∧ rTm V m cr n kc f3 < rTm V m cr n kc (fun i => V 15 (40 * m + i)) ∧ ∀ i, i < 40 → V' 15 (40 * m + i) = f3 i) ∨ (z = 0 ∧ ¬ rTm V m cr n kc f3 < rTm V m cr n kc (fun i => V 15 (40 * m + i)) ∧ ∀ i, i < 40 → V' 15 (40 * m + i) = V 15 (40 * m + i))))))
/-- the row kept aside, so far -/
def bfI (V U : Mem) (m k : Nat) : Prop := (∀ i, i < k → U 21 i = V 15 (40 * m + i)) ∧ ∀ c, c ≠ 21 → U c = V c
theorem bfI_s {V U : Mem} {m k : Nat} (h : bfI V U m k) : bfI V (up U 21 k (U 15 (40 * m + k))) m (k + 1) := ⟨fun i hi => by
  by_cases e : i = k
  · subst e; rw [up_eq, h.2 15 (by omega)]
  · rw [up_ne (by omega)]; exact h.1 i (by omega), fun c hc => by rw [up_ne1 hc]; exact h.2 c hc⟩
/-- brought back, so far -/
def rsI (V U : Mem) (m k : Nat) : Prop := (∀ i, i < k → U 15 (40 * m + i) = V 21 i) ∧ (∀ j, ¬ (40 * m ≤ j ∧ j < 40 * m + k) → U 15 j = V 15 j) ∧ ∀ c, c ≠ 15 → U c = V c
theorem rsI_s {V U : Mem} {m k : Nat} (h : rsI V U m k) : rsI V (up U 15 (40 * m + k) (U 21 k)) m (k + 1) := ⟨fun i hi => by
  by_cases e : i = k
  · subst e; rw [up_eq, h.2.2 21 (by omega)]
  · rw [up_ne (by omega)]; exact h.1 i (by omega), fun j hj => by rw [up_ne (by omega)]; exact h.2.1 j (by omega), fun c hc => by rw [up_ne1 hc]; exact h.2.2 c hc⟩
theorem swp_at {V U : Mem} {m a0 b0 : Nat} (h : U = up (up V 15 (40 * m + a0) (V 15 (40 * m + b0))) 15 (40 * m + b0) (V 15 (40 * m + a0))) : (fun i => U 15 (40 * m + i)) = swp (fun i => V 15 (40 * m + i)) a0 b0 := funext fun i => by
  rw [h]
  unfold swp up1
  by_cases e : i = b0
  · subst e; rw [up_eq, if_pos rfl]
  · rw [up_ne (by omega), if_neg e]
    by_cases e2 : i = a0
    · subst e2; rw [up_eq, if_pos rfl]
    · rw [up_ne (by omega), if_neg e2]
/-- arrange, as a segment of the row -/
theorem arr_seg {V V' : Mem} {m cr n tr sz : Nat} (hsz : sz = min cr (n - tr * cr)) (h : ∃ g, isArr (V 10) (V 8) (V 9) (V 0 10) (fun i => V 15 (40 * m + (tr * cr + i))) g sz ∧ (∀ t, t < sz → V' 15 (40 * m + (tr * cr + t)) = g t) ∧ (∀ j, ¬ (40 * m + tr * cr ≤ j ∧ j < 40 * m + tr * cr + sz) → V' 15 j = V 15 j) ∧ (∀ j, j ≠ 25 → V' 0 j = V 0 j) ∧ ∀ c, c ≠ 0 → c ≠ 15 → c ≠ 19 → c ≠ 20 → V' c = V c) : arrSeg (V 10) (V 8) (V 9) (V 0 10) cr n tr (fun i => V 15 (40 * m + i)) (fun i => V' 15 (40 * m + i)) := by
  obtain ⟨g, h1, h2, h3, -, -⟩ := h
  subst hsz
  refine ⟨g, h1, fun j => ?_⟩
  by_cases q : tr * cr ≤ j ∧ j < tr * cr + min cr (n - tr * cr)
  · rw [if_pos q, ← h2 (j - tr * cr) (by omega)]
    show V' 15 (40 * m + j) = _
    rw [show tr * cr + (j - tr * cr) = j by omega]
  · rw [if_neg q]
    exact h3 _ (by omega)
theorem arr_rxO {V V' : Mem} {m fr n sz : Nat} (hn : fr + sz ≤ 40) (h3 : ∀ j, ¬ (40 * m + fr ≤ j ∧ j < 40 * m + fr + sz) → V' 15 j = V 15 j) (h4 : ∀ j, j ≠ 25 → V' 0 j = V 0 j) (h5 : ∀ c, c ≠ 0 → c ≠ 15 → c ≠ 19 → c ≠ 20 → V' c = V c) : rxO V V' m := ⟨fun c a b d e _ => h5 c a b d e, fun j _ b => h4 j b, fun j hj => h3 j (by omega)⟩
