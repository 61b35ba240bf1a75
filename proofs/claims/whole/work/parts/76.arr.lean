/-! the reference's arrange -/
theorem tFol_cg {sz : Nat} {hg hg' : Nat → Int} {set i : Nat} (h : ∀ i, i < sz → hg i = hg' i) : tFol sz hg set i ↔ tFol sz hg' set i := by
  unfold tFol
  constructor
  · rintro ⟨a, b, c⟩
    exact ⟨a, b, fun j hj hl => c j hj (by rw [h j hj, h i a]; exact hl)⟩
  · rintro ⟨a, b, c⟩
    exact ⟨a, b, fun j hj hl => c j hj (by rw [← h j hj, ← h i a]; exact hl)⟩
theorem tWL_cg {sz : Nat} {hg hg' : Nat → Int} {ds ds' : Nat → Nat → Int} {hm hm' : Nat → Int} {A : Nat → Nat → Int} (h1 : ∀ i, i < sz → hg i = hg' i) (h2 : ∀ i j, i < sz → j < sz → ds i j = ds' i j) (h3 : ∀ i, i < sz → hm i = hm' i) (h : tWL sz hg ds hm A) : tWL sz hg' ds' hm' A := by
  intro set last a b c
  obtain ⟨x1, x2, x3⟩ := h set last a b c
  refine ⟨fun q => by rw [← h3 last b]; exact x1 (fun i hi => q i ((tFol_cg h1).mp hi)), fun i hi => ?_, fun ⟨i, hi⟩ => ?_⟩
  · rw [← h2 last i b hi.1]; exact x2 i ((tFol_cg h1).mpr hi)
  · obtain ⟨j, hj, e⟩ := x3 ⟨i, (tFol_cg h1).mpr hi⟩
    exact ⟨j, (tFol_cg h1).mp hj, by rw [← h2 last j b hj.1]; exact e⟩
theorem tOrd_cg {sz : Nat} {hg hg' : Nat → Int} {ds ds' : Nat → Nat → Int} {hm hm' : Nat → Int} {q : Nat → Nat} (h1 : ∀ i, i < sz → hg i = hg' i) (h2 : ∀ i j, i < sz → j < sz → ds i j = ds' i j) (h3 : ∀ i, i < sz → hm i = hm' i) (h : tOrd sz hg ds hm q) : tOrd sz hg' ds' hm' q := by
  obtain ⟨A, hA, hp⟩ := h
  have hq : ∀ t, t < sz → q t < sz := fun t ht => (hp t ht).1.1
  have hd : ∀ t, t < sz → ∀ j, j < sz → tFrom ds hm q t j = tFrom ds' hm' q t j := fun t ht j hj => by
    cases t with
    | zero => exact h3 j hj
    | succ t => exact h2 (q t) j (hq t (by omega)) hj
  refine ⟨A, tWL_cg h1 h2 h3 hA, fun t ht => ?_⟩
  obtain ⟨x1, x2⟩ := hp t ht
  refine ⟨(tFol_cg h1).mp x1, fun j hj => ?_⟩
  rw [← hd t ht (q t) (hq t ht), ← hd t ht j hj.1]
  exact x2 j ((tFol_cg h1).mpr hj)
/-- the pool so far, in the reference's cell -/
def poolJ (U V : Mem) (f : Nat → Int) (k : Nat) : Prop := (∀ j, j < k → U 19 j = poolF f k j) ∧ ∀ c, c ≠ 19 → U c = V c
theorem poolJ_s {U V : Mem} {f : Nat → Int} {k : Nat} (h : poolJ U V f k) : poolJ (up (shiftM U 19 (insN (U 19) (f k) k) k) 19 (insN (U 19) (f k) k) (f k)) V f (k + 1) := by
  obtain ⟨h2, h3⟩ := h
  refine ⟨fun j hj => ?_, fun c h5 => ?_⟩
  · rw [shift_ins]
    exact insF_congr h2 j hj
  · rw [up_ne1 h5, shiftM_ne h5]
    exact h3 c h5
/-- what is laid so far -/
def layJ (U V : Mem) (b : Nat) (T : Nat → Int) (q : Nat → Nat) (n : Nat) : Prop := (∀ t, t < n → U 15 (b + t) = T (q t)) ∧ (∀ j, ¬ (b ≤ j ∧ j < b + n) → U 15 j = V 15 j) ∧ ∀ c, c ≠ 15 → U c = V c
theorem layJ_s {U V : Mem} {b n x : Nat} {T : Nat → Int} {q : Nat → Nat} (h : layJ U V b T q n) : layJ (up U 15 (b + n) (T x)) V b T (fun t => if t = n then x else q t) (n + 1) := by
  obtain ⟨h1, h2, h3⟩ := h
  refine ⟨fun t ht => ?_, fun j hj => ?_, fun c hc => by rw [up_ne1 hc]; exact h3 c hc⟩
  · by_cases e : t = n
    · subst e; rw [up_eq]; simp
    · rw [up_ne (by omega)]
      simp only [if_neg e]
      exact h1 t (by omega)
  · rw [up_ne (by omega)]
    exact h2 j (by omega)
theorem tFrom_set {ds : Nat → Nat → Int} {hm : Nat → Int} {q : Nat → Nat} {t n x : Nat} (h : t ≤ n) : tFrom ds hm (fun t => if t = n then x else q t) t = tFrom ds hm q t := tFrom_congr (fun j hj => if_neg (by omega))
theorem tSet_set {q : Nat → Nat} {t n x : Nat} (h : t ≤ n) : tSet (fun t => if t = n then x else q t) t = tSet q t := tSet_congr (fun j hj => if_neg (by omega))
theorem pick_s {sz : Nat} {hg : Nat → Int} {A : Nat → Nat → Int} {ds : Nat → Nat → Int} {hm : Nat → Int} {q : Nat → Nat} {n x : Nat} (h : ∀ t, t < n → tPick sz hg A (tFrom ds hm q t) (tSet q t) (q t)) (hx : tPick sz hg A (tFrom ds hm q n) (tSet q n) x) : ∀ t, t < n + 1 → tPick sz hg A (tFrom ds hm (fun t => if t = n then x else q t) t) (tSet (fun t => if t = n then x else q t) t) ((fun t => if t = n then x else q t) t) := by
  intro t ht
  rw [tFrom_set (by omega), tSet_set (by omega)]
  by_cases e : t = n
  · subst e; simp only [if_true]; exact hx
  · simp only [if_neg e]; exact h t (by omega)
