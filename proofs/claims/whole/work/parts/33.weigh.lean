def tAt (sz : Nat) (hg : Nat → Int) (ds : Nat → Nat → Int) (hm : Nat → Int) (A : Nat → Nat → Int) (set last : Nat) : Prop :=
  ((∀ i, ¬ tFol sz hg set i) → A set last = hm last) ∧ (∀ i, tFol sz hg set i → A set last ≤ ds last i + A (set ||| 2 ^ i) i) ∧ ((∃ i, tFol sz hg set i) → ∃ i, tFol sz hg set i ∧ A set last = ds last i + A (set ||| 2 ^ i) i) ∧ 0 ≤ A set last ∧ A set last ≤ 100000 * (64 - (set : Int))
theorem tAt_up {sz : Nat} {hg : Nat → Int} {ds : Nat → Nat → Int} {hm : Nat → Int} {U : Mem} {s l set last : Nat} {v : Int} (hs : s < set ∨ (set = s ∧ last ≠ l)) (h : tAt sz hg ds hm (fun q r => U (56 + q) r) set last) : tAt sz hg ds hm (fun q r => up U (56 + s) l v (56 + q) r) set last := by
  have e0 : up U (56 + s) l v (56 + set) last = U (56 + set) last := up_ne (by omega)
  have e1 : ∀ i, tFol sz hg set i → up U (56 + s) l v (56 + (set ||| 2 ^ i)) i = U (56 + (set ||| 2 ^ i)) i := fun i hi => up_ne (by have := tOr_gt hi.2.1; omega)
  obtain ⟨h1, h2, h3, h4, h5⟩ := h
  refine ⟨fun h => by show up U _ _ _ _ _ = _; rw [e0]; exact h1 h, fun i hi => ?_, fun he => ?_, ?_, ?_⟩
  · show up U _ _ _ _ _ ≤ _ + up U _ _ _ _ _
    rw [e0, e1 i hi]; exact h2 i hi
  · obtain ⟨i, hi, e⟩ := h3 he
    refine ⟨i, hi, ?_⟩
    show up U _ _ _ _ _ = _ + up U _ _ _ _ _
    rw [e0, e1 i hi]; exact e
  · show 0 ≤ up U _ _ _ _ _
    rw [e0]; exact h4
  · show up U _ _ _ _ _ ≤ _
    rw [e0]; exact h5
theorem tAt_none {sz : Nat} {hg : Nat → Int} {ds : Nat → Nat → Int} {hm : Nat → Int} {U : Mem} {s l : Nat} (hs : s < 64) (hno : ∀ i, ¬ tFol sz hg s i) (hb : 0 ≤ hm l ∧ hm l ≤ 100000) : tAt sz hg ds hm (fun q r => up U (56 + s) l (hm l) (56 + q) r) s l := by
  have e0 : up U (56 + s) l (hm l) (56 + s) l = hm l := up_eq
  refine ⟨fun _ => e0, fun i hi => absurd hi (hno i), fun ⟨i, hi⟩ => absurd hi (hno i), ?_, ?_⟩
  · show 0 ≤ up U _ _ _ _ _
    rw [e0]; exact hb.1
  · show up U _ _ _ _ _ ≤ _
    rw [e0]; omega
theorem tAt_best {sz : Nat} {hg : Nat → Int} {ds : Nat → Nat → Int} {hm : Nat → Int} {U : Mem} {s l b : Nat} (hb : tFol sz hg s b) (hmin : ∀ k, tFol sz hg s k → ds l b + U (56 + (s ||| 2 ^ b)) b ≤ ds l k + U (56 + (s ||| 2 ^ k)) k) (h0 : 0 ≤ ds l b + U (56 + (s ||| 2 ^ b)) b) (h1 : ds l b + U (56 + (s ||| 2 ^ b)) b ≤ 100000 * (64 - (s : Int))) : tAt sz hg ds hm (fun q r => up U (56 + s) l (ds l b + U (56 + (s ||| 2 ^ b)) b) (56 + q) r) s l := by
  have e0 : up U (56 + s) l (ds l b + U (56 + (s ||| 2 ^ b)) b) (56 + s) l = ds l b + U (56 + (s ||| 2 ^ b)) b := up_eq
  have e1 : ∀ i, tFol sz hg s i → up U (56 + s) l (ds l b + U (56 + (s ||| 2 ^ b)) b) (56 + (s ||| 2 ^ i)) i = U (56 + (s ||| 2 ^ i)) i := fun i hi => up_ne (by have := tOr_gt hi.2.1; omega)
  refine ⟨fun h => absurd hb (h b), fun i hi => ?_, fun _ => ⟨b, hb, ?_⟩, ?_, ?_⟩
  · show up U _ _ _ _ _ ≤ _ + up U _ _ _ _ _
    rw [e0, e1 i hi]; exact hmin i hi
  · show up U _ _ _ _ _ = _ + up U _ _ _ _ _
    rw [e0, e1 b hb]
  · show 0 ≤ up U _ _ _ _ _
    rw [e0]; exact h0
  · show up U _ _ _ _ _ ≤ _
    rw [e0]; exact h1
/-- followersOf's bits are those that may come -/
theorem folIff {sz : Nat} {hg : Nat → Int} {s f : Nat} {lo : Nat → Nat} (hsz : sz ≤ 6) (hs : s < 64) (hlo : ∀ i, i < sz → lo i < 64 ∧ ∀ j, (lo i).testBit j = decide (j < sz ∧ hg j < hg i)) (hf : ∀ k, f.testBit k = decide (k < sz ∧ (s.testBit k = false ∧ lo k &&& (63 - s) = 0))) (k : Nat) : f.testBit k = true ↔ tFol sz hg s k := by
  rw [hf, decide_eq_true_eq]
  unfold tFol
  constructor
  · rintro ⟨h1, h2, h3⟩
    refine ⟨h1, h2, fun j hj hlt => ?_⟩
    exact (and_not0 (hlo k h1).1 hs).mp h3 j (by omega) (by rw [(hlo k h1).2, decide_eq_true_eq]; exact ⟨hj, hlt⟩)
  · rintro ⟨h1, h2, h3⟩
    refine ⟨h1, h2, (and_not0 (hlo k h1).1 hs).mpr fun j hj hb => ?_⟩
    rw [(hlo k h1).2, decide_eq_true_eq] at hb
    exact h3 j hb.1 hb.2
def offW (U V : Mem) : Prop := ∀ c, ¬ (56 ≤ c ∧ c < 120) → U c = V c
theorem offW_up {U V : Mem} {c i : Nat} {v : Int} (h : offW U V) (hc : 56 ≤ c ∧ c < 120) : offW (up U c i v) V := fun k hk => by
  rw [up_ne1 (fun e => hk (by omega))]
  exact h k hk
theorem loF {U : Mem} {sz : Nat} {hg : Nat → Int} {ds : Nat → Nat → Int} {hm : Nat → Int} (h : ∀ k, k < sz → mRow U sz hg ds hm k) : ∃ lo : Nat → Nat, ∀ i, i < sz → U 46 i = (lo i : Int) ∧ lo i < 64 ∧ ∀ j, (lo i).testBit j = decide (j < sz ∧ hg j < hg i) :=
  ⟨fun i => if hi : i < sz then Classical.choose (h i hi).2.2.2 else 0, fun i hi => by simp only [dif_pos hi]; exact Classical.choose_spec (h i hi).2.2.2⟩
