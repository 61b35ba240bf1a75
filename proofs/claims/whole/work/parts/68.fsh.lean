/-- all but the shares is V's -/
def off2 (V U : Mem) : Prop := ∀ c, c ≠ 16 → c ≠ 17 → U c = V c
theorem rHas_off {V U : Mem} (h : off2 V U) : rHas U = rHas V := by
  funext k m
  unfold rHas
  rw [h 11 (by omega) (by omega), h 2 (by omega) (by omega)]
theorem rCt_off {V U : Mem} (h : off2 V U) : rCt U = rCt V := by
  funext np k
  unfold rCt
  rw [h 7 (by omega) (by omega)]
theorem rMay_off {V U : Mem} (h : off2 V U) : rMay U = rMay V := by
  funext us k m
  unfold rMay rHo
  rw [rHas_off h]
theorem rAct_off {V U : Mem} (h : off2 V U) : rAct U = rAct V := by
  funext np us k
  unfold rAct rHo
  rw [rHas_off h, rCt_off h]
theorem okR_off {V U : Mem} (hok : okR V) (h : off2 V U) : okR U := okR_congr hok (fun c hc => h c (by omega) (by omega))
/-- the first shares so far -/
def fsI (V U : Mem) (np us k : Nat) : Prop := (∀ c, c ≠ 16 → U c = V c) ∧ ∀ q, q < k → (rAct V np us q = true → ∃ y : Nat, U 16 q = (y : Int) ∧ y < us ∧ rMay V us q y = true ∧ ∀ x, x < y → rMay V us q x = false) ∧ (rAct V np us q = false → U 16 q = -1)
theorem fsI_none {V U : Mem} {np us k : Nat} (h : fsI V U np us k) (h0 : cnt (V 7) (k : Int) np = 0) : fsI V (up U 16 k (-1)) np us (k + 1) := by
  refine ⟨fun c hc => by rw [up_ne1 hc]; exact h.1 c hc, fun q hq => ?_⟩
  by_cases e : q = k
  · subst e
    refine ⟨fun ha => ?_, fun _ => by rw [up_eq]⟩
    have := (of_decide_eq_true ha).1
    unfold rCt at this
    omega
  · rw [up_ne (by omega)]
    exact h.2 q (by omega)
theorem fsI_some {V U : Mem} {np us k : Nat} {z : Int} (h : fsI V U np us k) (h0 : ¬ cnt (V 7) (k : Int) np = 0) (hz : isNx (rHas V k) us 0 z) : fsI V (up U 16 k z) np us (k + 1) := by
  have hc := cnt_in (V 7) (k : Int) np
  refine ⟨fun c hc => by rw [up_ne1 hc]; exact h.1 c hc, fun q hq => ?_⟩
  by_cases e : q = k
  · subst e
    rw [up_eq]
    rcases hz with ⟨e, hno⟩ | ⟨m, e, -, hm, hh, hno⟩
    · refine ⟨fun ha => ?_, fun _ => e⟩
      obtain ⟨m, hm, hh⟩ := rAct_has ha
      rw [hno m (by omega) hm] at hh
      cases hh
    · refine ⟨fun _ => ⟨m, e, hm, rMay_iff.mpr ⟨hm, hh⟩, fun x hx => rMay_f (fun _ => hno x (by omega) hx)⟩, fun hf => ?_⟩
      have : rAct V np us q = true := decide_eq_true ⟨by unfold rCt; omega, rHo_ne hm hh⟩
      rw [this] at hf
      cases hf
  · rw [up_ne (by omega)]
    exact h.2 q (by omega)
theorem fsI_end {V U : Mem} {np us kc : Nat} {ct : Nat → Nat} (hus : us ≤ 3) (h : fsI V U np us kc) : shS (U 16) (rAct V np us) (fun q => (U 16 q).toNat) kc ∧ sUpTo kc (rAct V np us) ct (rMay V us) (fun q => (U 16 q).toNat) (fun q => (U 16 q).toNat) := by
  have hs : shS (U 16) (rAct V np us) (fun q => (U 16 q).toNat) kc := fun q hq => by
    by_cases ha : rAct V np us q = true
    · obtain ⟨y, a1, -⟩ := (h.2 q hq).1 ha
      rw [if_pos ha]
      show U 16 q = ((U 16 q).toNat : Int)
      omega
    · rw [if_neg ha]
      exact (h.2 q hq).2 (by simpa using ha)
  refine ⟨hs, sUpTo_first (fun q hq ha => ?_) (fun q hq ha x hx => ?_)⟩
  · obtain ⟨y, a1, a2, a3, -⟩ := (h.2 q hq).1 ha
    simp only [a1, Int.toNat_natCast]
    exact ⟨by omega, a3⟩
  · obtain ⟨y, a1, a2, a3, a4⟩ := (h.2 q hq).1 ha
    simp only [a1, Int.toNat_natCast] at hx
    exact a4 x hx
/-- copied so far -/
def cpI (U U' : Mem) (k : Nat) : Prop := (∀ c, c ≠ 17 → U' c = U c) ∧ ∀ q, q < k → U' 17 q = U 16 q
theorem cpI_s {U U' : Mem} {k : Nat} (h : cpI U U' k) : cpI U (up U' 17 k (U' 16 k)) (k + 1) := by
  refine ⟨fun c hc => by rw [up_ne1 hc]; exact h.1 c hc, fun q hq => ?_⟩
  by_cases e : q = k
  · subst e
    rw [up_eq, h.1 16 (by omega)]
  · rw [up_ne (by omega)]
    exact h.2 q (by omega)
/-- the enumeration's state -/
def enI (V U : Mem) (np us kc : Nat) (f best : Nat → Nat) (least : Int) : Prop := off2 V U ∧ shS (U 16) (rAct V np us) f kc ∧ shS (U 17) (rAct V np us) best kc ∧ sUpTo kc (rAct V np us) (rCt V np) (rMay V us) f best ∧ least = (sMost (rAct V np us) (rCt V np) best kc : Int)
theorem shS_in {s : Nat → Int} {act : Nat → Bool} {may : Nat → Nat → Bool} {f : Nat → Nat} {n : Nat} (h : shS s act f n) (hok : sOk n act may f) : ∀ k, k < n → -1 ≤ s k ∧ s k ≤ 2 := fun k hk => by
  rw [h k hk]
  split
  · rename_i q; have := (hok k hk q).1; omega
  · omega
theorem most_of {V U : Mem} {np us kc : Nat} {f : Nat → Nat} (hus : us ≤ 3) (ho : off2 V U) (hs : shS (U 16) (rAct V np us) f kc) (hok : sOk kc (rAct V np us) (rMay V us) f) : mxF (fun m => ldS (U 16) (rCt U np) m kc) us = (sMost (rAct V np us) (rCt V np) f kc : Int) := by
  rw [rCt_off ho, ← sMost_mx (us := us) hus (fun k hk ha => (rMay_iff.mp (hok k hk ha).2).1)]
  congr 1
  funext m
  exact ldS_load hs
theorem sMost_in {V : Mem} {np us kc : Nat} {f : Nat → Nat} (hnp : np ≤ 40) (hkc : kc ≤ 10) : sMost (rAct V np us) (rCt V np) f kc ≤ 400 := by
  have h : ∀ m n, sLoad (rAct V np us) (rCt V np) f m n ≤ 40 * n := by
    intro m n
    induction n with
    | zero => simp [sLoad]
    | succ n ih =>
      have := rCt_le V np hnp n
      simp only [sLoad]
      split <;> omega
  have h0 := h 0 kc
  have h1 := h 1 kc
  have h2 := h 2 kc
  unfold sMost
  omega
theorem enI_first {V U U' : Mem} {np us kc : Nat} (hus : us ≤ 3) (h : fsI V U np us kc) (hc : cpI U U' kc) : enI V U' np us kc (fun q => (U 16 q).toNat) (fun q => (U 16 q).toNat) (sMost (rAct V np us) (rCt V np) (fun q => (U 16 q).toNat) kc : Int) := by
  obtain ⟨h1, h2⟩ := fsI_end (ct := rCt V np) hus h
  exact ⟨fun c a b => by rw [hc.1 c b]; exact h.1 c a, by rw [hc.1 16 (by omega)]; exact h1, fun q hq => by rw [hc.2 q hq]; exact h1 q hq, h2, rfl⟩
theorem off_go {V U U2 : Mem} {np us kc : Nat} {f : Nat → Nat} (ho : off2 V U) (hg : goF U U2 np us f kc) : off2 V U2 := fun c a b => by
  obtain ⟨_, _, _, _, _, q⟩ := hg
  rw [q c a]
  exact ho c a b
theorem enI_keep {V U U2 : Mem} {np us kc : Nat} {f best f' : Nat → Nat} {least : Int} (h : enI V U np us kc f best least) (hs : shS (U2 16) (rAct V np us) f' kc) (hok : sOk kc (rAct V np us) (rMay V us) f') (hlt : sLt kc (rAct V np us) f f') (hn : ∀ g, sOk kc (rAct V np us) (rMay V us) g → sLt kc (rAct V np us) g f' → ¬ sLt kc (rAct V np us) f g) (ho : ∀ c, c ≠ 16 → U2 c = U c) (hm : least ≤ (sMost (rAct V np us) (rCt V np) f' kc : Int)) : enI V U2 np us kc f' best least := by
  obtain ⟨h1, h2, h3, h4, h5⟩ := h
  exact ⟨fun c a b => by rw [ho c a]; exact h1 c a b, hs, by rw [ho 17 (by omega)]; exact h3, sUpTo_step h4 hok hlt hn (Or.inl ⟨by omega, fun _ _ _ => rfl⟩), h5⟩
theorem enI_take {V U U2 U3 : Mem} {np us kc : Nat} {f best f' : Nat → Nat} {least : Int} (h : enI V U np us kc f best least) (hs : shS (U2 16) (rAct V np us) f' kc) (hok : sOk kc (rAct V np us) (rMay V us) f') (hlt : sLt kc (rAct V np us) f f') (hn : ∀ g, sOk kc (rAct V np us) (rMay V us) g → sLt kc (rAct V np us) g f' → ¬ sLt kc (rAct V np us) f g) (ho : ∀ c, c ≠ 16 → U2 c = U c) (hm : (sMost (rAct V np us) (rCt V np) f' kc : Int) < least) (hc : cpI U2 U3 kc) : enI V U3 np us kc f' f' (sMost (rAct V np us) (rCt V np) f' kc : Int) := by
  obtain ⟨h1, h2, h3, h4, h5⟩ := h
  exact ⟨fun c a b => by rw [hc.1 c b, ho c a]; exact h1 c a b, by rw [hc.1 16 (by omega)]; exact hs, fun q hq => by rw [hc.2 q hq]; exact hs q hq, sUpTo_step h4 hok hlt hn (Or.inr ⟨by omega, fun _ _ _ => rfl⟩), rfl⟩
