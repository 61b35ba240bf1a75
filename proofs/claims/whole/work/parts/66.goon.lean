theorem okR_congr {W W' : Mem} (h : okR W) (e : ∀ c, c < 16 → W' c = W c) : okR W' := by
  unfold okR
  rw [e 0 (by omega), e 1 (by omega), e 2 (by omega), e 3 (by omega), e 4 (by omega), e 5 (by omega), e 6 (by omega), e 7 (by omega), e 8 (by omega), e 9 (by omega), e 10 (by omega), e 11 (by omega), e 12 (by omega), e 13 (by omega), e 14 (by omega), e 15 (by omega)]
  exact h
theorem isNx_in {has : Nat → Bool} {us fr : Nat} {z : Int} (hus : us ≤ 3) (h : isNx has us fr z) : -1 ≤ z ∧ z ≤ 2 := by
  rcases h with ⟨e, -⟩ | ⟨m, e, -, h, -⟩ <;> omega
theorem rAct_has {W : Mem} {np us k : Nat} (h : rAct W np us k = true) : ∃ m, m < us ∧ rHas W k m = true := by
  have h2 := (of_decide_eq_true h).2
  apply Classical.byContradiction
  intro hn
  exact h2 (rHo_0 (fun m hm => by
    cases e : rHas W k m
    · rfl
    · exact absurd ⟨m, hm, e⟩ hn))
/-- the way back through the kinds -/
def goI (V U : Mem) (np us : Nat) (f : Nat → Nat) (kc j : Nat) : Prop := (∀ c, c ≠ 16 → U c = V c) ∧ (∀ q, q < j → U 16 q = V 16 q) ∧ ∀ q, j ≤ q → q < kc → (rAct V np us q = true → (∀ x, x < 3 → rMay V us q x = true → x ≤ f q) ∧ ∃ y : Nat, U 16 q = (y : Int) ∧ y < 3 ∧ rMay V us q y = true ∧ ∀ x, x < y → rMay V us q x = false) ∧ (rAct V np us q = false → U 16 q = -1)
theorem goI_0 {V : Mem} {np us : Nat} {f : Nat → Nat} {kc : Nat} : goI V V np us f kc kc := ⟨fun _ _ => rfl, fun _ _ => rfl, fun q h1 h2 => by omega⟩
theorem goI_skip {V U : Mem} {np us : Nat} {f : Nat → Nat} {kc i : Nat} (h : goI V U np us f kc (i + 1)) (hs : shS (V 16) (rAct V np us) f kc) (hi : i < kc) (hn : U 16 i = -1) : goI V U np us f kc i := by
  obtain ⟨h1, h2, h3⟩ := h
  refine ⟨h1, fun q hq => h2 q (by omega), fun q hq hqk => ?_⟩
  by_cases e : q = i
  · subst e
    refine ⟨fun ha => ?_, fun _ => hn⟩
    have := hs q hi
    rw [← h2 q (by omega), hn, if_pos ha] at this
    omega
  · exact h3 q (by omega) hqk
theorem rMay_f {W : Mem} {us k m : Nat} (h : m < us → rHas W k m = false) : rMay W us k m = false := by
  cases e : rMay W us k m
  · rfl
  · have := rMay_iff.mp e
    rw [h this.1] at this
    cases this.2
theorem goI_reset {V U : Mem} {np us : Nat} {f : Nat → Nat} {kc i : Nat} {z : Int} (hus : us ≤ 3) (h : goI V U np us f kc (i + 1)) (ha : rAct V np us i = true) (hmax : ∀ m, f i + 1 ≤ m → m < us → rHas V i m = false) (hz : isNx (rHas V i) us 0 z) : goI V (up U 16 i z) np us f kc i := by
  obtain ⟨h1, h2, h3⟩ := h
  refine ⟨fun c hc => by rw [up_ne1 hc]; exact h1 c hc, fun q hq => by rw [up_ne (by omega)]; exact h2 q (by omega), fun q hq hqk => ?_⟩
  by_cases e : q = i
  · subst e
    refine ⟨fun _ => ⟨fun x hx hm => ?_, ?_⟩, fun hf => by rw [ha] at hf; cases hf⟩
    · rcases Nat.lt_or_ge (f q) x with z | z
      · have := rMay_iff.mp hm
        rw [hmax x (by omega) this.1] at this
        cases this.2
      · exact z
    · rcases hz with ⟨-, hno⟩ | ⟨m, e, -, hm, hh, hno⟩
      · obtain ⟨m, hm, hh⟩ := rAct_has ha
        rw [hno m (by omega) hm] at hh
        cases hh
      · exact ⟨m, by rw [up_eq]; exact e, by omega, rMay_iff.mpr ⟨hm, hh⟩, fun x hx => rMay_f (fun _ => hno x (by omega) hx)⟩
  · rw [up_ne (by omega)]
    exact h3 q (by omega) hqk
/-- one way on, in memory -/
def goF (V V' : Mem) (np us : Nat) (f : Nat → Nat) (kc : Nat) : Prop := ∃ f', shS (V' 16) (rAct V np us) f' kc ∧ sOk kc (rAct V np us) (rMay V us) f' ∧ sLt kc (rAct V np us) f f' ∧ (∀ g, sOk kc (rAct V np us) (rMay V us) g → sLt kc (rAct V np us) g f' → ¬ sLt kc (rAct V np us) f g) ∧ ∀ c, c ≠ 16 → V' c = V c
theorem goI_found {V U : Mem} {np us : Nat} {f : Nat → Nat} {kc i : Nat} {z : Int} (hus : us ≤ 3) (h : goI V U np us f kc (i + 1)) (hi : i < kc) (hs : shS (V 16) (rAct V np us) f kc) (hok : sOk kc (rAct V np us) (rMay V us) f) (ha : rAct V np us i = true) (hz : isNx (rHas V i) us (f i + 1) z) (hz0 : ¬ z = -1) : goF V (up U 16 i z) np us f kc := by
  obtain ⟨h1, h2, h3⟩ := h
  rcases hz with ⟨e, -⟩ | ⟨m, e, hm1, hm2, hm3, hm4⟩
  · exact absurd e hz0
  · have hn := sNext (n := kc) (act := rAct V np us) (may := rMay V us) (f := f) (f' := fun q => if q < i then f q else if q = i then m else (U 16 q).toNat) (i := i) (m := m) hi ha (by omega) (rMay_iff.mpr ⟨hm2, hm3⟩) (by omega) (fun x hx1 hx2 => rMay_f (fun _ => hm4 x (by omega) hx2)) (fun q hq _ => by simp only [if_pos hq]) (by simp only [if_neg (Nat.lt_irrefl i), if_true]) (fun q hq1 hq2 haq => by
      obtain ⟨a1, y, a2, a3, a4, a5⟩ := (h3 q (by omega) hq2).1 haq
      simp only [if_neg (show ¬ q < i by omega), if_neg (show ¬ q = i by omega), a2, Int.toNat_natCast]
      exact ⟨a1, ⟨a3, a4⟩, a5⟩) hok
    refine ⟨_, fun q hq => ?_, hn.1, hn.2.1, hn.2.2, fun c hc => by rw [up_ne1 hc]; exact h1 c hc⟩
    by_cases e1 : q = i
    · subst e1
      rw [up_eq, if_pos ha, e]
      simp only [if_neg (Nat.lt_irrefl q), if_true]
    · rw [up_ne (by omega)]
      by_cases e2 : q < i
      · rw [h2 q (by omega), hs q hq]
        simp only [if_pos e2]
      · by_cases haq : rAct V np us q = true
        · obtain ⟨-, y, a2, -⟩ := (h3 q (by omega) hq).1 haq
          rw [if_pos haq, a2]
          simp only [if_neg e2, if_neg e1, a2, Int.toNat_natCast]
        · rw [if_neg haq]
          exact (h3 q (by omega) hq).2 (by simpa using haq)
theorem goI_end {V U : Mem} {np us : Nat} {f : Nat → Nat} {kc : Nat} (h : goI V U np us f kc 0) : (∀ g, sOk kc (rAct V np us) (rMay V us) g → ¬ sLt kc (rAct V np us) f g) ∧ ∀ c, c ≠ 16 → U c = V c :=
  ⟨sLast (fun k hk ha x hx hm => ((h.2.2 k (by omega) hk).1 ha).1 x hx hm), h.1⟩
theorem rHas_congr {V U : Mem} (h : ∀ c, c ≠ 16 → U c = V c) : rHas U = rHas V := by
  funext k m
  unfold rHas
  rw [h 11 (by omega), h 2 (by omega)]
