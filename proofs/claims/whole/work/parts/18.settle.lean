theorem iFin_congr {U V : Mem} (h30 : U 30 = V 30) (h31 : U 31 = V 31) : iFin U = iFin V := by
  have e1 : iCt U = iCt V := by unfold iCt; rw [h30]
  have e2 : iMay U = iMay V := by unfold iMay; rw [h31]
  unfold iFin
  rw [e1, e2]
theorem iFin_small {V : Mem} {L t n : Nat} (h : L < (t + 2) / 3) : iFin V L t n n 0 0 = false := by
  cases hf : iFin V L t n n 0 0
  · rfl
  · obtain ⟨f, -, hk⟩ := (sFin_iff n 0 0 (Nat.le_refl _)).mp hf
    simp only [sKeeps] at hk
    omega
theorem iFin_tot {V : Mem} {t n : Nat} (ht : sTot (fun _ => true) (iCt V) n = t) (hany : ∀ i, i < n → ∃ m, m < 3 ∧ iMay V i m = true) : iFin V t t n n 0 0 = true := by
  have hg : ∃ g : Nat → Nat, sOk n (fun _ => true) (iMay V) g := ⟨fun i => if h : i < n then Classical.choose (hany i h) else 0, fun k hk _ => by simp only [dif_pos hk]; exact Classical.choose_spec (hany k hk)⟩
  obtain ⟨g, hg⟩ := hg
  have hsum := sLoad_sum (act := fun _ => true) (ct := iCt V) (f := g) (n := n) (fun k hk ha => (hg k hk ha).1)
  have h := sFin_of (lim := t) (tot := t) hg ht.symm (by simp only [sMost]; omega) (Nat.zero_le n)
  rw [Nat.sub_zero] at h
  exact h
theorem iBest {V : Mem} {lim t n : Nat} {h : Nat → Nat} (ht : sTot (fun _ => true) (iCt V) n = t) (hf : iFin V lim t n n 0 0 = true) (hl : ∀ L, L < lim → iFin V L t n n 0 0 = false) (hg : ∀ k, k < n → grA V lim t n k (iLd V h 0 k) (iLd V h 1 k) (h k)) : sBest n (fun _ => true) (iCt V) (iMay V) h := by
  refine sGreedy ht.symm hf hl (fun k hk _ => ?_)
  have := hg k hk
  unfold grA at this
  rw [show n - (k + 1) = n - k - 1 by omega] at this
  exact this
theorem offE_trans {U V W : Mem} (h1 : offE U V) (h2 : offE V W) : offE U W := fun c hc => (h1 c hc).trans (h2 c hc)
