theorem forget_eq {nd1 : Int32} {lc1 : Nat} {bc1 : Int64} {bv1 : Int32} {wc1 : Nat} (h : f_forget = (nd1, lc1, bc1, bv1, wc1)) : nd1 = 0 ∧ lc1 = 0 ∧ bc1 = -1 ∧ bv1 = 0 ∧ wc1 = 0 := by
  unfold f_forget at h
  simp only [Prod.mk.injEq] at h
  obtain ⟨h1, h2, h3, h4, h5⟩ := h
  exact ⟨h1.symm, h2.symm, h3.symm, h4.symm, h5.symm⟩
theorem putWaiting_ok {wh wv : Nat → Int32} {wc : Nat} {hv vl : Int32} {wh1 wv1 : Nat → Int32} {wc1 : Nat} (h : f_putWaiting wh wv wc hv vl = (wh1, wv1, wc1)) (hwc : wc ≤ 11) : wc1 ≤ 11 := by
  unfold f_putWaiting at h
  split at h
  · simp only [Prod.mk.injEq] at h
    omega
  · rename_i hc
    have hlt := xnle 11 hc (by omega) (by decide)
    simp only [Prod.mk.injEq] at h
    omega
theorem putIntoLog_ok {lz lc : Nat} {bc : Int64} {lh lw : Nat → Int32} {lb : Nat → Int64} {hv vl : Int32} {lc1 : Nat} {lh1 lw1 : Nat → Int32} {lb1 : Nat → Int64} (h : f_putIntoLog lz lc bc lh lw lb hv vl = (lc1, lh1, lw1, lb1)) (hlz : lz ≤ 512) (hlc : lc ≤ lz) : lc1 ≤ lz := by
  unfold f_putIntoLog at h
  split at h
  · simp only [Prod.mk.injEq] at h
    omega
  · rename_i hc
    have hlt := xnle lz hc (by omega) (by omega)
    simp only [Prod.mk.injEq] at h
    omega
theorem isLogged_ok {lc : Nat} {k : Int32} (h : ¬ f_isLogged lc k = 0) : ¬ k < 0 ∧ ¬ nI lc ≤ k := by
  unfold f_isLogged at h
  split at h
  · exact absurd rfl h
  · split at h
    · exact absurd rfl h
    · rename_i h1 h2
      exact ⟨h1, h2⟩
