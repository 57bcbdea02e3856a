theorem sg_L (mt mf av : Nat → Int32) (gh gv : Int32) : ∀ n i : Nat, m_single_L mt mf av gh gv n i = -1 ∨ ∃ k, k < i + n ∧ m_single_L mt mf av gh gv n i = nI k := by
  intro n
  induction n with
  | zero => intro i; left; rfl
  | succ n ih =>
    intro i
    rw [m_single_L]
    have hs : m_single_L mt mf av gh gv n (i + 1) = -1 ∨ ∃ k, k < i + (n + 1) ∧ m_single_L mt mf av gh gv n (i + 1) = nI k := by
      rcases ih (i + 1) with h | ⟨k, hk, h⟩
      · exact Or.inl h
      · exact Or.inr ⟨k, by omega, h⟩
    split
    · exact hs
    · split
      · exact hs
      · split
        · exact Or.inr ⟨i, by omega, rfl⟩
        · exact hs
/-- the next clause to grow by, -1 where there is none: its number is a clause's -/
theorem sg_ok {nc : Nat} {mt mf av : Nat → Int32} {gh gv b : Int32} (hnc : nc ≤ 40) (h : ¬ (if 0 ≤ b then (-1) else m_single nc mt mf av gh gv) < 0) : ¬ nI nc ≤ (if 0 ≤ b then (-1) else m_single nc mt mf av gh gv) := by
  by_cases hb : 0 ≤ b
  · rw [if_pos hb] at h
    exact absurd (by decide) h
  · rw [if_neg hb] at h ⊢
    rcases sg_L mt mf av gh gv nc 0 with h1 | ⟨k, hk, h1⟩
    · have h2 : m_single nc mt mf av gh gv = -1 := h1
      rw [h2] at h
      exact absurd (by decide) h
    · have h2 : m_single nc mt mf av gh gv = nI k := h1
      rw [h2]
      exact nI_ge (by omega) (by omega)
theorem breaks_L_b (mt mf wt : Nat → Int32) (hv vl : Int32) : ∀ (n i : Nat) (acc : Int32), (acc = 0 ∨ acc = 1) → m_breaks_L mt mf wt hv vl n i acc = 0 ∨ m_breaks_L mt mf wt hv vl n i acc = 1 := by
  intro n
  induction n with
  | zero => intro i acc h; exact h
  | succ n ih =>
    intro i acc h
    rw [m_breaks_L]
    split
    · split
      · split
        · exact ih _ _ (Or.inl rfl)
        · exact ih _ _ (Or.inr rfl)
      · exact ih _ _ (Or.inl rfl)
    · exact ih _ _ (Or.inr rfl)
theorem breaks_b (nc : Nat) (mt mf wt : Nat → Int32) (hv vl : Int32) : m_breaks nc mt mf wt hv vl = 0 ∨ m_breaks nc mt mf wt hv vl = 1 := breaks_L_b mt mf wt hv vl nc 0 0 (Or.inl rfl)
