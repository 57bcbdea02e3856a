/-! what the walk needs to know of the functions: bounds -/
theorem ff_L (mt mf : Nat → Int32) (avl : Int64) (gh gv : Int32) : ∀ n i : Nat, f_firstFalseClause_L mt mf avl gh gv n i = -1 ∨ ∃ k, k < i + n ∧ f_firstFalseClause_L mt mf avl gh gv n i = nI k := by
  intro n
  induction n with
  | zero => intro i; left; rfl
  | succ n ih =>
    intro i
    rw [f_firstFalseClause_L]
    have hs : f_firstFalseClause_L mt mf avl gh gv n (i + 1) = -1 ∨ ∃ k, k < i + (n + 1) ∧ f_firstFalseClause_L mt mf avl gh gv n (i + 1) = nI k := by
      rcases ih (i + 1) with h | ⟨k, hk, h⟩
      · exact Or.inl h
      · exact Or.inr ⟨k, by omega, h⟩
    split
    · exact hs
    · split
      · exact hs
      · exact Or.inr ⟨i, by omega, rfl⟩
theorem ff_ok {nc : Nat} {mt mf : Nat → Int32} {avl : Int64} {gh gv : Int32} (hnc : nc ≤ 40) (h : ¬ f_firstFalseClause nc mt mf avl gh gv = -1) :
    nI (f_firstFalseClause nc mt mf avl gh gv).toNatClampNeg = f_firstFalseClause nc mt mf avl gh gv ∧ (f_firstFalseClause nc mt mf avl gh gv).toNatClampNeg < nc := by
  rcases ff_L mt mf avl gh gv nc 0 with h1 | ⟨k, hk, h1⟩
  · exact absurd h1 h
  · have h2 : f_firstFalseClause nc mt mf avl gh gv = nI k := h1
    rw [h2, nI_clamp (by omega)]
    exact ⟨rfl, by omega⟩
theorem fu_L (mt mf : Nat → Int32) (avl : Int64) (gh gv : Int32) : ∀ n i : Nat, f_firstUnitClause_L mt mf avl gh gv n i = -1 ∨ ∃ k, k < i + n ∧ f_firstUnitClause_L mt mf avl gh gv n i = nI k := by
  intro n
  induction n with
  | zero => intro i; left; rfl
  | succ n ih =>
    intro i
    rw [f_firstUnitClause_L]
    have hs : f_firstUnitClause_L mt mf avl gh gv n (i + 1) = -1 ∨ ∃ k, k < i + (n + 1) ∧ f_firstUnitClause_L mt mf avl gh gv n (i + 1) = nI k := by
      rcases ih (i + 1) with h | ⟨k, hk, h⟩
      · exact Or.inl h
      · exact Or.inr ⟨k, by omega, h⟩
    split
    · split
      · exact hs
      · split
        · exact Or.inr ⟨i, by omega, rfl⟩
        · exact hs
    · exact hs
theorem fu_ok {nc : Nat} {mt mf : Nat → Int32} {avl : Int64} {gh gv : Int32} (hnc : nc ≤ 40) (h : ¬ f_firstUnitClause nc mt mf avl gh gv = -1) :
    nI (f_firstUnitClause nc mt mf avl gh gv).toNatClampNeg = f_firstUnitClause nc mt mf avl gh gv ∧ (f_firstUnitClause nc mt mf avl gh gv).toNatClampNeg < nc := by
  rcases fu_L mt mf avl gh gv nc 0 with h1 | ⟨k, hk, h1⟩
  · exact absurd h1 h
  · have h2 : f_firstUnitClause nc mt mf avl gh gv = nI k := h1
    rw [h2, nI_clamp (by omega)]
    exact ⟨rfl, by omega⟩
theorem growBy_ok {mt mf : Nat → Int32} {gh gv : Int32} {sv : Nat → Int32} {sr : Nat → Nat} {st i : Nat} {gh1 gv1 : Int32} {sv1 : Nat → Int32} {sr1 : Nat → Nat} {st1 : Nat} (h : f_growBy mt mf gh gv sv sr st i = (gh1, gv1, sv1, sr1, st1)) (hst : st ≤ 10) (hsr : ∀ j, j < st → sr j < 40) (hi : i < 40) :
    st1 ≤ 10 ∧ ∀ j, j < st1 → sr1 j < 40 := by
  unfold f_growBy at h
  split at h
  · rename_i hc
    have hlt := xlt 10 hc (by omega) (by decide)
    simp only [Prod.mk.injEq] at h
    obtain ⟨-, -, -, h4, h5⟩ := h
    subst h4; subst h5
    refine ⟨by omega, fun j hj => ?_⟩
    by_cases he : j = st
    · rw [he, va_up_self]; exact hi
    · rw [va_up_ne _ _ he]; exact hsr j (by omega)
  · simp only [Prod.mk.injEq] at h
    obtain ⟨-, -, -, h4, h5⟩ := h
    subst h4; subst h5
    exact ⟨hst, hsr⟩
