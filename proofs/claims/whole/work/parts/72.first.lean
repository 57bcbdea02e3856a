/-! my own rows: the first literal -/
theorem e_cnt_L (mt mf : Nat → Int32) (hv vl : Int32) (op : Int64) {v : Nat} (hv32 : v < 32) : ∀ (n i : Nat) (tt ff : Int32), i + n ≤ 40 → (∀ k, i ≤ k → k < i + n → bl op k = decide (¬ m_isOpen mt mf k hv vl = 0)) → m_firstOf_A mt mf hv vl v n i tt ff = (f_countHolding_L mt v op n i tt, f_countHolding_L mf v op n i ff) := by
  intro n
  induction n with
  | zero => intro i tt ff _ _; rfl
  | succ n ih =>
    intro i tt ff hi hop
    have h0 := hop i (Nat.le_refl _) (by omega)
    have e0 := bl_c0 op (k := i) (by omega)
    have hrec := fun (a b : Int32) => ih (i + 1) a b (by omega) (fun k h1 h2 => hop k (by omega) (by omega))
    rw [m_firstOf_A, f_countHolding_L, f_countHolding_L]
    by_cases ho : m_isOpen mt mf i hv vl = 0
    · have hb : bl op i = false := by rw [h0]; simp [ho]
      simp only [if_pos ho, if_pos (e0.mpr hb)]
      exact hrec tt ff
    · have hb : bl op i = true := by rw [h0]; simp [ho]
      have n0 : ¬ lg_cmp ((op >>> ((nI i).toInt64 &&& 63)) &&& 1) 0 = 0 := fun q => by rw [e0.mp q] at hb; cases hb
      simp only [if_neg ho, if_neg n0]
      rw [b_tst _ hv32, b_tst _ hv32, hrec]
      cases bt (mt i) v <;> cases bt (mf i) v <;> simp
theorem e_cntb_L (mt : Nat → Int32) (v : Nat) (op : Int64) : ∀ (n i a : Nat), ∃ b, a ≤ b ∧ b ≤ a + n ∧ f_countHolding_L mt v op n i (nI a) = nI b := by
  intro n
  induction n with
  | zero => intro i a; exact ⟨a, Nat.le_refl _, Nat.le_refl _, rfl⟩
  | succ n ih =>
    intro i a
    rw [f_countHolding_L]
    have h1 : ∃ b, a ≤ b ∧ b ≤ a + (n + 1) ∧ f_countHolding_L mt v op n (i + 1) (nI a) = nI b := by
      obtain ⟨b, h1, h2, h3⟩ := ih (i + 1) a
      exact ⟨b, h1, by omega, h3⟩
    split
    · exact h1
    · split
      · exact h1
      · rw [nI_1]
        obtain ⟨b, h1, h2, h3⟩ := ih (i + 1) (a + 1)
        exact ⟨b, by omega, by omega, h3⟩
theorem e_cntb (nc : Nat) (mt : Nat → Int32) (v : Nat) (op : Int64) : ∃ b, b ≤ nc ∧ f_countHolding nc mt v op = nI b := by
  obtain ⟨b, h1, h2, h3⟩ := e_cntb_L mt v op nc 0 0
  exact ⟨b, by omega, h3⟩
theorem e_first_L {nc : Nat} {mt mf : Nat → Int32} {hv vl : Int32} {op : Int64} (hc : nc ≤ 40) (hop : ∀ k, k < nc → bl op k = decide (¬ m_isOpen mt mf k hv vl = 0)) : ∀ (n i : Nat) (bb mo lt moF : Int32), i + n ≤ 10 → ((bb < 0 ∧ moF = -1) ∨ (¬ bb < 0 ∧ moF = mo)) → m_firstOf_L nc mt mf hv vl n i bb mo lt = f_firstLiteral_L nc mt mf hv op n i lt moF := by
  intro n
  induction n with
  | zero => intro i bb mo lt moF _ _; rfl
  | succ n ih =>
    intro i bb mo lt moF hi hR
    rw [m_firstOf_L, f_firstLiteral_L]
    have hA : m_firstOf_A mt mf hv vl i nc 0 0 0 = (f_countHolding nc mt i op, f_countHolding nc mf i op) := e_cnt_L mt mf hv vl op (by omega) nc 0 0 0 (by omega) (fun k _ h2 => hop k (by omega))
    rw [hA]
    dsimp only
    obtain ⟨t, ht, eT⟩ := e_cntb nc mt i op
    obtain ⟨f, hf, eF⟩ := e_cntb nc mf i op
    have hpos : ¬ (f_countHolding nc mt i op + f_countHolding nc mf i op) ≤ -1 := by
      rw [eT, eF, nI_add, Int32.le_iff_toInt_le, nI_toInt (by omega)]
      have : (-1 : Int32).toInt = -1 := by decide
      omega
    have hnext : ((nI i < 0 ∧ (f_countHolding nc mt i op + f_countHolding nc mf i op) = -1) ∨ (¬ nI i < 0 ∧ (f_countHolding nc mt i op + f_countHolding nc mf i op) = (f_countHolding nc mt i op + f_countHolding nc mf i op))) := Or.inr ⟨nI_pos (by omega), rfl⟩
    by_cases hh : ((hv >>> ((nI i) &&& 31)) &&& 1) = 0
    · simp only [if_pos hh]
      rcases hR with ⟨hb, hm⟩ | ⟨hb, hm⟩
      · subst hm
        simp only [if_pos hb, if_neg hpos]
        split
        · exact ih _ _ _ _ _ (by omega) hnext
        · exact ih _ _ _ _ _ (by omega) hnext
      · subst hm
        simp only [if_neg hb]
        split
        · exact ih _ _ _ _ _ (by omega) (Or.inr ⟨hb, rfl⟩)
        · split
          · exact ih _ _ _ _ _ (by omega) hnext
          · exact ih _ _ _ _ _ (by omega) hnext
    · simp only [if_neg hh]
      exact ih _ _ _ _ _ (by omega) hR
theorem e_first {nv nc : Nat} {mt mf wt : Nat → Int32} (h : xWF nv nc mt mf wt) (hv vl : Int32) : f_firstLiteral nv nc mt mf hv vl = m_firstOf nv nc mt mf hv vl := by
  unfold f_firstLiteral m_firstOf
  have hc := h.c
  have hn := h.v2
  exact (e_first_L hc (fun k hk => by rw [e_open mt mf hv vl hc (by omega)]; simp [hk]) nv 0 (-1) 0 (-1) (-1) (by omega) (Or.inl ⟨by decide, rfl⟩)).symm
/-- a literal of a variable without a value -/
def xLit (nv : Nat) (hv x : Int32) : Prop := ∃ v, v < nv ∧ bt hv v = false ∧ (x = nI (2 * v) ∨ x = nI (2 * v + 1))
theorem e_2i : ∀ i, i < 10 → (2 : Int32) * nI i = nI (2 * i) := by decide +kernel
theorem e_good_L (nv nc : Nat) (mt mf : Nat → Int32) (hv : Int32) (op : Int64) (hn : nv ≤ 10) : ∀ (n i : Nat) (lt mo : Int32), i + n ≤ nv → (f_firstLiteral_L nc mt mf hv op n i lt mo = lt ∨ xLit nv hv (f_firstLiteral_L nc mt mf hv op n i lt mo)) := by
  intro n
  induction n with
  | zero => intro i lt mo _; exact Or.inl rfl
  | succ n ih =>
    intro i lt mo hi
    rw [f_firstLiteral_L]
    have e2 := e_2i i (by omega)
    by_cases hh : ((hv >>> ((nI i) &&& 31)) &&& 1) = 0
    · have hb := (b_c0 hv (by omega)).mp hh
      simp only [if_pos hh]
      split
      · exact ih _ _ _ (by omega)
      · split
        · rcases ih (i + 1) (2 * nI i) (f_countHolding nc mt i op + f_countHolding nc mf i op) (by omega) with h1 | h1
          · right; rw [h1]; exact ⟨i, by omega, hb, Or.inl e2⟩
          · right; exact h1
        · rcases ih (i + 1) (2 * nI i + 1) (f_countHolding nc mt i op + f_countHolding nc mf i op) (by omega) with h1 | h1
          · right; rw [h1]; exact ⟨i, by omega, hb, Or.inr (by rw [e2, nI_1])⟩
          · right; exact h1
    · simp only [if_neg hh]
      exact ih _ _ _ (by omega)
theorem e_some_L (nv nc : Nat) (mt mf : Nat → Int32) (hv : Int32) (op : Int64) (hn : nv ≤ 10) (hc : nc ≤ 40) : ∀ (n i : Nat) (lt : Int32), i + n ≤ nv → (∃ v, i ≤ v ∧ v < i + n ∧ bt hv v = false) → xLit nv hv (f_firstLiteral_L nc mt mf hv op n i lt (-1)) := by
  intro n
  induction n with
  | zero => intro i lt _ ⟨v, h1, h2, _⟩; omega
  | succ n ih =>
    intro i lt hi ⟨v, h1, h2, h3⟩
    rw [f_firstLiteral_L]
    have e2 := e_2i i (by omega)
    by_cases hh : ((hv >>> ((nI i) &&& 31)) &&& 1) = 0
    · have hb := (b_c0 hv (by omega)).mp hh
      obtain ⟨t, ht, eT⟩ := e_cntb nc mt i op
      obtain ⟨f, hf, eF⟩ := e_cntb nc mf i op
      have hpos : ¬ (f_countHolding nc mt i op + f_countHolding nc mf i op) ≤ -1 := by
        rw [eT, eF, nI_add, Int32.le_iff_toInt_le, nI_toInt (by omega)]
        have : (-1 : Int32).toInt = -1 := by decide
        omega
      simp only [if_pos hh, if_neg hpos]
      split
      · rcases e_good_L nv nc mt mf hv op hn n (i + 1) (2 * nI i) (f_countHolding nc mt i op + f_countHolding nc mf i op) (by omega) with h1 | h1
        · rw [h1]; exact ⟨i, by omega, hb, Or.inl e2⟩
        · exact h1
      · rcases e_good_L nv nc mt mf hv op hn n (i + 1) (2 * nI i + 1) (f_countHolding nc mt i op + f_countHolding nc mf i op) (by omega) with h1 | h1
        · rw [h1]; exact ⟨i, by omega, hb, Or.inr (by rw [e2, nI_1])⟩
        · exact h1
    · simp only [if_neg hh]
      have hne : v ≠ i := by
        rintro rfl
        exact hh ((b_c0 hv (by omega)).mpr h3)
      exact ih _ _ (by omega) ⟨v, by omega, by omega, h3⟩
theorem e_lit {nv nc : Nat} {mt mf wt : Nat → Int32} (h : xWF nv nc mt mf wt) (hv vl : Int32) (hs : ∃ v, v < nv ∧ bt hv v = false) : xLit nv hv (f_firstLiteral nv nc mt mf hv vl) := by
  obtain ⟨v, h1, h2⟩ := hs
  exact e_some_L nv nc mt mf hv _ h.v2 h.c nv 0 (-1) (by omega) ⟨v, by omega, by omega, h2⟩
