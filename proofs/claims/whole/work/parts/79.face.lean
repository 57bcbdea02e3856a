/-! my own rows: states, literals, clauses, the other methods -/
theorem b_nI {a : Nat} {w : Nat} (hw : w < 32) : bt (nI a) w = a.testBit w := by
  show (BitVec.ofNat 32 a).getLsbD w = _
  rw [BitVec.getLsbD_ofNat]
  simp [hw]
theorem e_pow : ∀ n, n < 11 → (1 : Int32) <<< (nI n &&& 31) = nI (2 ^ n) ∧ 2 ^ n ≤ 1024 := by decide +kernel
theorem e_bits {nv : Nat} (hn : nv ≤ 10) (hv : Int32) : (hv &&& (xAV nv ^^^ (-1))) = 0 ↔ (¬ hv < 0 ∧ ¬ ((1 : Int32) <<< ((nI nv) &&& 31)) ≤ hv) := by
  obtain ⟨hp, hp2⟩ := e_pow nv (by omega)
  rw [hp]
  constructor
  · intro h
    have hb := (b_eq0 _).mp h
    obtain ⟨a, ha, e⟩ := e_nat (x := hv) (n := nv) (by omega) (fun i hi hx => by
      have := hb i hi
      rw [b_and, b_not _ hi, hx, b_av nv (by omega) i hi] at this
      simpa using this)
    rw [e]
    exact ⟨nI_pos (by omega), nI_ge ha (by omega)⟩
  · rintro ⟨h1, h2⟩
    obtain ⟨a, ha, e⟩ := nI_of h1
    subst e
    have h3 : a < 2 ^ nv := Nat.lt_of_not_le fun q => h2 (nI_le q ha)
    rw [b_eq0]
    intro i hi
    rw [b_and, b_not _ hi, b_av nv (by omega) i hi, b_nI hi]
    by_cases e : i < nv
    · simp [e]
    · rw [Nat.testBit_lt_two_pow (Nat.lt_of_lt_of_le h3 (Nat.pow_le_pow_right (by omega) (by omega)))]
      rfl
theorem e_state {nv : Nat} (hn : nv ≤ 10) (hv vl : Int32) : f_isState (xAV nv) hv vl = 0 ↔ ¬ m_noState nv hv vl = 0 := by
  unfold f_isState m_noState
  have h := e_bits hn hv
  by_cases h1 : hv &&& (xAV nv ^^^ (-1)) = 0
  · obtain ⟨a, b⟩ := h.mp h1
    rw [if_pos h1, if_neg a, if_neg b]
    split <;> decide
  · rw [if_neg h1]
    by_cases a : hv < 0
    · rw [if_pos a]; decide
    · rw [if_neg a]
      by_cases b : ((1 : Int32) <<< ((nI nv) &&& 31)) ≤ hv
      · rw [if_pos b]; decide
      · exact absurd (h.mpr ⟨a, b⟩) h1
theorem e_state1 {nv : Nat} (hv vl : Int32) : m_noState nv hv vl = 0 ∨ m_noState nv hv vl = 1 := by
  unfold m_noState
  split
  · right; rfl
  · split
    · right; rfl
    · split
      · left; rfl
      · right; rfl
/-- how many of the bits i .. i+n-1 -/
def xcr (x : Int32) : Nat → Nat → Nat
  | 0, _ => 0
  | n + 1, i => (if bt x i then 1 else 0) + xcr x n (i + 1)
theorem m_count_L_eq (x : Int32) : ∀ n i a : Nat, i + n ≤ 32 → m_count_L x n i (nI a) = nI (a + xcr x n i) := by
  intro n
  induction n with
  | zero => intro i a _; rfl
  | succ n ih =>
    intro i a hi
    rw [m_count_L, xcr, b_tst x (by omega)]
    cases bt x i
    · rw [if_neg (by decide), if_neg (by decide), Int32.add_zero, ih (i + 1) a (by omega), Nat.zero_add]
    · rw [if_pos rfl, if_pos rfl, nI_1, ih (i + 1) (a + 1) (by omega)]
      congr 1; omega
theorem m_count_eq (x : Int32) : m_count x = nI (xcr x 10 0) := by
  unfold m_count
  have := m_count_L_eq x 10 0 0 (by omega)
  rw [Nat.zero_add] at this
  exact this
theorem xcr_le (x : Int32) : ∀ n i : Nat, xcr x n i ≤ n := by
  intro n
  induction n with
  | zero => intro i; exact Nat.le_refl _
  | succ n ih => intro i; rw [xcr]; have := ih (i + 1); split <;> omega
theorem xcr_ie (x y : Int32) : ∀ n i : Nat, xcr (x ||| y) n i + xcr (x &&& y) n i = xcr x n i + xcr y n i := by
  intro n
  induction n with
  | zero => intro i; rfl
  | succ n ih =>
    intro i
    rw [xcr, xcr, xcr, xcr, b_or, b_and]
    have := ih (i + 1)
    cases bt x i <;> cases bt y i <;> simp <;> omega
theorem xcr_0 {x : Int32} : ∀ n i : Nat, xcr x n i = 0 → ∀ v, i ≤ v → v < i + n → bt x v = false := by
  intro n
  induction n with
  | zero => intro i _ v h1 h2; omega
  | succ n ih =>
    intro i h v h1 h2
    rw [xcr] at h
    by_cases e : v = i
    · subst e
      cases hb : bt x v
      · rfl
      · rw [hb] at h; simp at h
    · exact ih (i + 1) (by omega) v (by omega) (by omega)
/-- a literal or none -/
def xLv (nv : Nat) (x : Int32) : Prop := x = -1 ∨ ∃ t, t < 2 * nv ∧ x = nI t
def xpr (x : Int32) : Nat := if x = -1 then 0 else 1
theorem e_lv {nv : Nat} (hn : nv ≤ 10) {x : Int32} (h : ¬ f_isLiteralOrAbsent nv x = 0) : xLv nv x ∧ m_noLiteral nv x = 0 := by
  unfold f_isLiteralOrAbsent at h
  unfold m_noLiteral
  have e2 : (2 : Int32) * nI nv = nI (2 * nv) := by
    have : ∀ n, n < 11 → (2 : Int32) * nI n = nI (2 * n) := by decide +kernel
    exact this nv (by omega)
  by_cases h1 : x < -1
  · rw [if_pos h1] at h; exact absurd rfl h
  · rw [if_neg h1] at h
    by_cases h2 : 2 * nI nv ≤ x
    · rw [if_pos h2] at h; exact absurd rfl h
    · rw [if_neg h1, if_pos (Int32.not_le.mp h2)]
      refine ⟨?_, rfl⟩
      by_cases h3 : x < 0
      · left
        rw [Int32.lt_iff_toInt_lt] at h1 h3
        have c1 : (-1 : Int32).toInt = -1 := by decide
        have c2 : (0 : Int32).toInt = 0 := by decide
        exact Int32.toInt_inj.mp (by omega)
      · right
        obtain ⟨t, ht, e⟩ := nI_of h3
        subst e
        rw [e2] at h2
        exact ⟨t, Nat.lt_of_not_le fun q => h2 (nI_le q ht), rfl⟩
theorem e_nolv {nv : Nat} {x : Int32} (h : f_isLiteralOrAbsent nv x = 0) : ¬ m_noLiteral nv x = 0 := by
  unfold f_isLiteralOrAbsent at h
  unfold m_noLiteral
  by_cases h1 : x < -1
  · rw [if_pos h1]; decide
  · rw [if_neg h1] at h ⊢
    by_cases h2 : 2 * nI nv ≤ x
    · rw [if_neg (Int32.not_lt.mpr h2)]; decide
    · rw [if_neg h2] at h; exact absurd h (by decide)
theorem e_t1 : ∀ t, t < 20 → f_bitIfTrue (nI t) = m_says (nI t) 0 ∧ f_bitIfFalse (nI t) = m_says (nI t) 1 ∧ f_countIfPresent (nI t) = 1 ∧ (0 : Int32) ≤ nI t ∧ ¬ nI t = -1 ∧ xcr (f_bitIfTrue (nI t)) 10 0 + xcr (f_bitIfFalse (nI t)) 10 0 = 1 := by decide +kernel
theorem e_t2 : ∀ t, t < 20 → ∀ w, w < 32 → (bt (f_bitIfTrue (nI t)) w = true → w = t / 2) ∧ (bt (f_bitIfFalse (nI t)) w = true → w = t / 2) := by decide +kernel
theorem e_lvs {nv : Nat} (hn : nv ≤ 10) {x : Int32} (h : xLv nv x) : f_bitIfTrue x = m_says x 0 ∧ f_bitIfFalse x = m_says x 1 ∧ f_countIfPresent x = nI (xpr x) ∧ ((if 0 ≤ x then 1 else 0 : Int32) = nI (xpr x)) ∧ xcr (f_bitIfTrue x) 10 0 + xcr (f_bitIfFalse x) 10 0 = xpr x ∧ xpr x ≤ 1 ∧ ∀ w, w < 32 → (bt (f_bitIfTrue x) w = true → w < nv) ∧ (bt (f_bitIfFalse x) w = true → w < nv) := by
  rcases h with rfl | ⟨t, ht, rfl⟩
  · refine ⟨by decide, by decide, by decide, by decide, by decide, by decide, fun w hw => ⟨fun hb => ?_, fun hb => ?_⟩⟩
    · rw [show f_bitIfTrue (-1) = 0 by decide, b_0] at hb; exact Bool.noConfusion hb
    · rw [show f_bitIfFalse (-1) = 0 by decide, b_0] at hb; exact Bool.noConfusion hb
  · obtain ⟨a1, a2, a3, a4, a5, a6⟩ := e_t1 t (by omega)
    have hx : xpr (nI t) = 1 := by unfold xpr; rw [if_neg a5]
    rw [hx]
    refine ⟨a1, a2, a3, by rw [if_pos a4]; decide, a6, Nat.le_refl _, fun w hw => ?_⟩
    obtain ⟨b1, b2⟩ := e_t2 t (by omega) w hw
    exact ⟨fun hb => by have := b1 hb; omega, fun hb => by have := b2 hb; omega⟩
/-- the masks of a clause -/
def xT (a b c d : Int32) : Int32 := (((f_bitIfTrue a) ||| (f_bitIfTrue b)) ||| (f_bitIfTrue c)) ||| (f_bitIfTrue d)
def xF (a b c d : Int32) : Int32 := (((f_bitIfFalse a) ||| (f_bitIfFalse b)) ||| (f_bitIfFalse c)) ||| (f_bitIfFalse d)
theorem xcr_or (x y : Int32) (n i : Nat) : xcr (x ||| y) n i ≤ xcr x n i + xcr y n i := by have := xcr_ie x y n i; omega
theorem e_used (a b c d : Int32) : (((f_variableBit a) ||| (f_variableBit b)) ||| (f_variableBit c)) ||| (f_variableBit d) = xT a b c d ||| xF a b c d := by
  apply b_ext
  intro i hi
  unfold f_variableBit xT xF
  simp only [b_or]
  cases bt (f_bitIfTrue a) i <;> cases bt (f_bitIfTrue b) i <;> cases bt (f_bitIfTrue c) i <;> cases bt (f_bitIfTrue d) i <;> cases bt (f_bitIfFalse a) i <;> cases bt (f_bitIfFalse b) i <;> cases bt (f_bitIfFalse c) i <;> simp
theorem e_lits {nv : Nat} (hn : nv ≤ 10) {a b c d : Int32} (ha : xLv nv a) (hb : xLv nv b) (hc : xLv nv c) (hd : xLv nv d) :
    (∀ w, w < 32 → (bt (xT a b c d) w = true → w < nv) ∧ (bt (xF a b c d) w = true → w < nv)) ∧ xcr (xT a b c d ||| xF a b c d) 10 0 + xcr (xT a b c d &&& xF a b c d) 10 0 ≤ xpr a + xpr b + xpr c + xpr d := by
  obtain ⟨-, -, -, -, a5, -, a7⟩ := e_lvs hn ha
  obtain ⟨-, -, -, -, b5, -, b7⟩ := e_lvs hn hb
  obtain ⟨-, -, -, -, c5, -, c7⟩ := e_lvs hn hc
  obtain ⟨-, -, -, -, d5, -, d7⟩ := e_lvs hn hd
  constructor
  · intro w hw
    unfold xT xF
    simp only [b_or, Bool.or_eq_true]
    exact ⟨fun h => by
      rcases h with ((h | h) | h) | h
      · exact (a7 w hw).1 h
      · exact (b7 w hw).1 h
      · exact (c7 w hw).1 h
      · exact (d7 w hw).1 h, fun h => by
      rcases h with ((h | h) | h) | h
      · exact (a7 w hw).2 h
      · exact (b7 w hw).2 h
      · exact (c7 w hw).2 h
      · exact (d7 w hw).2 h⟩
  · rw [xcr_ie]
    have t1 := xcr_or (((f_bitIfTrue a) ||| (f_bitIfTrue b)) ||| (f_bitIfTrue c)) (f_bitIfTrue d) 10 0
    have t2 := xcr_or ((f_bitIfTrue a) ||| (f_bitIfTrue b)) (f_bitIfTrue c) 10 0
    have t3 := xcr_or (f_bitIfTrue a) (f_bitIfTrue b) 10 0
    have f1 := xcr_or (((f_bitIfFalse a) ||| (f_bitIfFalse b)) ||| (f_bitIfFalse c)) (f_bitIfFalse d) 10 0
    have f2 := xcr_or ((f_bitIfFalse a) ||| (f_bitIfFalse b)) (f_bitIfFalse c) 10 0
    have f3 := xcr_or (f_bitIfFalse a) (f_bitIfFalse b) 10 0
    unfold xT xF
    omega
