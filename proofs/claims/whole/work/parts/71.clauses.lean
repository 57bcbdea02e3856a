/-! my own rows: class and reference say the same of a clause, of the cost, of the lightest weight -/
/-- a clause's two masks: bits below nv, apart -/
def xCl (nv : Nat) (t f : Int32) : Prop := ∀ v, v < 32 → (bt t v = true → v < nv ∧ bt f v = false) ∧ (bt f v = true → v < nv)
/-- the clauses as they lie in both -/
def xWF (nv nc : Nat) (mt mf wt : Nat → Int32) : Prop := 1 ≤ nv ∧ nv ≤ 10 ∧ nc ≤ 40 ∧ (∀ i, i < nc → xCl nv (mt i) (mf i)) ∧ ∀ i, i < nc → ∃ w : Nat, w ≤ 1000000 ∧ wt i = nI w
theorem xWF.v1 {nv nc : Nat} {mt mf wt : Nat → Int32} (h : xWF nv nc mt mf wt) : 1 ≤ nv := h.1
theorem xWF.v2 {nv nc : Nat} {mt mf wt : Nat → Int32} (h : xWF nv nc mt mf wt) : nv ≤ 10 := h.2.1
theorem xWF.c {nv nc : Nat} {mt mf wt : Nat → Int32} (h : xWF nv nc mt mf wt) : nc ≤ 40 := h.2.2.1
theorem xWF.cl {nv nc : Nat} {mt mf wt : Nat → Int32} (h : xWF nv nc mt mf wt) : ∀ i, i < nc → xCl nv (mt i) (mf i) := h.2.2.2.1
theorem xWF.w {nv nc : Nat} {mt mf wt : Nat → Int32} (h : xWF nv nc mt mf wt) : ∀ i, i < nc → ∃ w : Nat, w ≤ 1000000 ∧ wt i = nI w := h.2.2.2.2
theorem e_isTrue (mt mf : Nat → Int32) (i : Nat) (hv vl : Int32) : f_isTrue mt mf i hv vl = m_isTrue mt mf i hv vl := rfl
theorem e_isTrue0 (mt mf : Nat → Int32) (i : Nat) (hv vl : Int32) : m_isTrue mt mf i hv vl = 0 ↔ ((mt i) &&& vl = 0 ∧ ((mf i) &&& hv) &&& (vl ^^^ (-1)) = 0) := by
  unfold m_isTrue
  split
  · split <;> simp_all
  · simp_all
theorem e_isFalse {nv : Nat} {mt mf : Nat → Int32} {i : Nat} (h : xCl nv (mt i) (mf i)) (hv vl : Int32) : f_isFalse mt mf i hv vl = m_isFalse mt mf i hv vl := by
  unfold f_isFalse m_isFalse
  by_cases hu : ((mt i) ||| (mf i)) &&& (hv ^^^ (-1)) = 0
  · simp only [hu, if_true]
    have key : ((mt i) ||| (mf i)) &&& vl = mf i ↔ m_isTrue mt mf i hv vl = 0 := by
      rw [e_isTrue0, b_eq0, b_eq0]
      have hu' := (b_eq0 _).mp hu
      constructor
      · intro he
        have hb : ∀ v, v < 32 → ((bt (mt i) v || bt (mf i) v) && bt vl v) = bt (mf i) v := fun v _ => by rw [← b_or, ← b_and, he]
        constructor
        · intro v hv'
          have := hb v hv'
          have h1 := (h v hv').1
          rw [b_and]
          cases hm : bt (mt i) v
          · rfl
          · have := h1 hm
            simp_all
        · intro v hv'
          have := hb v hv'
          rw [b_and, b_and, b_not _ hv']
          cases hm : bt (mf i) v
          · rfl
          · simp_all
      · rintro ⟨h1, h2⟩
        apply b_ext
        intro v hv'
        have a1 := h1 v hv'
        have a2 := h2 v hv'
        have a3 := hu' v hv'
        have a4 := (h v hv').1
        rw [b_and] at a1
        rw [b_and, b_and, b_not _ hv'] at a2
        rw [b_and, b_or, b_not _ hv'] at a3
        rw [b_and, b_or]
        cases hm : bt (mt i) v <;> cases hf : bt (mf i) v <;> cases hl : bt vl v <;> cases hh : bt hv v <;> simp_all
    by_cases hk : m_isTrue mt mf i hv vl = 0
    · rw [if_pos (key.mpr hk), if_pos hk]
    · rw [if_neg (fun q => hk (key.mp q)), if_neg hk]
  · simp only [hu, if_false]
    split <;> rfl
theorem e_isOpen (mt mf : Nat → Int32) (i : Nat) (hv vl : Int32) : ¬ m_isOpen mt mf i hv vl = 0 ↔ (¬ f_withoutValue mt mf i hv = 0 ∧ f_isTrue mt mf i hv vl = 0) := by
  rw [e_isTrue]
  unfold m_isOpen f_withoutValue
  split
  · split <;> simp_all
  · simp_all
theorem e_isOpen1 (mt mf : Nat → Int32) (i : Nat) (hv vl : Int32) : m_isOpen mt mf i hv vl = 0 ∨ m_isOpen mt mf i hv vl = 1 := by
  unfold m_isOpen
  split
  · split <;> simp
  · simp
theorem e_open_L (mt mf : Nat → Int32) (hv vl : Int32) : ∀ (n i : Nat) (acc : Int64), i + n ≤ 40 → ∀ k, k < 64 → bl (f_openClauses_L mt mf hv vl n i acc) k = (bl acc k || (decide (i ≤ k ∧ k < i + n) && decide (¬ m_isOpen mt mf k hv vl = 0))) := by
  intro n
  induction n with
  | zero =>
    intro i acc hi k hk
    rw [f_openClauses_L]
    rw [show decide (i ≤ k ∧ k < i + 0) = false from decide_eq_false (by omega)]
    simp
  | succ n ih =>
    intro i acc hi k hk
    rw [f_openClauses_L]
    have hsplit : (i ≤ k ∧ k < i + (n + 1)) ↔ (k = i ∨ (i + 1 ≤ k ∧ k < i + 1 + n)) := by omega
    have hn : k = i → ¬ (i + 1 ≤ k ∧ k < i + 1 + n) := by omega
    by_cases ho : m_isOpen mt mf i hv vl = 0
    · have hrec : bl (f_openClauses_L mt mf hv vl n (i + 1) acc) k = (bl acc k || (decide (i ≤ k ∧ k < i + (n + 1)) && decide (¬ m_isOpen mt mf k hv vl = 0))) := by
        rw [ih (i + 1) acc (by omega) k hk]
        by_cases he : k = i
        · subst he; simp [ho]
        · simp only [hsplit, he, false_or]
      have hno := fun q => (e_isOpen mt mf i hv vl).mpr q ho
      split
      · exact hrec
      · split
        · rename_i h1 h2; exact absurd ⟨h1, h2⟩ hno
        · exact hrec
    · obtain ⟨h1, h2⟩ := (e_isOpen mt mf i hv vl).mp ho
      rw [if_neg h1, if_pos h2, ih (i + 1) _ (by omega) k hk, bl_or, bl_one (by omega) hk]
      by_cases he : k = i
      · subst he; simp [ho]
      · simp only [hsplit, he, false_or, decide_false, Bool.or_false]
theorem e_open {nc : Nat} (mt mf : Nat → Int32) (hv vl : Int32) (hc : nc ≤ 40) {k : Nat} (hk : k < 64) : bl (f_openClauses nc mt mf hv vl) k = (decide (k < nc) && decide (¬ m_isOpen mt mf k hv vl = 0)) := by
  unfold f_openClauses
  rw [e_open_L mt mf hv vl nc 0 0 (by omega) k hk, bl_0]
  simp
theorem e_brk1 (mt mf wt : Nat → Int32) (hv vl : Int32) : ∀ n i : Nat, m_breaks_L mt mf wt hv vl n i 1 = 1 := by
  intro n
  induction n with
  | zero => intro i; rfl
  | succ n ih =>
    intro i
    rw [m_breaks_L, if_neg (by decide)]
    exact ih (i + 1)
theorem e_brk (mt mf wt : Nat → Int32) (hv vl : Int32) : ∀ n i : Nat, m_breaks_L mt mf wt hv vl n i 0 = 0 ∨ m_breaks_L mt mf wt hv vl n i 0 = 1 := by
  intro n
  induction n with
  | zero => intro i; left; rfl
  | succ n ih =>
    intro i
    rw [m_breaks_L, if_pos rfl]
    split
    · split
      · exact ih (i + 1)
      · right; exact e_brk1 mt mf wt hv vl n (i + 1)
    · exact ih (i + 1)
theorem e_cost_L {nv nc : Nat} {mt mf wt : Nat → Int32} (h : xWF nv nc mt mf wt) (hv vl : Int32) : ∀ (n i : Nat) (acc : Int64), i + n = nc → f_costOf_L mt mf wt hv vl n i acc = if m_breaks_L mt mf wt hv vl n i 0 = 0 then m_costOf_L mt mf wt hv vl n i acc else -2 := by
  intro n
  induction n with
  | zero => intro i acc _; rfl
  | succ n ih =>
    intro i acc hi
    rw [f_costOf_L, m_breaks_L, m_costOf_L, e_isFalse (h.cl i (by omega)), if_pos (rfl : (0 : Int32) = 0)]
    by_cases h1 : m_isFalse mt mf i hv vl = 0
    · simp only [if_pos h1, ite_self]
      rw [ih (i + 1) acc (by omega)]
    · simp only [if_neg h1]
      by_cases h2 : wt i = 0
      · simp only [if_pos h2]
        rw [e_brk1, if_neg (by decide)]
      · simp only [if_neg h2]
        rw [ih (i + 1) _ (by omega)]
theorem e_cost {nv nc : Nat} {mt mf wt : Nat → Int32} (h : xWF nv nc mt mf wt) (hv vl : Int32) : f_costOf nc mt mf wt hv vl = if m_breaks nc mt mf wt hv vl = 0 then m_costOf nc mt mf wt hv vl else -2 := by
  unfold f_costOf m_breaks m_costOf
  exact e_cost_L h hv vl nc 0 0 (by omega)
set_option maxRecDepth 100000 in
theorem e_costb_L {nv nc : Nat} {mt mf wt : Nat → Int32} (h : xWF nv nc mt mf wt) (hv vl : Int32) : ∀ (n i a : Nat), i + n = nc → ∃ b, b ≤ a + n * 1000000 ∧ m_costOf_L mt mf wt hv vl n i (lN a) = lN b := by
  intro n
  induction n with
  | zero => intro i a _; exact ⟨a, by omega, rfl⟩
  | succ n ih =>
    intro i a hi
    rw [m_costOf_L]
    split
    · obtain ⟨b, hb, e⟩ := ih (i + 1) a (by omega)
      exact ⟨b, Nat.le_trans hb (Nat.add_le_add_left (Nat.mul_le_mul_right 1000000 (Nat.le_succ n)) a), e⟩
    · obtain ⟨w, hw, e⟩ := h.w i (by omega)
      rw [e, nI_l (by omega), lN_add]
      obtain ⟨b, hb, e⟩ := ih (i + 1) (a + w) (by omega)
      refine ⟨b, Nat.le_trans hb ?_, e⟩
      rw [Nat.succ_mul]
      generalize n * 1000000 = z
      omega
theorem e_costb {nv nc : Nat} {mt mf wt : Nat → Int32} (h : xWF nv nc mt mf wt) (hv vl : Int32) : ∃ b, b ≤ 40000000 ∧ m_costOf nc mt mf wt hv vl = lN b := by
  obtain ⟨b, hb, e⟩ := e_costb_L h hv vl nc 0 0 (by omega)
  have := h.c
  exact ⟨b, by omega, e⟩
theorem lN_neg {b : Nat} (hb : b < 2 ^ 31) (k : Int64) (hk : k.toInt < 0) : ¬ lN b = k := by
  intro h
  have := lN_toInt hb
  rw [h] at this
  omega
theorem lN_m2 {b : Nat} (hb : b < 2 ^ 31) : ¬ lN b = -2 := lN_neg hb _ (by decide)
theorem lN_m1 {b : Nat} (hb : b < 2 ^ 31) : ¬ lN b = -1 := lN_neg hb _ (by decide)
theorem e_light_L {nv nc : Nat} {mt mf wt : Nat → Int32} (h : xWF nv nc mt mf wt) (x : Int64) : ∀ (n i : Nat) (acc : Int32) (av : Nat → Int32), i + n = nc → (m_reckon_B wt x n i acc av).1 = f_lightestWeight_L wt x n i acc ∧ ∀ j, (m_reckon_B wt x n i acc av).2 j = if i ≤ j ∧ j < i + n ∧ bl x j = true then 0 else av j := by
  intro n
  induction n with
  | zero =>
    intro i acc av _
    rw [m_reckon_B, f_lightestWeight_L]
    exact ⟨rfl, fun j => by rw [if_neg (by omega)]⟩
  | succ n ih =>
    intro i acc av hi
    have hc := h.c
    rw [m_reckon_B, f_lightestWeight_L]
    have e0 := bl_c0 x (k := i) (by omega)
    have e1 := bl_c1 x (k := i) (by omega)
    have hup : ∀ (acc' : Int32) (av' : Nat → Int32), bl x i = true → av' = upd av i (vp_nar .boolean 0) → ∀ j, (m_reckon_B wt x n (i + 1) acc' av').2 j = if i ≤ j ∧ j < i + (n + 1) ∧ bl x j = true then 0 else av j := by
      intro acc' av' hb he j
      subst he
      rw [(ih (i + 1) acc' _ (by omega)).2 j]
      have hz : vp_nar .boolean 0 = 0 := by decide
      by_cases hj : j = i
      · subst hj
        rw [if_neg (by omega), if_pos ⟨Nat.le_refl _, by omega, hb⟩]
        simp [upd, hz]
      · have hiff : (i + 1 ≤ j ∧ j < i + 1 + n ∧ bl x j = true) ↔ (i ≤ j ∧ j < i + (n + 1) ∧ bl x j = true) := by
          constructor
          · rintro ⟨a, b, c⟩; exact ⟨by omega, by omega, c⟩
          · rintro ⟨a, b, c⟩; exact ⟨by omega, by omega, c⟩
        simp only [hiff]
        simp [upd, hj]
    by_cases hb : bl x i = true
    · have n0 : ¬ lg_cmp ((x >>> ((nI i).toInt64 &&& 63)) &&& 1) 0 = 0 := fun q => by rw [e0.mp q] at hb; cases hb
      simp only [if_pos (e1.mpr hb), if_neg n0]
      obtain ⟨w, hw, ew⟩ := h.w i (by omega)
      have hiff : wt i ≤ 0 ↔ wt i = 0 := by
        rw [ew]
        constructor
        · intro q
          rcases Nat.eq_zero_or_pos w with z | z
          · subst z; exact nI_0
          · exact absurd q (nI_nle z (by omega))
        · intro q; rw [q]; decide
      by_cases hw0 : wt i = 0
      · simp only [if_pos (hiff.mpr hw0), if_pos hw0]
        exact ⟨(ih (i + 1) _ _ (by omega)).1, hup _ _ hb rfl⟩
      · have n1 : ¬ wt i ≤ 0 := fun q => hw0 (hiff.mp q)
        simp only [if_neg n1, if_neg hw0]
        split
        · exact ⟨(ih (i + 1) _ _ (by omega)).1, hup _ _ hb rfl⟩
        · split
          · exact ⟨(ih (i + 1) _ _ (by omega)).1, hup _ _ hb rfl⟩
          · exact ⟨(ih (i + 1) _ _ (by omega)).1, hup _ _ hb rfl⟩
    · have hb' : bl x i = false := by cases hq : bl x i <;> simp_all
      rw [if_neg (fun q => hb (e1.mp q)), if_pos (e0.mpr hb')]
      refine ⟨(ih (i + 1) _ _ (by omega)).1, fun j => ?_⟩
      rw [(ih (i + 1) acc av (by omega)).2 j]
      by_cases hj : j = i
      · subst hj
        rw [if_neg (by omega), if_neg (fun q => hb q.2.2)]
      · have hiff : (i + 1 ≤ j ∧ j < i + 1 + n ∧ bl x j = true) ↔ (i ≤ j ∧ j < i + (n + 1) ∧ bl x j = true) := by
          constructor
          · rintro ⟨a, b, c⟩; exact ⟨by omega, by omega, c⟩
          · rintro ⟨a, b, c⟩; exact ⟨by omega, by omega, c⟩
        simp only [hiff]
theorem e_lightb_L {nv nc : Nat} {mt mf wt : Nat → Int32} (h : xWF nv nc mt mf wt) (x : Int64) : ∀ (n i : Nat) (acc : Int32), i + n = nc → (∃ w : Nat, w ≤ 1000000 ∧ acc = nI w) → ∃ w : Nat, w ≤ 1000000 ∧ f_lightestWeight_L wt x n i acc = nI w := by
  intro n
  induction n with
  | zero => intro i acc _ ha; exact ha
  | succ n ih =>
    intro i acc hi ha
    rw [f_lightestWeight_L]
    have hw := h.w i (by omega)
    split
    · exact ih _ _ (by omega) ha
    · split
      · exact ih _ _ (by omega) ha
      · split
        · exact ih _ _ (by omega) hw
        · split
          · exact ih _ _ (by omega) ha
          · exact ih _ _ (by omega) hw
theorem e_lightb {nv nc : Nat} {mt mf wt : Nat → Int32} (h : xWF nv nc mt mf wt) (x : Int64) : ∃ w : Nat, w ≤ 1000000 ∧ f_lightestWeight nc wt x = nI w :=
  e_lightb_L h x nc 0 0 (by omega) ⟨0, by omega, by decide⟩
