/-! my own rows: the clauses behind a false one: the way back through the steps, and the closure by sweeps, are the same set -/
/-- v is a variable of clause k -/
def xV (mt mf : Nat → Int32) (k v : Nat) : Prop := bt ((mt k) ||| (mf k)) v = true
/-- the state of growing, class and reference side by side; pv j: the variable of step j -/
def xG (nv nc : Nat) (mt mf : Nat → Int32) (hv gh : Int32) (sv : Nat → Int32) (sr : Nat → Nat) (st : Nat) (re : Nat → Int32) (pv : Nat → Nat) : Prop :=
  (∀ v, v < 32 → bt hv v = true → bt gh v = true) ∧
  (∀ j, j < st → pv j < nv ∧ sv j = (1 : Int32) <<< (nI (pv j) &&& 31) ∧ bt hv (pv j) = false ∧ bt gh (pv j) = true ∧ sr j < nc ∧ re (pv j) = nI (sr j)) ∧
  (∀ v, v < nv → re v = -1 ∨ ∃ j, j < st ∧ pv j = v) ∧
  (∀ j, j < st → ∀ v, v < 32 → xV mt mf (sr j) v → bt hv v = true ∨ ∃ i, i ≤ j ∧ pv i = v) ∧
  (∀ v, v < 32 → bt gh v = true → bt hv v = true ∨ ∃ j, j < st ∧ pv j = v) ∧
  (∀ i j, i < st → j < st → pv i = pv j → i = j) ∧
  st + xmu nv gh ≤ nv
theorem xG.start {nv nc : Nat} {mt mf : Nat → Int32} {hv : Int32} {sv : Nat → Int32} {sr : Nat → Nat} {re : Nat → Int32} {pv : Nat → Nat} (hre : ∀ v, v < nv → re v = -1) : xG nv nc mt mf hv hv sv sr 0 re pv :=
  ⟨fun _ _ h => h, fun j h => by omega, fun v hv => Or.inl (hre v hv), fun j h => by omega, fun v _ h => Or.inl h, fun i j h => by omega, by have := xmu_le nv hv; omega⟩
theorem xG.step {nv nc : Nat} {mt mf wt : Nat → Int32} (hw : xWF nv nc mt mf wt) {hv gh : Int32} {sv : Nat → Int32} {sr : Nat → Nat} {st : Nat} {re : Nat → Int32} {pv : Nat → Nat} (h : xG nv nc mt mf hv gh sv sr st re pv) {k v : Nat} (hk : k < nc) (hv1 : v < nv) (hg : bt gh v = false) (hu : f_withoutValue mt mf k gh = (1 : Int32) <<< (nI v &&& 31)) :
    xG nv nc mt mf hv (gh ||| (f_withoutValue mt mf k gh)) (upd sv st (f_withoutValue mt mf k gh)) (va_up sr st k) (st + 1) (m_grow_B (nI k) (f_withoutValue mt mf k gh) nv 0 re) (va_up pv st v) ∧ xmu nv (gh ||| (f_withoutValue mt mf k gh)) + 1 = xmu nv gh := by
  obtain ⟨g1, g2, g3, g4, g5, g6, g7⟩ := h
  have hn := hw.v2
  rw [hu]
  have hbit : ∀ w, w < 32 → bt (gh ||| ((1 : Int32) <<< (nI v &&& 31))) w = (bt gh w || decide (w = v)) := fun w hw' => by rw [b_or, b_one (by omega) hw']
  have hmu : xmu nv (gh ||| ((1 : Int32) <<< (nI v &&& 31))) + 1 = xmu nv gh := xmu_set hv1 hg (by rw [hbit v (by omega)]; simp) (fun w h1 h2 => by rw [hbit w (by omega)]; simp [h2])
  have hne : ∀ j, j < st → pv j ≠ v := fun j hj e => by
    have := (g2 j hj).2.2.2.1
    rw [e, hg] at this
    cases this
  have hre : ∀ q, q < nv → m_grow_B (nI k) ((1 : Int32) <<< (nI v &&& 31)) nv 0 re q = if q = v then nI k else re q := fun q hq => by
    rw [m_growB]
    by_cases e : q = v
    · rw [if_pos ⟨by omega, by omega, by rw [e]⟩, if_pos e]
    · rw [if_neg (fun c => e (b_oneI (by omega) (by omega) c.2.2).symm), if_neg e]
  have hold : ∀ j, j < st → va_up pv st v j = pv j := fun j hj => va_up_ne _ _ (by omega)
  have hnew : va_up pv st v st = v := va_up_self _ _ _
  refine ⟨⟨fun w hw' hb => by rw [hbit w hw', g1 w hw' hb]; rfl, fun j hj => ?_, fun q hq => ?_, fun j hj w hw' hx => ?_, fun w hw' hb => ?_, fun i j hi hj e => ?_, by omega⟩, hmu⟩
  · by_cases e : j = st
    · subst e
      rw [hnew, va_up_self]
      refine ⟨hv1, by simp [upd], ?_, by rw [hbit v (by omega)]; simp, hk, by rw [hre v hv1, if_pos rfl]⟩
      cases hb : bt hv v
      · rfl
      · rw [g1 v (by omega) hb] at hg; cases hg
    · have hj' : j < st := by omega
      obtain ⟨a1, a2, a3, a4, a5, a6⟩ := g2 j hj'
      rw [hold j hj', va_up_ne _ _ e]
      refine ⟨a1, by simp [upd, e, a2], a3, by rw [hbit _ (by omega), a4]; rfl, a5, by rw [hre _ a1, if_neg (hne j hj'), a6]⟩
  · rw [hre q hq]
    by_cases e : q = v
    · exact Or.inr ⟨st, by omega, by rw [hnew, e]⟩
    · rw [if_neg e]
      rcases g3 q hq with h1 | ⟨j, hj, h1⟩
      · exact Or.inl h1
      · exact Or.inr ⟨j, by omega, by rw [hold j hj, h1]⟩
  · by_cases e : j = st
    · subst e
      rw [va_up_self] at hx
      cases hgw : bt gh w
      · right
        refine ⟨j, Nat.le_refl _, ?_⟩
        rw [hnew]
        have h1 : bt (f_withoutValue mt mf k gh) w = true := by
          show bt (((mt k) ||| (mf k)) &&& (gh ^^^ (-1))) w = true
          rw [b_and, b_not _ hw', hgw]
          have hx' : bt ((mt k) ||| (mf k)) w = true := hx
          rw [hx']; rfl
        rw [hu, b_one (by omega) hw'] at h1
        exact (by simpa using h1 : w = v).symm
      · rcases g5 w hw' hgw with h1 | ⟨i, hi, h1⟩
        · exact Or.inl h1
        · exact Or.inr ⟨i, by omega, by rw [hold i hi, h1]⟩
    · have hj' : j < st := by omega
      rw [va_up_ne _ _ e] at hx
      rcases g4 j hj' w hw' hx with h1 | ⟨i, hi, h1⟩
      · exact Or.inl h1
      · exact Or.inr ⟨i, hi, by rw [hold i (by omega), h1]⟩
  · rw [hbit w hw'] at hb
    by_cases e : w = v
    · exact Or.inr ⟨st, by omega, by rw [hnew, e]⟩
    · have hb' : bt gh w = true := by simpa [e] using hb
      rcases g5 w hw' hb' with h1 | ⟨j, hj, h1⟩
      · exact Or.inl h1
      · exact Or.inr ⟨j, by omega, by rw [hold j hj, h1]⟩
  · by_cases ei : i = st
    · by_cases ej : j = st
      · omega
      · subst ei
        rw [hnew, hold j (by omega)] at e
        exact absurd e.symm (hne j (by omega))
    · by_cases ej : j = st
      · subst ej
        rw [hnew, hold i (by omega)] at e
        exact absurd e (hne i (by omega))
      · rw [hold i (by omega), hold j (by omega)] at e
        exact g6 i j (by omega) (by omega) e
/-- closed under reasons at clause k -/
def xCA (nv nc : Nat) (mt mf re : Nat → Int32) (S : Int64) (k : Nat) : Prop := bl S k = true → ∀ v, v < nv → xV mt mf k v → ∀ r, r < nc → re v = nI r → bl S r = true
def xSub (S T : Int64) : Prop := ∀ q, q < 64 → bl S q = true → bl T q = true
theorem xSub.eq {S T : Int64} (h1 : xSub S T) (h2 : xSub T S) : S = T := bl_ext fun i hi => by
  cases hs : bl S i
  · cases ht : bl T i
    · rfl
    · rw [h2 i hi ht] at hs; cases hs
  · exact (h1 i hi hs).symm
/-- what may stand in re -/
def xRe (nv nc : Nat) (re : Nat → Int32) : Prop := ∀ v, v < nv → re v = -1 ∨ ∃ r, r < nc ∧ re v = nI r
theorem nI_m1 {r : Nat} (h : r < 2 ^ 31) : ¬ nI r = -1 := fun e => by
  have := nI_toInt h
  rw [e] at this
  have h1 : (-1 : Int32).toInt = -1 := by decide
  omega
theorem e_gA {nv nc : Nat} {mt mf re : Nat → Int32} (hn : nv ≤ 10) (hc : nc ≤ 40) (hre : xRe nv nc re) {i : Nat} (hi : i < nc) : ∀ (n j : Nat) (S : Int64), j + n ≤ nv →
    xSub S (m_gather_A mt mf re i n j S) ∧ (∀ T, xSub S T → xCA nv nc mt mf re T i → xSub (m_gather_A mt mf re i n j S) T) ∧ (bl S i = true → ∀ v, j ≤ v → v < j + n → xV mt mf i v → ∀ r, r < nc → re v = nI r → bl (m_gather_A mt mf re i n j S) r = true) := by
  intro n
  induction n with
  | zero => intro j S _; exact ⟨fun _ _ h => h, fun T h _ => h, fun _ v h1 h2 => by omega⟩
  | succ n ih =>
    intro j S hj
    rw [m_gather_A]
    have c1 := bl_c1 S (k := i) (by omega)
    have c2 := b_c1 ((mt i) ||| (mf i)) (k := j) (by omega)
    have skip : (bl S i = true → xV mt mf i j → ∀ r, r < nc → ¬ re j = nI r) → xSub S (m_gather_A mt mf re i n (j + 1) S) ∧ (∀ T, xSub S T → xCA nv nc mt mf re T i → xSub (m_gather_A mt mf re i n (j + 1) S) T) ∧ (bl S i = true → ∀ v, j ≤ v → v < j + (n + 1) → xV mt mf i v → ∀ r, r < nc → re v = nI r → bl (m_gather_A mt mf re i n (j + 1) S) r = true) := by
      intro hno
      obtain ⟨a, b, c⟩ := ih (j + 1) S (by omega)
      refine ⟨a, b, fun hb v h1 h2 h3 r h4 h5 => ?_⟩
      by_cases e : v = j
      · subst e; exact absurd h5 (hno hb h3 r h4)
      · exact c hb v (by omega) (by omega) h3 r h4 h5
    by_cases h1 : bl S i = true
    · simp only [if_pos (c1.mpr h1)]
      by_cases h2 : bt ((mt i) ||| (mf i)) j = true
      · simp only [if_pos (c2.mpr h2)]
        rcases hre j (by omega) with e | ⟨r, hr, e⟩
        · have hneg : re j < 0 := by rw [e]; decide
          simp only [if_pos hneg]
          exact skip fun _ _ r hr e2 => nI_m1 (r := r) (by omega) (e2.symm.trans e)
        · have hneg : ¬ re j < 0 := by rw [e]; exact nI_pos (by omega)
          simp only [if_neg hneg]
          simp only [e]
          obtain ⟨a, b, c⟩ := ih (j + 1) (S ||| ((1 : Int64) <<< ((nI r).toInt64 &&& 63))) (by omega)
          have hin : ∀ q, q < 64 → bl (S ||| ((1 : Int64) <<< ((nI r).toInt64 &&& 63))) q = (bl S q || decide (q = r)) := fun q hq => by rw [bl_or, bl_one (by omega) hq]
          refine ⟨fun q hq hb => a q hq (by rw [hin q hq, hb]; rfl), fun T hT hC => b T (fun q hq hb => ?_) hC, fun hb v h3 h4 h5 r' h6 h7 => ?_⟩
          · rw [hin q hq] at hb
            by_cases eq : q = r
            · subst eq
              exact hC (hT i (by omega) h1) j (by omega) h2 q hr e
            · exact hT q hq (by simpa [eq] using hb)
          · by_cases ev : v = j
            · subst ev
              have er : r' = r := (nI_eq (by omega) (by omega)).mp (h7.symm.trans e)
              subst er
              exact a r' (by omega) (by rw [hin r' (by omega)]; simp)
            · exact c (by rw [hin i (by omega), h1]; rfl) v (by omega) (by omega) h5 r' h6 h7
      · simp only [if_neg (fun q => h2 (c2.mp q))]
        exact skip fun _ hx => absurd hx h2
    · simp only [if_neg (fun q => h1 (c1.mp q))]
      exact skip fun hb => absurd hb h1
theorem e_gB {nv nc : Nat} {mt mf re : Nat → Int32} (hn : nv ≤ 10) (hc : nc ≤ 40) (hre : xRe nv nc re) : ∀ (n i : Nat) (S : Int64), i + n ≤ nc →
    xSub S (m_gather_B nv mt mf re n i S) ∧ (∀ T, xSub S T → (∀ k, k < nc → xCA nv nc mt mf re T k) → xSub (m_gather_B nv mt mf re n i S) T) ∧ (∀ k, i ≤ k → k < i + n → bl S k = true → ∀ v, v < nv → xV mt mf k v → ∀ r, r < nc → re v = nI r → bl (m_gather_B nv mt mf re n i S) r = true) := by
  intro n
  induction n with
  | zero => intro i S _; exact ⟨fun _ _ h => h, fun T h _ => h, fun k h1 h2 => by omega⟩
  | succ n ih =>
    intro i S hi
    rw [m_gather_B]
    obtain ⟨a, b, c⟩ := e_gA (mt := mt) (mf := mf) hn hc hre (show i < nc by omega) nv 0 S (by omega)
    try dsimp only
    obtain ⟨a2, b2, c2⟩ := ih (i + 1) (m_gather_A mt mf re i nv 0 S) (by omega)
    refine ⟨fun q hq hb => a2 q hq (a q hq hb), fun T hT hC => b2 T (b T hT (hC i (by omega))) hC, fun k h1 h2 hb v h3 h4 r h5 h6 => ?_⟩
    by_cases e : k = i
    · subst e
      exact a2 r (by omega) (c hb v (by omega) (by omega) h4 r h5 h6)
    · exact c2 k (by omega) (by omega) (a k (by omega) hb) v h3 h4 r h5 h6
/-- how many of the first n are in T and not in S -/
def xms : Nat → Int64 → Int64 → Nat
  | 0, _, _ => 0
  | n + 1, T, S => xms n T S + if bl T n && !bl S n then 1 else 0
theorem xms_le (n : Nat) (T S : Int64) : xms n T S ≤ n := by
  induction n with
  | zero => exact Nat.le_refl _
  | succ n ih => rw [xms]; split <;> omega
theorem xms_mono {n : Nat} {T S S' : Int64} (h : ∀ q, q < n → bl S q = true → bl S' q = true) : xms n T S' ≤ xms n T S := by
  induction n with
  | zero => exact Nat.le_refl _
  | succ n ih =>
    rw [xms, xms]
    have h1 := ih (fun q hq => h q (by omega))
    have h2 := h n (by omega)
    cases hT : bl T n <;> cases hS : bl S n <;> cases hS' : bl S' n <;> simp_all <;> omega
theorem xms_lt {n : Nat} {T S S' : Int64} (h : ∀ q, q < n → bl S q = true → bl S' q = true) {q : Nat} (hq : q < n) (hT : bl T q = true) (h0 : bl S q = false) (h1 : bl S' q = true) : xms n T S' + 1 ≤ xms n T S := by
  induction n with
  | zero => omega
  | succ n ih =>
    rw [xms, xms]
    by_cases e : q = n
    · subst e
      have := xms_mono (n := q) (T := T) (S := S) (S' := S') (fun z hz => h z (by omega))
      rw [hT, h0, h1]
      simp; omega
    · have h2 := ih (fun z hz => h z (by omega)) (by omega)
      have h3 := h n (by omega)
      cases hT : bl T n <;> cases hS : bl S n <;> cases hS' : bl S' n <;> simp_all <;> omega
theorem e_gL {nv nc : Nat} {mt mf re : Nat → Int32} (hn : nv ≤ 10) (hc : nc ≤ 40) (hre : xRe nv nc re) {T : Int64} (hT : ∀ q, q < 64 → bl T q = true → q < nc) (hC : ∀ k, k < nc → xCA nv nc mt mf re T k) : ∀ (n : Nat) (S : Int64), xms 40 T S + 2 ≤ n → xSub S T → (∀ U, xSub S U → (∀ k, k < nc → xCA nv nc mt mf re U k) → xSub T U) → m_gather_L nv nc mt mf re n S 1 = some T := by
  intro n
  induction n with
  | zero => intro S h; omega
  | succ n ih =>
    intro S hms hST hmin
    rw [m_gather_L, if_neg (by decide)]
    obtain ⟨a, b, c⟩ := e_gB (mt := mt) (mf := mf) hn hc hre nc 0 S (by omega)
    try dsimp only
    by_cases he : m_gather_B nv mt mf re nc 0 S = S
    · rw [if_pos ((lg_cmp_eq _ _).mpr he), he]
      have hcl : ∀ k, k < nc → xCA nv nc mt mf re S k := fun k hk hb v h1 h2 r h3 h4 => by
        have := c k (by omega) (by omega) hb v h1 h2 r h3 h4
        rw [he] at this
        exact this
      have hTS : xSub T S := hmin S (fun _ _ h => h) hcl
      have hEq : S = T := hST.eq hTS
      cases n with
      | zero => omega
      | succ n => rw [m_gather_L, if_pos rfl, hEq]
    · rw [if_neg (fun q => he ((lg_cmp_eq _ _).mp q))]
      have hS'T := b T hST hC
      have hex : ∃ q, q < 64 ∧ bl S q = false ∧ bl (m_gather_B nv mt mf re nc 0 S) q = true := by
        apply Classical.byContradiction
        intro hno
        refine he (bl_ext fun q hq => ?_)
        cases hs : bl S q
        · cases hs' : bl (m_gather_B nv mt mf re nc 0 S) q
          · rfl
          · exact absurd ⟨q, hq, hs, hs'⟩ hno
        · exact a q hq hs
      obtain ⟨q, hq, h0, h1⟩ := hex
      have hqT := hS'T q hq h1
      have := xms_lt (n := 40) (T := T) (S := S) (S' := m_gather_B nv mt mf re nc 0 S) (fun z hz => a z (by omega)) (by have := hT q hq hqT; omega) hqT h0 h1
      exact ih _ (by omega) hS'T (fun U hU hCU => hmin U (fun z hz hb => hU z hz (a z hz hb)) hCU)
/-- the way back -/
theorem e_back {nv nc : Nat} {mt mf wt : Nat → Int32} (hw : xWF nv nc mt mf wt) {hv gh : Int32} {sv : Nat → Int32} {sr : Nat → Nat} {st : Nat} {re : Nat → Int32} {pv : Nat → Nat} (h : xG nv nc mt mf hv gh sv sr st re pv) : ∀ (n : Nat) (found : Int64) (inv : Int32), n ≤ st →
    (∀ k, k < 64 → bl found k = true → k < nc ∧ ∀ v, v < 32 → xV mt mf k v → bt inv v = true) → (∀ j, n ≤ j → j < st → bt inv (pv j) = true → bl found (sr j) = true) →
    xSub found (f_subsetBehind_L mt mf sv sr n found inv) ∧ (∀ k, k < 64 → bl (f_subsetBehind_L mt mf sv sr n found inv) k = true → k < nc) ∧ (∀ k, k < nc → xCA nv nc mt mf re (f_subsetBehind_L mt mf sv sr n found inv) k) ∧
    (∀ U, xSub found U → (∀ v, v < nv → bt inv v = true → ∃ k, k < nc ∧ bl U k = true ∧ xV mt mf k v) → (∀ k, k < nc → xCA nv nc mt mf re U k) → xSub (f_subsetBehind_L mt mf sv sr n found inv) U) := by
  obtain ⟨g1, g2, g3, g4, g5, g6, g7⟩ := h
  have hnv := hw.v2
  have hc := hw.c
  intro n
  induction n with
  | zero =>
    intro found inv _ I1 I2
    rw [f_subsetBehind_L]
    refine ⟨fun _ _ h => h, fun k hk hb => (I1 k hk hb).1, fun k hk hb v hv1 hx r hr e => ?_, fun U hU _ _ => hU⟩
    have h1 := (I1 k (by omega) hb).2 v (by omega) hx
    rcases g3 v hv1 with h2 | ⟨j, hj, h2⟩
    · exact absurd (e.symm.trans h2) (nI_m1 (by omega))
    · obtain ⟨a1, a2, a3, a4, a5, a6⟩ := g2 j hj
      rw [h2] at a6
      have er : r = sr j := (nI_eq (by omega) (by omega)).mp (e.symm.trans a6)
      rw [er]
      exact I2 j (by omega) hj (by rw [h2]; exact h1)
  | succ n ih =>
    intro found inv hn I1 I2
    rw [f_subsetBehind_L]
    obtain ⟨a1, a2, a3, a4, a5, a6⟩ := g2 n (by omega)
    have hz : (inv &&& sv n = 0) ↔ bt inv (pv n) = false := by
      rw [a2, b_eq0]
      constructor
      · intro q
        have := q (pv n) (by omega)
        rw [b_and, b_one (by omega) (by omega)] at this
        simpa using this
      · intro q w hw'
        rw [b_and, b_one (by omega) hw']
        by_cases e : w = pv n
        · subst e; rw [q]; rfl
        · simp [e]
    by_cases hb : bt inv (pv n) = true
    · have hne : ¬ (inv &&& sv n = 0) := fun q => by rw [hz.mp q] at hb; cases hb
      rw [if_neg hne]
      have hin : ∀ q, q < 64 → bl (found ||| ((1 : Int64) <<< ((nI (sr n)).toInt64 &&& 63))) q = (bl found q || decide (q = sr n)) := fun q hq => by rw [bl_or, bl_one (by omega) hq]
      have hiv : ∀ v, bt (inv ||| f_variablesOf mt mf (sr n)) v = (bt inv v || bt ((mt (sr n)) ||| (mf (sr n))) v) := fun v => by rw [b_or]; rfl
      obtain ⟨b1, b2, b3, b4⟩ := ih (found ||| ((1 : Int64) <<< ((nI (sr n)).toInt64 &&& 63))) (inv ||| f_variablesOf mt mf (sr n)) (by omega)
        (fun k hk hkb => by
          rw [hin k hk] at hkb
          by_cases e : k = sr n
          · subst e
            exact ⟨a5, fun v hv' hx => by rw [hiv]; have hx' : bt ((mt (sr n)) ||| (mf (sr n))) v = true := hx; rw [hx', Bool.or_true]⟩
          · obtain ⟨c1, c2⟩ := I1 k hk (by simpa [e] using hkb)
            exact ⟨c1, fun v hv' hx => by rw [hiv, c2 v hv' hx]; rfl⟩)
        (fun j hj1 hj2 hjb => by
          obtain ⟨d1, d2, d3, d4, d5, d6⟩ := g2 j hj2
          rw [hin _ (by omega)]
          by_cases e : j = n
          · subst e; simp
          · rw [hiv] at hjb
            cases hi : bt inv (pv j)
            · rw [hi, Bool.false_or] at hjb
              rcases g4 n (by omega) (pv j) (by omega) hjb with h1 | ⟨i, hi1, h1⟩
              · rw [d3] at h1; cases h1
              · have := g6 i j (by omega) hj2 h1
                omega
            · rw [I2 j (by omega) hj2 hi]; rfl)
      refine ⟨fun q hq hqb => b1 q hq (by rw [hin q hq, hqb]; rfl), b2, b3, fun U hU hI hC => b4 U (fun q hq hqb => ?_) (fun v hv1 hvb => ?_) hC⟩
      · rw [hin q hq] at hqb
        by_cases e : q = sr n
        · subst e
          obtain ⟨k, hk, hku, hkv⟩ := hI (pv n) a1 hb
          exact hC k hk hku (pv n) a1 hkv (sr n) a5 a6
        · exact hU q hq (by simpa [e] using hqb)
      · rw [hiv] at hvb
        cases hi : bt inv v
        · rw [hi, Bool.false_or] at hvb
          obtain ⟨k, hk, hku, hkv⟩ := hI (pv n) a1 hb
          exact ⟨sr n, a5, hC k hk hku (pv n) a1 hkv (sr n) a5 a6, hvb⟩
        · exact hI v hv1 hi
    · have hb' : bt inv (pv n) = false := by cases hq : bt inv (pv n) <;> simp_all
      rw [if_pos (hz.mpr hb')]
      exact ih found inv (by omega) I1 (fun j hj1 hj2 hjb => by
        by_cases e : j = n
        · subst e; rw [hb'] at hjb; cases hjb
        · exact I2 j (by omega) hj2 hjb)
theorem e_gather {nv nc : Nat} {mt mf wt : Nat → Int32} (hw : xWF nv nc mt mf wt) {hv gh : Int32} {sv : Nat → Int32} {sr : Nat → Nat} {st : Nat} {re : Nat → Int32} {pv : Nat → Nat} (h : xG nv nc mt mf hv gh sv sr st re pv) {k0 : Nat} (hk : k0 < nc) :
    m_gather nv nc mt mf re (nI k0) = some (f_subsetBehind mt mf sv sr st k0) ∧ bl (f_subsetBehind mt mf sv sr st k0) k0 = true ∧ ∀ q, q < 64 → bl (f_subsetBehind mt mf sv sr st k0) q = true → q < nc := by
  have hc := hw.c
  have hone : ∀ q, q < 64 → bl ((1 : Int64) <<< ((nI k0).toInt64 &&& 63)) q = decide (q = k0) := fun q hq => bl_one (by omega) hq
  obtain ⟨b1, b2, b3, b4⟩ := e_back hw h st ((1 : Int64) <<< ((nI k0).toInt64 &&& 63)) (f_variablesOf mt mf k0) (Nat.le_refl _)
    (fun k hk' hb => by
      rw [hone k hk'] at hb
      have e : k = k0 := by simpa using hb
      subst e
      exact ⟨hk, fun v _ hx => hx⟩)
    (fun j h1 h2 => by omega)
  have hre : xRe nv nc re := fun v hv1 => by
    rcases h.2.2.1 v hv1 with h1 | ⟨j, hj, h1⟩
    · exact Or.inl h1
    · obtain ⟨a1, a2, a3, a4, a5, a6⟩ := h.2.1 j hj
      exact Or.inr ⟨sr j, a5, by rw [← h1]; exact a6⟩
  refine ⟨?_, b1 k0 (by omega) (by rw [hone k0 (by omega)]; simp), b2⟩
  refine e_gL hw.v2 hc hre (T := f_subsetBehind mt mf sv sr st k0) b2 b3 42 _ (by have := xms_le 40 (f_subsetBehind mt mf sv sr st k0) ((1 : Int64) <<< ((nI k0).toInt64 &&& 63)); omega) b1 (fun U hU hC => b4 U hU (fun v hv1 hvb => ⟨k0, hk, hU k0 (by omega) (by rw [hone k0 (by omega)]; simp), hvb⟩) hC)
