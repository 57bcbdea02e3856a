/-! my own rows: the first false clause, the first unit clause, one step of growing -/
def xAv (nc : Nat) (avl : Int64) (av : Nat → Int32) : Prop := ∀ k, k < nc → (bl avl k = true ↔ ¬ av k = 0)
theorem e_avail (avl : Int64) {i : Nat} (hi : i < 64) : f_isAvailable avl i = 0 ↔ bl avl i = false := by
  unfold f_isAvailable
  rw [← bl_c0 avl hi]
  split
  · rename_i h; simp [h]
  · rename_i h; simp [h]
theorem e_av {nc : Nat} {avl : Int64} {av : Nat → Int32} (h : xAv nc avl av) (hc : nc ≤ 40) {i : Nat} (hi : i < nc) : f_isAvailable avl i = 0 ↔ av i = 0 := by
  rw [e_avail avl (by omega)]
  have h1 := h i hi
  by_cases h2 : av i = 0
  · simp only [h2, iff_true]
    cases hb : bl avl i
    · rfl
    · exact absurd h2 (h1.mp hb)
  · simp only [h2, iff_false]
    intro hb
    rw [h1.mpr h2] at hb
    cases hb
theorem e_ff_L {nv nc : Nat} {mt mf wt : Nat → Int32} (h : xWF nv nc mt mf wt) {avl : Int64} {av : Nat → Int32} (ha : xAv nc avl av) (gh gv : Int32) : ∀ n i : Nat, i + n = nc → f_firstFalseClause_L mt mf avl gh gv n i = m_broken_L mt mf av gh gv n i := by
  intro n
  induction n with
  | zero => intro i _; rfl
  | succ n ih =>
    intro i hi
    rw [f_firstFalseClause_L, m_broken_L, e_isFalse (h.cl i (by omega))]
    simp only [e_av ha h.c (show i < nc by omega), ih (i + 1) (by omega)]
theorem e_ff {nv nc : Nat} {mt mf wt : Nat → Int32} (h : xWF nv nc mt mf wt) {avl : Int64} {av : Nat → Int32} (ha : xAv nc avl av) (gh gv : Int32) : f_firstFalseClause nc mt mf avl gh gv = m_broken nc mt mf av gh gv := e_ff_L h ha gh gv nc 0 (by omega)
theorem e_nat {x : Int32} {n : Nat} (hn : n ≤ 31) (h : ∀ i, i < 32 → bt x i = true → i < n) : ∃ a, a < 2 ^ n ∧ x = nI a := by
  refine ⟨x.toBitVec.toNat, ?_, Int32.toBitVec_inj.mp (by show _ = BitVec.ofNat 32 _; simp)⟩
  apply Nat.lt_pow_two_of_testBit
  intro i hi
  rw [BitVec.testBit_toNat]
  rcases Nat.lt_or_ge i 32 with h1 | h1
  · cases hb : x.toBitVec.getLsbD i
    · rfl
    · have := h i h1 hb; omega
  · exact BitVec.getLsbD_of_ge _ _ h1
set_option maxRecDepth 100000 in
theorem e_bc : ∀ a, a < 1024 → f_bitCount (nI a) = m_count (nI a) := by decide +kernel
set_option maxRecDepth 100000 in
theorem e_bc1 : ∀ a, a < 1024 → f_bitCount (nI a) = 1 → ∃ v, v < 10 ∧ nI a = (1 : Int32) <<< (nI v &&& 31) := by decide +kernel
theorem e_wvb {nv : Nat} {mt mf : Nat → Int32} {i : Nat} (h : xCl nv (mt i) (mf i)) (gh : Int32) {v : Nat} (hv : v < 32) (hb : bt (f_withoutValue mt mf i gh) v = true) : v < nv ∧ bt gh v = false := by
  unfold f_withoutValue at hb
  rw [b_and, b_or, b_not _ hv] at hb
  have h1 := h v hv
  cases hm : bt (mt i) v <;> cases hf : bt (mf i) v <;> cases hg : bt gh v <;> simp_all
theorem e_wv10 {nv : Nat} {mt mf : Nat → Int32} {i : Nat} (hn : nv ≤ 10) (h : xCl nv (mt i) (mf i)) (gh : Int32) : ∃ a, a < 1024 ∧ f_withoutValue mt mf i gh = nI a :=
  e_nat (n := 10) (by omega) fun v hv hb => by have := (e_wvb h gh hv hb).1; omega
theorem e_fu_L {nv nc : Nat} {mt mf wt : Nat → Int32} (h : xWF nv nc mt mf wt) {avl : Int64} {av : Nat → Int32} (ha : xAv nc avl av) (gh gv : Int32) : ∀ n i : Nat, i + n = nc → f_firstUnitClause_L mt mf avl gh gv n i = m_single_L mt mf av gh gv n i := by
  intro n
  induction n with
  | zero => intro i _; rfl
  | succ n ih =>
    intro i hi
    have hcl := h.cl i (by omega)
    obtain ⟨a, ha1, ea⟩ := e_wv10 h.v2 hcl gh
    have hbc : f_bitCount (f_withoutValue mt mf i gh) = m_count (f_withoutValue mt mf i gh) := by rw [ea]; exact e_bc a ha1
    have hw : ((mt i) ||| (mf i)) &&& (gh ^^^ (-1)) = f_withoutValue mt mf i gh := rfl
    rw [f_firstUnitClause_L, m_single_L, hw, ← hbc, ih (i + 1) (by omega)]
    have ho := e_isOpen mt mf i gh gv
    have hz : f_bitCount (f_withoutValue mt mf i gh) = 1 → ¬ f_withoutValue mt mf i gh = 0 := by
      intro q r
      rw [r] at q
      exact absurd q (by decide +kernel)
    simp only [e_av ha h.c (show i < nc by omega)]
    by_cases h1 : f_bitCount (f_withoutValue mt mf i gh) = 1
    · simp only [if_pos h1]
      by_cases h2 : f_isTrue mt mf i gh gv = 0
      · have h3 : ¬ m_isOpen mt mf i gh gv = 0 := ho.mpr ⟨hz h1, h2⟩
        simp only [if_pos h2, if_neg h3]
      · have h3 : m_isOpen mt mf i gh gv = 0 := Classical.byContradiction fun q => h2 (ho.mp q).2
        simp only [if_neg h2, if_pos h3, ite_self]
    · simp only [if_neg h1, ite_self]
theorem e_fu {nv nc : Nat} {mt mf wt : Nat → Int32} (h : xWF nv nc mt mf wt) {avl : Int64} {av : Nat → Int32} (ha : xAv nc avl av) (gh gv : Int32) : f_firstUnitClause nc mt mf avl gh gv = m_single nc mt mf av gh gv := e_fu_L h ha gh gv nc 0 (by omega)
/-- what the first unit clause is -/
theorem e_fuok_L (mt mf : Nat → Int32) (avl : Int64) (gh gv : Int32) : ∀ n i : Nat, f_firstUnitClause_L mt mf avl gh gv n i = -1 ∨ ∃ k, i ≤ k ∧ k < i + n ∧ f_firstUnitClause_L mt mf avl gh gv n i = nI k ∧ f_bitCount (f_withoutValue mt mf k gh) = 1 := by
  intro n
  induction n with
  | zero => intro i; left; rfl
  | succ n ih =>
    intro i
    rw [f_firstUnitClause_L]
    have hs : f_firstUnitClause_L mt mf avl gh gv n (i + 1) = -1 ∨ ∃ k, i ≤ k ∧ k < i + (n + 1) ∧ f_firstUnitClause_L mt mf avl gh gv n (i + 1) = nI k ∧ f_bitCount (f_withoutValue mt mf k gh) = 1 := by
      rcases ih (i + 1) with h | ⟨k, hk, hk2, h⟩
      · exact Or.inl h
      · exact Or.inr ⟨k, by omega, by omega, h⟩
    split
    · rename_i h1
      split
      · exact hs
      · split
        · exact Or.inr ⟨i, by omega, by omega, rfl, h1⟩
        · exact hs
    · exact hs
theorem e_fuok {nv nc : Nat} {mt mf wt : Nat → Int32} (h : xWF nv nc mt mf wt) {avl : Int64} {gh gv : Int32} (hne : ¬ f_firstUnitClause nc mt mf avl gh gv = -1) : ∃ k v, k < nc ∧ f_firstUnitClause nc mt mf avl gh gv = nI k ∧ v < nv ∧ bt gh v = false ∧ f_withoutValue mt mf k gh = (1 : Int32) <<< (nI v &&& 31) := by
  rcases e_fuok_L mt mf avl gh gv nc 0 with h1 | ⟨k, -, h2, h3, h4⟩
  · exact absurd h1 hne
  · have hk : k < nc := by omega
    have hcl := h.cl k hk
    obtain ⟨a, ha1, ea⟩ := e_wv10 h.v2 hcl gh
    rw [ea] at h4
    obtain ⟨v, hv, ev⟩ := e_bc1 a ha1 h4
    have hb : bt (f_withoutValue mt mf k gh) v = true := by rw [ea, ev, b_one (by omega) (by omega)]; simp
    have h5 := e_wvb hcl gh (show v < 32 by omega) hb
    exact ⟨k, v, hk, h3, h5.1, h5.2, by rw [ea, ev]⟩
/-- what the first false clause is -/
theorem e_ffok_L (mt mf av : Nat → Int32) (gh gv : Int32) : ∀ n i : Nat, m_broken_L mt mf av gh gv n i = -1 ∨ ∃ k, i ≤ k ∧ k < i + n ∧ m_broken_L mt mf av gh gv n i = nI k ∧ ¬ av k = 0 := by
  intro n
  induction n with
  | zero => intro i; left; rfl
  | succ n ih =>
    intro i
    rw [m_broken_L]
    have hs : m_broken_L mt mf av gh gv n (i + 1) = -1 ∨ ∃ k, i ≤ k ∧ k < i + (n + 1) ∧ m_broken_L mt mf av gh gv n (i + 1) = nI k ∧ ¬ av k = 0 := by
      rcases ih (i + 1) with h | ⟨k, hk, hk2, h⟩
      · exact Or.inl h
      · exact Or.inr ⟨k, by omega, by omega, h⟩
    split
    · exact hs
    · rename_i h1
      split
      · exact hs
      · exact Or.inr ⟨i, by omega, by omega, rfl, h1⟩
/-- how many of the first n variables have no value -/
def xmu : Nat → Int32 → Nat
  | 0, _ => 0
  | n + 1, h => xmu n h + if bt h n then 0 else 1
theorem xmu_le (n : Nat) (h : Int32) : xmu n h ≤ n := by
  induction n with
  | zero => exact Nat.le_refl _
  | succ n ih => rw [xmu]; split <;> omega
theorem xmu_same {n : Nat} {h g : Int32} (e : ∀ v, v < n → bt g v = bt h v) : xmu n g = xmu n h := by
  induction n with
  | zero => rfl
  | succ n ih => rw [xmu, xmu, ih (fun v hv => e v (by omega)), e n (by omega)]
theorem xmu_set {n : Nat} {h g : Int32} {v : Nat} (hv : v < n) (h0 : bt h v = false) (h1 : bt g v = true) (e : ∀ w, w < n → w ≠ v → bt g w = bt h w) : xmu n g + 1 = xmu n h := by
  induction n with
  | zero => omega
  | succ n ih =>
    rw [xmu, xmu]
    by_cases hn : v = n
    · subst hn
      rw [xmu_same (fun w hw => e w (by omega) (by omega)), h0, h1]
      simp
    · have := ih (by omega) (fun w hw hne => e w (by omega) hne)
      rw [e n (by omega) (by omega)]
      omega
theorem xmu_pos {n : Nat} {h : Int32} {v : Nat} (hv : v < n) (h0 : bt h v = false) : 1 ≤ xmu n h := by
  induction n with
  | zero => omega
  | succ n ih =>
    rw [xmu]
    by_cases hn : v = n
    · subst hn; rw [h0]; simp
    · have := ih (by omega); omega
theorem xmu_ex {n : Nat} {h : Int32} (hp : 1 ≤ xmu n h) : ∃ v, v < n ∧ bt h v = false := by
  induction n with
  | zero => rw [xmu] at hp; omega
  | succ n ih =>
    rw [xmu] at hp
    cases hb : bt h n
    · exact ⟨n, by omega, hb⟩
    · rw [hb] at hp
      obtain ⟨v, h1, h2⟩ := ih (by simpa using hp)
      exact ⟨v, by omega, h2⟩
theorem m_growB (k2 b : Int32) : ∀ (n j : Nat) (re : Nat → Int32) (q : Nat), m_grow_B k2 b n j re q = if j ≤ q ∧ q < j + n ∧ b = (1 : Int32) <<< (nI q &&& 31) then k2 else re q := by
  intro n
  induction n with
  | zero => intro j re q; rw [m_grow_B, if_neg (by omega)]
  | succ n ih =>
    intro j re q
    rw [m_grow_B, ih (j + 1)]
    by_cases hq : q = j
    · subst hq
      rw [if_neg (by omega)]
      simp [upd]
    · have hiff : (j + 1 ≤ q ∧ q < j + 1 + n ∧ b = (1 : Int32) <<< (nI q &&& 31)) ↔ (j ≤ q ∧ q < j + (n + 1) ∧ b = (1 : Int32) <<< (nI q &&& 31)) := by
        constructor
        · rintro ⟨a, b, c⟩; exact ⟨by omega, by omega, c⟩
        · rintro ⟨a, b, c⟩; exact ⟨by omega, by omega, c⟩
      simp only [hiff]
      simp [upd, hq]
theorem m_growA : ∀ (n i : Nat) (re : Nat → Int32) (q : Nat), m_grow_A n i re q = if i ≤ q ∧ q < i + n then -1 else re q := by
  intro n
  induction n with
  | zero => intro i re q; rw [m_grow_A, if_neg (by omega)]
  | succ n ih =>
    intro i re q
    rw [m_grow_A, ih (i + 1)]
    by_cases hq : q = i
    · subst hq
      rw [if_neg (by omega), if_pos (by omega)]
      simp [upd]
    · have hiff : (i + 1 ≤ q ∧ q < i + 1 + n) ↔ (i ≤ q ∧ q < i + (n + 1)) := by omega
      simp only [hiff]
      simp [upd, hq]
theorem b_oneI {a v : Nat} (ha : a < 32) (hv : v < 32) (h : (1 : Int32) <<< (nI a &&& 31) = (1 : Int32) <<< (nI v &&& 31)) : a = v := by
  have h1 := congrArg (fun x => bt x a) h
  simp only [b_one ha ha, b_one hv ha] at h1
  simpa using h1
