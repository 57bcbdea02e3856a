/-! my own rows: one node of the search -/
def xAV (nv : Nat) : Int32 := ((1 : Int32) <<< ((nI nv) &&& 31)) - 1
theorem b_av : ∀ n, n < 11 → ∀ w, w < 32 → bt (xAV n) w = decide (w < n) := by decide +kernel
/-- the search's answers, class and reference -/
def xSR (bc : Int64) (bv : Int32) (lc : Nat) (lh lw : Nat → Int32) (lb : Nat → Int64) (fo bvM : Int32) (bcM : Int64) (lo : Nat) (lhM lwM : Nat → Int32) (lbM : Nat → Int64) : Prop :=
  ((fo = 0 ∧ bc = -1) ∨ (fo = 1 ∧ ∃ b, b ≤ 40000000 ∧ bc = lN b ∧ bcM = lN b ∧ bvM = bv)) ∧ lo = lc ∧ ∀ j, j < lc → lhM j = lh j ∧ lwM j = lw j ∧ lbM j = lb j
def xsum (g : Nat → Nat) (nv : Nat) (wh : Nat → Int32) : Nat → Nat
  | 0 => 0
  | n + 1 => xsum g nv wh n + g (xmu nv (wh n))
theorem xsum_same {g : Nat → Nat} {nv : Nat} {wh wh' : Nat → Int32} {n : Nat} (h : ∀ j, j < n → wh' j = wh j) : xsum g nv wh' n = xsum g nv wh n := by
  induction n with
  | zero => rfl
  | succ n ih => rw [xsum, xsum, ih (fun j hj => h j (by omega)), h n (by omega)]
def xphi (u : Nat) : Nat := 2 ^ (u + 1) - 1
def xpsi (u : Nat) : Nat := 2 ^ u / 2
theorem xphi_pos (u : Nat) : 1 ≤ xphi u := by
  unfold xphi
  have : 2 ≤ 2 ^ (u + 1) := by rw [Nat.pow_succ]; have := Nat.one_le_two_pow (n := u); omega
  omega
theorem xphi_two (u : Nat) : xphi u + xphi u + 1 = xphi (u + 1) := by
  unfold xphi
  have h1 : 2 ^ (u + 1 + 1) = 2 ^ (u + 1) * 2 := Nat.pow_succ ..
  have : 1 ≤ 2 ^ (u + 1) := Nat.one_le_two_pow
  omega
theorem xpsi_two (u : Nat) : xpsi u + xpsi u ≤ xpsi (u + 1) := by
  unfold xpsi
  have h1 : 2 ^ (u + 1) = 2 ^ u * 2 := Nat.pow_succ ..
  omega
theorem xpsi_pos {u : Nat} (h : 1 ≤ u) : 1 ≤ xpsi u := by
  obtain ⟨k, rfl⟩ : ∃ k, u = k + 1 := ⟨u - 1, by omega⟩
  unfold xpsi
  have h1 : 2 ^ (k + 1) = 2 ^ k * 2 := Nat.pow_succ ..
  have : 1 ≤ 2 ^ k := Nat.one_le_two_pow
  omega
/-- the nodes that wait -/
def xJ (nv lz lc wc : Nat) (wh wv whM wvM : Nat → Int32) : Prop :=
  (∀ j, j < wc → (∀ v, v < 32 → bt (wh j) v = true → v < nv) ∧ xmu nv (wh j) + j ≤ nv ∧ whM j = wh j ∧ wvM j = wv j) ∧ lc + xsum xpsi nv wh wc ≤ lz
theorem xJ.pop {nv lz lc wc : Nat} {wh wv whM wvM : Nat → Int32} (h : xJ nv lz lc (wc + 1) wh wv whM wvM) : xJ nv lz lc wc wh wv whM wvM := by
  refine ⟨fun j hj => h.1 j (by omega), ?_⟩
  have := h.2
  rw [xsum] at this
  omega
theorem xJ.log {nv lz lc wc : Nat} {wh wv whM wvM : Nat → Int32} (h : xJ nv lz lc (wc + 1) wh wv whM wvM) (hu : 1 ≤ xmu nv (wh wc)) : lc < lz ∧ xJ nv lz (lc + 1) wc wh wv whM wvM := by
  have h2 := h.2
  rw [xsum] at h2
  have := xpsi_pos hu
  exact ⟨by omega, fun j hj => h.1 j (by omega), by omega⟩
theorem xJ.push {nv lz lc wc : Nat} {wh wv whM wvM : Nat → Int32} (hn : nv ≤ 10) (h : xJ nv lz lc (wc + 1) wh wv whM wvM) {a : Nat} (ha : a < nv) (hb : bt (wh wc) a = false) (v0 v1 : Int32) :
    xJ nv lz lc (wc + 2) (upd (upd wh wc (wh wc ||| ((1 : Int32) <<< (nI a &&& 31)))) (wc + 1) (wh wc ||| ((1 : Int32) <<< (nI a &&& 31)))) (upd (upd wv wc v0) (wc + 1) v1) (upd (upd whM wc (wh wc ||| ((1 : Int32) <<< (nI a &&& 31)))) (wc + 1) (wh wc ||| ((1 : Int32) <<< (nI a &&& 31)))) (upd (upd wvM wc v0) (wc + 1) v1) ∧
    xsum xphi nv (upd (upd wh wc (wh wc ||| ((1 : Int32) <<< (nI a &&& 31)))) (wc + 1) (wh wc ||| ((1 : Int32) <<< (nI a &&& 31)))) (wc + 2) + 1 = xsum xphi nv wh (wc + 1) ∧ wc ≤ 9 := by
  have hbit : ∀ w, w < 32 → bt (wh wc ||| ((1 : Int32) <<< (nI a &&& 31))) w = (bt (wh wc) w || decide (w = a)) := fun w hw' => by rw [b_or, b_one (by omega) hw']
  have hmu : xmu nv (wh wc ||| ((1 : Int32) <<< (nI a &&& 31))) + 1 = xmu nv (wh wc) := xmu_set ha hb (by rw [hbit a (by omega)]; simp) (fun w h1 h2 => by rw [hbit w (by omega)]; simp [h2])
  obtain ⟨h1, h2, h3, h4⟩ := h.1 wc (by omega)
  have hq : ∀ w, w < 32 → bt (wh wc ||| ((1 : Int32) <<< (nI a &&& 31))) w = true → w < nv := fun w hw' hx => by
    rw [hbit w hw'] at hx
    by_cases e : w = a
    · omega
    · exact h1 w hw' (by simpa [e] using hx)
  generalize hg : wh wc ||| ((1 : Int32) <<< (nI a &&& 31)) = g at hmu hq ⊢
  have e0 : ∀ (f : Nat → Int32) (x y : Int32) (j : Nat), j < wc → upd (upd f wc x) (wc + 1) y j = f j := fun f x y j hj => by
    have n1 : ¬ j = wc := by omega
    have n2 : ¬ j = wc + 1 := by omega
    simp [upd, n1, n2]
  have e1 : ∀ (f : Nat → Int32) (x y : Int32), upd (upd f wc x) (wc + 1) y wc = x := fun f x y => by
    have n2 : ¬ wc = wc + 1 := by omega
    simp [upd, n2]
  have e2 : ∀ (f : Nat → Int32) (x y : Int32), upd (upd f wc x) (wc + 1) y (wc + 1) = y := fun f x y => by simp [upd]
  have hs : ∀ f : Nat → Nat, xsum f nv (upd (upd wh wc g) (wc + 1) g) (wc + 2) = xsum f nv wh wc + f (xmu nv g) + f (xmu nv g) := fun f => by
    rw [xsum, xsum, e1, e2, xsum_same (fun j hj => e0 wh g g j hj)]
  refine ⟨⟨fun j hj => ?_, ?_⟩, ?_, by omega⟩
  · by_cases ej : j < wc
    · rw [e0 _ _ _ j ej, e0 _ _ _ j ej, e0 _ _ _ j ej, e0 _ _ _ j ej]
      exact h.1 j (by omega)
    · by_cases ej2 : j = wc
      · subst ej2
        rw [e1, e1, e1, e1]
        exact ⟨hq, by omega, rfl, rfl⟩
      · have ej3 : j = wc + 1 := by omega
        subst ej3
        rw [e2, e2, e2, e2]
        exact ⟨hq, by omega, rfl, rfl⟩
  · rw [hs]
    have := h.2
    rw [xsum, ← hmu] at this
    have := xpsi_two (xmu nv g)
    omega
  · rw [hs, xsum, ← hmu]
    have := xphi_two (xmu nv g)
    omega
theorem e_tab0 : ∀ a, a < 10 → (nI (2 * a) &&& 1 = 0) ∧ nI (2 * a) >>> ((1 : Int32) &&& 31) = nI a ∧ nI (2 * a) / 2 = nI a ∧ nI (2 * a) - nI (2 * a) / 2 * 2 = 0 ∧ ¬ nI (2 * a) = -1 := by decide +kernel
theorem e_tab1 : ∀ a, a < 10 → ¬ (nI (2 * a + 1) &&& 1 = 0) ∧ nI (2 * a + 1) >>> ((1 : Int32) &&& 31) = nI a ∧ nI (2 * a + 1) / 2 = nI a ∧ ¬ nI (2 * a + 1) - nI (2 * a + 1) / 2 * 2 = 0 ∧ ¬ nI (2 * a + 1) = -1 := by decide +kernel
theorem e_put {wh wv : Nat → Int32} {wc : Nat} (h : wc ≤ 10) (hv vl : Int32) : f_putWaiting wh wv wc hv vl = (upd wh wc hv, upd wv wc vl, wc + 1) := by
  unfold f_putWaiting
  rw [if_neg (show ¬ (11 : Int32) ≤ nI wc from nI_ge (a := wc) (b := 11) (by omega) (by decide))]
/-- both branch alike -/
theorem e_branch {nv nc : Nat} {mt mf wt : Nat → Int32} (hw : xWF nv nc mt mf wt) {wh wv whM wvM : Nat → Int32} {wc : Nat} (hwc : wc ≤ 9) (h v : Int32) (hu : 1 ≤ xmu nv h) :
    ∃ a v0 v1, a < nv ∧ bt h a = false ∧ f_branch nv nc mt mf wh wv wc h v = (upd (upd wh wc (h ||| ((1 : Int32) <<< (nI a &&& 31)))) (wc + 1) (h ||| ((1 : Int32) <<< (nI a &&& 31))), upd (upd wv wc v0) (wc + 1) v1, wc + 2) ∧
    m_line whM wvM wc (h ||| ((1 : Int32) <<< (((m_firstOf nv nc mt mf h v) / 2) &&& 31))) (if ((m_firstOf nv nc mt mf h v) - (m_firstOf nv nc mt mf h v) / 2 * 2) = 0 then v else (v ||| ((1 : Int32) <<< (((m_firstOf nv nc mt mf h v) / 2) &&& 31)))) = (upd whM wc (h ||| ((1 : Int32) <<< (nI a &&& 31))), upd wvM wc v0, wc + 1) ∧
    ∀ (p q : Nat → Int32), m_line p q (wc + 1) (h ||| ((1 : Int32) <<< (((m_firstOf nv nc mt mf h v) / 2) &&& 31))) (if ((m_firstOf nv nc mt mf h v) - (m_firstOf nv nc mt mf h v) / 2 * 2) = 0 then (v ||| ((1 : Int32) <<< (((m_firstOf nv nc mt mf h v) / 2) &&& 31))) else v) = (upd p (wc + 1) (h ||| ((1 : Int32) <<< (nI a &&& 31))), upd q (wc + 1) v1, wc + 2) := by
  have hl := e_lit hw h v (xmu_ex hu)
  have hn := hw.v2
  rw [← e_first hw]
  obtain ⟨a, ha, hb, e⟩ := hl
  unfold f_branch
  rcases e with e | e
  · obtain ⟨t1, t2, t3, t4, t5⟩ := e_tab0 a (by omega)
    refine ⟨a, v, v ||| ((1 : Int32) <<< (nI a &&& 31)), ha, hb, ?_⟩
    rw [e, if_neg t5, if_pos t1, t2, if_pos t4, if_pos t4, t3, e_put (by omega)]
    dsimp only
    rw [e_put (by omega)]
    exact ⟨rfl, rfl, fun p q => rfl⟩
  · obtain ⟨t1, t2, t3, t4, t5⟩ := e_tab1 a (by omega)
    refine ⟨a, v ||| ((1 : Int32) <<< (nI a &&& 31)), v, ha, hb, ?_⟩
    rw [e, if_neg t5, if_neg t1, t2, if_neg t4, if_neg t4, t3, e_put (by omega)]
    dsimp only
    rw [e_put (by omega)]
    exact ⟨rfl, rfl, fun p q => rfl⟩
