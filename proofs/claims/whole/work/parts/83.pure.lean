/-! my own rows: cost, first, bound, subset of both -/
theorem e_ok {nv : Nat} (hn : nv ≤ 10) {hv vl : Int32} (h : ¬ f_isState (xAV nv) hv vl = 0) : m_noState nv hv vl = 0 := Classical.byContradiction fun q => h ((e_state hn hv vl).mpr q)
theorem e_bad {nv : Nat} (hn : nv ≤ 10) {hv vl : Int32} (h : f_isState (xAV nv) hv vl = 0) : ¬ m_noState nv hv vl = 0 := (e_state hn hv vl).mp h
theorem e_mcost1 {nv nc : Nat} {mt mf wt : Nat → Int32} (hw : xWF nv nc mt mf wt) {hv vl : Int32} (h : ¬ f_isState (xAV nv) hv vl = 0) : m_cost nv nc mt mf wt hv vl = (f_cost nc mt mf wt hv vl, 0) := by
  unfold m_cost f_cost
  rw [if_pos (e_ok hw.v2 h), e_cost hw]
  split <;> rfl
theorem e_mcost0 {nv nc : Nat} {mt mf wt : Nat → Int32} (hn : nv ≤ 10) {hv vl : Int32} (h : f_isState (xAV nv) hv vl = 0) : m_cost nv nc mt mf wt hv vl = (0, 1) := by
  unfold m_cost
  rw [if_neg (e_bad hn h)]
theorem e_mfirst1 {nv nc : Nat} {mt mf wt : Nat → Int32} (hw : xWF nv nc mt mf wt) {hv vl : Int32} (h : ¬ f_isState (xAV nv) hv vl = 0) : m_first nv nc mt mf hv vl = (f_first nv nc mt mf hv vl, 0) := by
  unfold m_first f_first
  rw [if_pos (e_ok hw.v2 h), e_first hw]
theorem e_mfirst0 {nv nc : Nat} {mt mf : Nat → Int32} (hn : nv ≤ 10) {hv vl : Int32} (h : f_isState (xAV nv) hv vl = 0) : m_first nv nc mt mf hv vl = (0, 1) := by
  unfold m_first
  rw [if_neg (e_bad hn h)]
theorem e_mbound0 {nv nc : Nat} {mt mf wt : Nat → Int32} (hn : nv ≤ 10) {hv vl : Int32} (h : f_isState (xAV nv) hv vl = 0) (hp : Int32) (bo : Int64) (su : Nat) (sm : Nat → Int64) (av re : Nat → Int32) (ghM gvM : Int32) : m_bound nv nc mt mf wt hp bo su sm av re ghM gvM hv vl = some (0, 1, hp, bo, su, sm, av, re, ghM, gvM) := by
  unfold m_bound
  rw [if_neg (e_bad hn h)]
theorem e_msubset0 {nv nc : Nat} {mt mf wt : Nat → Int32} (hn : nv ≤ 10) {hv vl : Int32} (h : f_isState (xAV nv) hv vl = 0) (hp : Int32) (bo : Int64) (su : Nat) (sm : Nat → Int64) (av re : Nat → Int32) (ghM gvM : Int32) (j : Int32) : m_subset nv nc mt mf wt hp bo su sm av re ghM gvM hv vl j = some (0, 1, hp, bo, su, sm, av, re, ghM, gvM) := by
  unfold m_subset
  rw [if_neg (e_bad hn h)]
theorem e_mbound1 {nv nc : Nat} {mt mf wt : Nat → Int32} (hw : xWF nv nc mt mf wt) {hv vl : Int32} (h : ¬ f_isState (xAV nv) hv vl = 0) (ss : Nat → Int64) (sc : Nat) (avl : Int64) (gh gv : Int32) (sv : Nat → Int32) (sr : Nat → Nat) (st : Nat) (hp : Int32) (bo : Int64) (su : Nat) (sm : Nat → Int64) (av re : Nat → Int32) (ghM gvM : Int32) :
    ∃ r ss1 sc1 avl1 gh1 gv1 sv1 sr1 st1, f_bound nc mt mf wt ss sc avl gh gv sv sr st hv vl = (r, ss1, sc1, avl1, gh1, gv1, sv1, sr1, st1) ∧
    ∃ hp1 bo1 su1 sm1 am rm g1 g2, m_bound nv nc mt mf wt hp bo su sm av re ghM gvM hv vl = some (r, 0, hp1, bo1, su1, sm1, am, rm, g1, g2) := by
  obtain ⟨r, ss1, sc1, avl1, gh1, gv1, sv1, sr1, st1, ef, hp1, bo1, su1, sm1, am, rm, g1, g2, em, hB⟩ := e_bound hw hv vl ss sc avl gh gv sv sr st hp bo su sm av re ghM gvM
  unfold f_bound m_bound
  rw [ef, if_pos (e_ok hw.v2 h), em]
  dsimp only
  rcases hB.2.2.2 with ⟨z1, b, -, z3, z4⟩ | ⟨z1, z2⟩
  · rw [if_pos z1, z3, z4]
    exact ⟨_, _, _, _, _, _, _, _, _, rfl, _, _, _, _, _, _, _, _, rfl⟩
  · rw [if_neg (by rw [z1]; decide), z2]
    exact ⟨_, _, _, _, _, _, _, _, _, rfl, _, _, _, _, _, _, _, _, rfl⟩
theorem e_msubset1 {nv nc : Nat} {mt mf wt : Nat → Int32} (hw : xWF nv nc mt mf wt) {hv vl : Int32} (h : ¬ f_isState (xAV nv) hv vl = 0) (ss : Nat → Int64) (sc : Nat) (avl : Int64) (gh gv : Int32) (sv : Nat → Int32) (sr : Nat → Nat) (st : Nat) (hp : Int32) (bo : Int64) (su : Nat) (sm : Nat → Int64) (av re : Nat → Int32) (ghM gvM : Int32) (j : Int32) :
    ∃ r ss1 sc1 avl1 gh1 gv1 sv1 sr1 st1, f_subset nc mt mf wt ss sc avl gh gv sv sr st hv vl j = (r, ss1, sc1, avl1, gh1, gv1, sv1, sr1, st1) ∧
    ∃ hp1 bo1 su1 sm1 am rm g1 g2, m_subset nv nc mt mf wt hp bo su sm av re ghM gvM hv vl j = some (r, 0, hp1, bo1, su1, sm1, am, rm, g1, g2) := by
  obtain ⟨r, ss1, sc1, avl1, gh1, gv1, sv1, sr1, st1, ef, hp1, bo1, su1, sm1, am, rm, g1, g2, em, hB⟩ := e_bound hw hv vl ss sc avl gh gv sv sr st hp bo su sm av re ghM gvM
  unfold f_subset m_subset f_subsetAt
  rw [ef, if_pos (e_ok hw.v2 h), em]
  dsimp only
  obtain ⟨z1, z2, z3, -⟩ := hB
  subst z1
  by_cases h1 : j < 0
  · rw [if_pos h1, if_pos h1]
    exact ⟨_, _, _, _, _, _, _, _, _, rfl, _, _, _, _, _, _, _, _, rfl⟩
  · rw [if_neg h1, if_neg h1]
    by_cases h2 : nI sc1 ≤ j
    · rw [if_pos h2, if_neg (Int32.not_lt.mpr h2)]
      exact ⟨_, _, _, _, _, _, _, _, _, rfl, _, _, _, _, _, _, _, _, rfl⟩
    · rw [if_neg h2, if_pos (Int32.not_le.mp h2), if_pos z2]
      obtain ⟨q, hq, rfl⟩ := nI_of h1
      have hlt : q < sc1 := Nat.lt_of_not_le fun z => h2 (nI_le z hq)
      rw [nI_clamp hq, z3 q hlt]
      exact ⟨_, _, _, _, _, _, _, _, _, rfl, _, _, _, _, _, _, _, _, rfl⟩
theorem e_drop {nc : Nat} (hc : nc ≤ 40) (mt mf wt : Nat → Int32) (nd : Int32) (lc : Nat) (bc : Int64) (bv : Int32) (wc : Nat) (fo : Int32) (lo : Nat) :
    (nc = 0 ∧ f_drop nc mt mf wt nd lc bc bv wc = (-1, nc, mt, mf, wt, nd, lc, bc, bv, wc) ∧ m_drop nc fo nd lo = (-1, 0, nc, fo, nd, lo)) ∨ (f_drop nc mt mf wt nd lc bc bv wc = (nI (nc - 1), nc - 1, mt, mf, wt, 0, 0, -1, 0, 0) ∧ m_drop nc fo nd lo = (nI (nc - 1), 0, nc - 1, 0, 0, 0)) := by
  unfold f_drop m_drop
  by_cases h : nc = 0
  · left
    subst h
    exact ⟨rfl, by rw [if_pos (by decide)], by rw [if_pos (by decide)]⟩
  · right
    rw [if_neg (nI_ne0 (by omega) (by omega)), if_neg (nI_ne0 (by omega) (by omega))]
    exact ⟨rfl, rfl⟩
theorem xSR.start (lh lw : Nat → Int32) (lb : Nat → Int64) (bvM : Int32) (bcM : Int64) (lhM lwM : Nat → Int32) (lbM : Nat → Int64) (bv : Int32) : xSR (-1) bv 0 lh lw lb 0 bvM bcM 0 lhM lwM lbM := ⟨Or.inl ⟨rfl, rfl⟩, rfl, fun j hj => by omega⟩
