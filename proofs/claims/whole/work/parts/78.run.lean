/-! my own rows: the search, node by node -/
theorem e_has0 {bc : Int64} (h : bc = -1) : f_hasBest bc = 0 := by
  unfold f_hasBest
  rw [if_pos ((lg_cmp_eq _ _).mpr h)]
theorem e_has1 {b : Nat} (h : b < 2 ^ 31) : f_hasBest (lN b) = 1 := by
  unfold f_hasBest
  rw [if_neg (fun q => lN_m1 h ((lg_cmp_eq _ _).mp q))]
theorem e_leaf {nv : Nat} (hn : nv ≤ 10) {h : Int32} (hq : ∀ v, v < 32 → bt h v = true → v < nv) (hne : ¬ h = xAV nv) : 1 ≤ xmu nv h := by
  apply Classical.byContradiction
  intro hz
  refine hne (b_ext fun w hw => ?_)
  rw [b_av nv (by omega) w hw]
  by_cases e : w < nv
  · cases hb : bt h w
    · exact absurd (xmu_pos e hb) hz
    · simp [e]
  · cases hb : bt h w
    · simp [e]
    · exact absurd (hq w hw hb) e
theorem e_plog {lz lc : Nat} (h : lc < lz) (hz : lz ≤ 512) (bc : Int64) (lh lw : Nat → Int32) (lb : Nat → Int64) (hv vl : Int32) : f_putIntoLog lz lc bc lh lw lb hv vl = (lc + 1, upd lh lc hv, upd lw lc vl, vp_updL lb lc bc) := by
  unfold f_putIntoLog
  rw [if_neg (nI_ge h (by omega))]
theorem xSR.log {bc : Int64} {bv : Int32} {lc : Nat} {lh lw : Nat → Int32} {lb : Nat → Int64} {fo bvM : Int32} {bcM : Int64} {lo : Nat} {lhM lwM : Nat → Int32} {lbM : Nat → Int64} (h : xSR bc bv lc lh lw lb fo bvM bcM lo lhM lwM lbM) (hv vl : Int32) :
    xSR bc bv (lc + 1) (upd lh lc hv) (upd lw lc vl) (vp_updL lb lc bc) fo bvM bcM (lo + 1) (upd lhM lo hv) (upd lwM lo vl) (vp_updL lbM lo ((if fo = 0 then (-1) else bcM) : Int64)) := by
  obtain ⟨h1, h2, h3⟩ := h
  subst h2
  refine ⟨h1, rfl, fun j hj => ?_⟩
  by_cases e : j = lo
  · subst e
    refine ⟨by simp [upd], by simp [upd], ?_⟩
    simp only [vp_updL, if_true]
    rcases h1 with ⟨a, b⟩ | ⟨a, b, -, c, d, -⟩
    · rw [a, b]; rfl
    · rw [a, c, d]; rfl
  · obtain ⟨a, b, c⟩ := h3 j (by omega)
    exact ⟨by simp [upd, e, a], by simp [upd, e, b], by simp [vp_updL, e, c]⟩
set_option maxHeartbeats 4000000 in
theorem e_visit {nv nc : Nat} {mt mf wt : Nat → Int32} (hw : xWF nv nc mt mf wt) {lz : Nat} (hlz : lz ≤ 512) {ss : Nat → Int64} {sc : Nat} {avl : Int64} {gh gv : Int32} {sv : Nat → Int32} {sr : Nat → Nat} {st : Nat} {nd : Int32} {lc : Nat} {bc : Int64} {bv : Int32} {lh lw : Nat → Int32} {lb : Nat → Int64} {wh wv : Nat → Int32} {wc : Nat}
    {hp : Int32} {bo : Int64} {su : Nat} {sm : Nat → Int64} {av re : Nat → Int32} {ghM gvM fo bvM : Int32} {bcM : Int64} {lo : Nat} {lhM lwM : Nat → Int32} {lbM : Nat → Int64} {whM wvM : Nat → Int32}
    (hS : xSR bc bv lc lh lw lb fo bvM bcM lo lhM lwM lbM) (hJ : xJ nv lz lc (wc + 1) wh wv whM wvM) :
    ∃ ss1 sc1 avl1 gh1 gv1 sv1 sr1 st1 lc1 bc1 bv1 lh1 lw1 lb1 wh1 wv1 wc1, f_visit nv (xAV nv) nc mt mf wt lz ss sc avl gh gv sv sr st nd lc bc bv lh lw lb wh wv wc (wh wc) (wv wc) = (ss1, sc1, avl1, gh1, gv1, sv1, sr1, st1, nd + 1, lc1, bc1, bv1, lh1, lw1, lb1, wh1, wv1, wc1) ∧
    ∃ hp1 bo1 su1 sm1 am1 rm1 g1 g2 fo1 bvM1 bcM1 lo1 lhM1 lwM1 lbM1 whM1 wvM1, m_node nv nc mt mf wt hp bo su sm av re ghM gvM fo bvM bcM nd lo lhM lwM lbM wc whM wvM (whM wc) (wvM wc) = some (hp1, bo1, su1, sm1, am1, rm1, g1, g2, fo1, bvM1, bcM1, nd + 1, lo1, lhM1, lwM1, lbM1, wc1, whM1, wvM1) ∧
    xSR bc1 bv1 lc1 lh1 lw1 lb1 fo1 bvM1 bcM1 lo1 lhM1 lwM1 lbM1 ∧ xJ nv lz lc1 wc1 wh1 wv1 whM1 wvM1 ∧ xsum xphi nv wh1 wc1 + 1 ≤ xsum xphi nv wh (wc + 1) := by
  have hn := hw.v2
  obtain ⟨q1, q2, q3, q4⟩ := hJ.1 wc (by omega)
  have hpop := hJ.pop
  have hdec : xsum xphi nv wh wc + 1 ≤ xsum xphi nv wh (wc + 1) := by
    rw [xsum]
    have := xphi_pos (xmu nv (wh wc))
    omega
  rw [q3, q4]
  unfold f_visit m_node
  have hAV : ((1 : Int32) <<< ((nI nv) &&& 31)) - 1 = xAV nv := rfl
  rw [hAV]
  by_cases hl : wh wc = xAV nv
  · rw [if_pos hl, if_pos hl, hl]
    unfold f_visitLeaf
    have hco := e_cost hw (xAV nv) (wv wc)
    obtain ⟨b, hb1, eb⟩ := e_costb hw (xAV nv) (wv wc)
    by_cases hbr : m_breaks nc mt mf wt (xAV nv) (wv wc) = 0
    · rw [if_pos hbr, eb] at hco
      rw [hco, if_pos hbr, eb, if_neg (fun q => lN_m2 (by omega) ((lg_cmp_eq _ _).mp q))]
      rcases hS.1 with ⟨a1, a2⟩ | ⟨a1, b', a2, a3, a4, a5⟩
      · rw [if_pos (e_has0 a2), if_pos a1]
        exact ⟨_, _, _, _, _, _, _, _, _, _, _, _, _, _, _, _, _, rfl, _, _, _, _, _, _, _, _, _, _, _, _, _, _, _, _, _, rfl, ⟨Or.inr ⟨rfl, b, hb1, rfl, rfl, rfl⟩, hS.2⟩, hpop, hdec⟩
      · have hf1 : ¬ f_hasBest bc = 0 := by rw [a3, e_has1 (by omega)]; decide
        have hf2 : ¬ fo = 0 := by rw [a1]; decide
        rw [if_neg hf1, if_neg hf2, a3, a4]
        by_cases hcm : 0 ≤ lg_cmp (lN b) (lN b')
        · rw [if_pos hcm, if_pos hcm]
          exact ⟨_, _, _, _, _, _, _, _, _, _, _, _, _, _, _, _, _, rfl, _, _, _, _, _, _, _, _, _, _, _, _, _, _, _, _, _, rfl, ⟨Or.inr ⟨a1, b', a2, rfl, rfl, a5⟩, hS.2⟩, hpop, hdec⟩
        · rw [if_neg hcm, if_neg hcm]
          exact ⟨_, _, _, _, _, _, _, _, _, _, _, _, _, _, _, _, _, rfl, _, _, _, _, _, _, _, _, _, _, _, _, _, _, _, _, _, rfl, ⟨Or.inr ⟨rfl, b, hb1, rfl, rfl, rfl⟩, hS.2⟩, hpop, hdec⟩
    · rw [if_neg hbr] at hco
      rw [hco, if_neg hbr, if_pos ((lg_cmp_eq _ _).mpr rfl)]
      exact ⟨_, _, _, _, _, _, _, _, _, _, _, _, _, _, _, _, _, rfl, _, _, _, _, _, _, _, _, _, _, _, _, _, _, _, _, _, rfl, hS, hpop, hdec⟩
  · rw [if_neg hl, if_neg hl]
    have hu := e_leaf hn q1 hl
    obtain ⟨r, ss1, sc1, avl1, gh1, gv1, sv1, sr1, st1, ef, hp1, bo1, su1, sm1, am, rm, g1, g2, em, hB⟩ := e_bound hw (wh wc) (wv wc) ss sc avl gh gv sv sr st hp bo su sm av re ghM gvM
    rw [ef, em]
    dsimp only
    obtain ⟨hlt, hJl⟩ := hJ.log hu
    have hlo : lo = lc := hS.2.1
    have hwc : wc ≤ 9 := by omega
    obtain ⟨a, v0, v1, ha, hba, fb, m1, m2⟩ := e_branch hw (wh := wh) (wv := wv) (whM := whM) (wvM := wvM) hwc (wh wc) (wv wc) hu
    obtain ⟨hJp, hph, -⟩ := hJ.push hn ha hba v0 v1
    rw [fb, e_plog hlt hlz, m1]
    dsimp only
    rw [m2]
    dsimp only
    rw [if_pos (by omega : wc < 23), if_pos (by omega : lo < 1024)]
    rcases hB.2.2.2 with ⟨z1, b, z2, z3, z4⟩ | ⟨z1, z2⟩
    · rw [if_pos z1, z3, z4]
      have hn2 : ¬ lg_cmp (lN b) (-2) = 0 := fun q => lN_m2 (by omega) ((lg_cmp_eq _ _).mp q)
      rcases hS.1 with ⟨a1, a2⟩ | ⟨a1, b', a2, a3, a4, a5⟩
      · have hgu : f_isGivenUp bc (lN b) = 0 := by
          unfold f_isGivenUp
          rw [if_neg hn2, if_pos (e_has0 a2)]
        rw [if_pos hgu, if_pos a1]
        exact ⟨_, _, _, _, _, _, _, _, _, _, _, _, _, _, _, _, _, rfl, _, _, _, _, _, _, _, _, _, _, _, _, _, _, _, _, _, rfl, hS, hJp, by omega⟩
      · have hf1 : ¬ f_hasBest bc = 0 := by rw [a3, e_has1 (by omega)]; decide
        have hf2 : ¬ fo = 0 := by rw [a1]; decide
        rw [if_neg hf2]
        by_cases hcm : 0 < lg_cmp bc (lN b)
        · have hgu : f_isGivenUp bc (lN b) = 0 := by
            unfold f_isGivenUp
            rw [if_neg hn2, if_neg hf1, if_pos hcm]
          have hcm2 : 0 < lg_cmp bcM (lN b) := by rw [a4, ← a3]; exact hcm
          rw [if_pos hgu, if_pos hcm2]
          exact ⟨_, _, _, _, _, _, _, _, _, _, _, _, _, _, _, _, _, rfl, _, _, _, _, _, _, _, _, _, _, _, _, _, _, _, _, _, rfl, hS, hJp, by omega⟩
        · have hgu : ¬ f_isGivenUp bc (lN b) = 0 := by
            unfold f_isGivenUp
            rw [if_neg hn2, if_neg hf1, if_neg hcm]
            decide
          have hcm2 : ¬ 0 < lg_cmp bcM (lN b) := by rw [a4, ← a3]; exact hcm
          rw [if_neg hgu, if_neg hcm2]
          exact ⟨_, _, _, _, _, _, _, _, _, _, _, _, _, _, _, _, _, rfl, _, _, _, _, _, _, _, _, _, _, _, _, _, _, _, _, _, rfl, hS.log _ _, hJl, hdec⟩
    · have hgu : ¬ f_isGivenUp bc r = 0 := by
        unfold f_isGivenUp
        rw [if_pos ((lg_cmp_eq _ _).mpr z2)]
        decide
      have hh : ¬ hp1 = 0 := by rw [z1]; decide
      rw [if_neg hgu, if_neg hh]
      exact ⟨_, _, _, _, _, _, _, _, _, _, _, _, _, _, _, _, _, rfl, _, _, _, _, _, _, _, _, _, _, _, _, _, _, _, _, _, rfl, hS.log _ _, hJl, hdec⟩
set_option maxHeartbeats 4000000 in
theorem e_run_L {nv nc : Nat} {mt mf wt : Nat → Int32} (hw : xWF nv nc mt mf wt) {lz : Nat} (hlz : lz ≤ 512) : ∀ (n nm i : Nat) (ss : Nat → Int64) (sc : Nat) (avl : Int64) (gh gv : Int32) (sv : Nat → Int32) (sr : Nat → Nat) (st : Nat) (nd : Int32) (lc : Nat) (bc : Int64) (bv : Int32) (lh lw : Nat → Int32) (lb : Nat → Int64) (wh wv : Nat → Int32) (wc : Nat)
    (hp : Int32) (bo : Int64) (su : Nat) (sm : Nat → Int64) (av re : Nat → Int32) (ghM gvM fo bvM : Int32) (bcM : Int64) (lo : Nat) (lhM lwM : Nat → Int32) (lbM : Nat → Int64) (whM wvM : Nat → Int32),
    xsum xphi nv wh wc ≤ n → xsum xphi nv wh wc + 1 ≤ nm → xSR bc bv lc lh lw lb fo bvM bcM lo lhM lwM lbM → xJ nv lz lc wc wh wv whM wvM →
    ∃ ss1 sc1 avl1 gh1 gv1 sv1 sr1 st1 nd1 lc1 bc1 bv1 lh1 lw1 lb1 wh1 wv1, f_run_L nv (xAV nv) nc mt mf wt lz n i ss sc avl gh gv sv sr st nd lc bc bv lh lw lb wh wv wc = (ss1, sc1, avl1, gh1, gv1, sv1, sr1, st1, nd1, lc1, bc1, bv1, lh1, lw1, lb1, wh1, wv1, 0) ∧
    ∃ ans hp1 bo1 su1 sm1 am1 rm1 g1 g2 fo1 bvM1 bcM1 lo1 lhM1 lwM1 lbM1 wa1 whM1 wvM1, m_solve_L nv nc mt mf wt nm hp bo su sm av re ghM gvM fo bvM bcM nd lo lhM lwM lbM wc whM wvM = some (ans, 0, hp1, bo1, su1, sm1, am1, rm1, g1, g2, fo1, bvM1, bcM1, nd1, lo1, lhM1, lwM1, lbM1, wa1, whM1, wvM1) ∧
    xSR bc1 bv1 lc1 lh1 lw1 lb1 fo1 bvM1 bcM1 lo1 lhM1 lwM1 lbM1 ∧ lc1 ≤ lz ∧ ans = (if f_hasBest bc1 = 0 then -2 else bc1) := by
  have hend : ∀ {bc : Int64} {bv : Int32} {lc : Nat} {lh lw : Nat → Int32} {lb : Nat → Int64} {fo bvM : Int32} {bcM : Int64} {lo : Nat} {lhM lwM : Nat → Int32} {lbM : Nat → Int64}, xSR bc bv lc lh lw lb fo bvM bcM lo lhM lwM lbM → (if fo = 0 then (-2 : Int64) else bcM) = (if f_hasBest bc = 0 then -2 else bc) := by
    intro bc bv lc lh lw lb fo bvM bcM lo lhM lwM lbM hS
    rcases hS.1 with ⟨a1, a2⟩ | ⟨a1, b', a2, a3, a4, a5⟩
    · rw [if_pos a1, if_pos (e_has0 a2)]
    · have hf1 : ¬ f_hasBest bc = 0 := by rw [a3, e_has1 (by omega)]; decide
      have hf2 : ¬ fo = 0 := by rw [a1]; decide
      rw [if_neg hf1, if_neg hf2, a3, a4]
  intro n
  induction n with
  | zero =>
    intro nm i ss sc avl gh gv sv sr st nd lc bc bv lh lw lb wh wv wc hp bo su sm av re ghM gvM fo bvM bcM lo lhM lwM lbM whM wvM hs hnm hS hJ
    obtain ⟨nm, rfl⟩ : ∃ z, nm = z + 1 := ⟨nm - 1, by omega⟩
    have hwc : wc = 0 := by
      cases wc with
      | zero => rfl
      | succ w => rw [xsum] at hs; have := xphi_pos (xmu nv (wh w)); omega
    subst hwc
    rw [f_run_L, m_solve_L, if_pos (show nI 0 ≤ 0 by decide)]
    have hlc : lc ≤ lz := Nat.le_trans (Nat.le_add_right _ _) hJ.2
    have he := hend hS
    by_cases hf : fo = 0
    · rw [if_pos hf] at he ⊢
      exact ⟨_, _, _, _, _, _, _, _, _, _, _, _, _, _, _, _, _, rfl, _, _, _, _, _, _, _, _, _, _, _, _, _, _, _, _, _, _, _, rfl, hS, hlc, he⟩
    · rw [if_neg hf] at he ⊢
      exact ⟨_, _, _, _, _, _, _, _, _, _, _, _, _, _, _, _, _, rfl, _, _, _, _, _, _, _, _, _, _, _, _, _, _, _, _, _, _, _, rfl, hS, hlc, he⟩
  | succ n ih =>
    intro nm i ss sc avl gh gv sv sr st nd lc bc bv lh lw lb wh wv wc hp bo su sm av re ghM gvM fo bvM bcM lo lhM lwM lbM whM wvM hs hnm hS hJ
    obtain ⟨nm, rfl⟩ : ∃ z, nm = z + 1 := ⟨nm - 1, by omega⟩
    rw [f_run_L, m_solve_L]
    cases wc with
    | zero =>
      rw [if_pos (show nI 0 ≤ 0 by decide), if_pos (show nI 0 ≤ 0 by decide)]
      have hlc : lc ≤ lz := Nat.le_trans (Nat.le_add_right _ _) hJ.2
      have he := hend hS
      by_cases hf : fo = 0
      · rw [if_pos hf] at he ⊢
        exact ⟨_, _, _, _, _, _, _, _, _, _, _, _, _, _, _, _, _, rfl, _, _, _, _, _, _, _, _, _, _, _, _, _, _, _, _, _, _, _, rfl, hS, hlc, he⟩
      · rw [if_neg hf] at he ⊢
        exact ⟨_, _, _, _, _, _, _, _, _, _, _, _, _, _, _, _, _, rfl, _, _, _, _, _, _, _, _, _, _, _, _, _, _, _, _, _, _, _, rfl, hS, hlc, he⟩
    | succ w =>
      have hn := hw.v2
      have hb := (hJ.1 w (by omega)).2.1
      have hne : ¬ nI (w + 1) ≤ 0 := nI_nle (by omega) (by omega)
      rw [if_neg hne, if_neg hne, if_pos (by omega : w + 1 < 25), Nat.add_sub_cancel]
      obtain ⟨ss1, sc1, avl1, gh1, gv1, sv1, sr1, st1, lc1, bc1, bv1, lh1, lw1, lb1, wh1, wv1, wc1, ef, hp1, bo1, su1, sm1, am1, rm1, g1, g2, fo1, bvM1, bcM1, lo1, lhM1, lwM1, lbM1, whM1, wvM1, em, hS1, hJ1, hd⟩ := e_visit hw hlz (ss := ss) (sc := sc) (avl := avl) (gh := gh) (gv := gv) (sv := sv) (sr := sr) (st := st) (nd := nd) (hp := hp) (bo := bo) (su := su) (sm := sm) (av := av) (re := re) (ghM := ghM) (gvM := gvM) hS hJ
      rw [ef, em]
      dsimp only
      exact ih nm (i + 1) _ _ _ _ _ _ _ _ _ _ _ _ _ _ _ _ _ _ _ _ _ _ _ _ _ _ _ _ _ _ _ _ _ _ _ (by omega) (by omega) hS1 hJ1
theorem xmu_0 (n : Nat) : xmu n 0 = n := by
  induction n with
  | zero => rfl
  | succ n ih => rw [xmu, ih, b_0]; rfl
set_option maxRecDepth 100000 in
set_option maxHeartbeats 4000000 in
theorem e_solve {nv nc : Nat} {mt mf wt : Nat → Int32} (hw : xWF nv nc mt mf wt) {lz : Nat} (hz : lz = 2 ^ (nv - 1)) (hlz : lz ≤ 512) (ss : Nat → Int64) (sc : Nat) (avl : Int64) (gh gv : Int32) (sv : Nat → Int32) (sr : Nat → Nat) (st : Nat) (nd : Int32) (lc : Nat) (bc : Int64) (bv : Int32) (lh lw : Nat → Int32) (lb : Nat → Int64) (wh wv : Nat → Int32) (wc : Nat)
    (hp : Int32) (bo : Int64) (su : Nat) (sm : Nat → Int64) (av re : Nat → Int32) (ghM gvM fo bvM : Int32) (bcM : Int64) (ndM : Int32) (lo : Nat) (lhM lwM : Nat → Int32) (lbM : Nat → Int64) (wa : Nat) (whM wvM : Nat → Int32) :
    ∃ ans ss1 sc1 avl1 gh1 gv1 sv1 sr1 st1 nd1 lc1 bc1 bv1 lh1 lw1 lb1 wh1 wv1, f_solve nv (xAV nv) nc mt mf wt lz ss sc avl gh gv sv sr st nd lc bc bv lh lw lb wh wv wc = (ans, ss1, sc1, avl1, gh1, gv1, sv1, sr1, st1, nd1, lc1, bc1, bv1, lh1, lw1, lb1, wh1, wv1, 0) ∧
    ∃ hp1 bo1 su1 sm1 am1 rm1 g1 g2 fo1 bvM1 bcM1 lo1 lhM1 lwM1 lbM1 wa1 whM1 wvM1, m_solve nv nc mt mf wt hp bo su sm av re ghM gvM fo bvM bcM ndM lo lhM lwM lbM wa whM wvM = some (ans, 0, hp1, bo1, su1, sm1, am1, rm1, g1, g2, fo1, bvM1, bcM1, nd1, lo1, lhM1, lwM1, lbM1, wa1, whM1, wvM1) ∧
    xSR bc1 bv1 lc1 lh1 lw1 lb1 fo1 bvM1 bcM1 lo1 lhM1 lwM1 lbM1 ∧ lc1 ≤ lz := by
  have h1 := hw.v1
  have h2 := hw.v2
  have hu0 : ∀ f : Nat → Int32, upd f 0 0 0 = 0 := fun f => by simp [upd]
  have hx1 : xsum xphi nv (upd wh 0 0) 1 ≤ 2047 := by
    rw [xsum, xsum, hu0, xmu_0]
    have : ∀ n, n < 11 → 0 + xphi n ≤ 2047 := by decide +kernel
    exact this nv (by omega)
  have hx2 : 0 + xsum xpsi nv (upd wh 0 0) 1 ≤ lz := by
    rw [xsum, xsum, hu0, xmu_0, hz]
    have : ∀ n, n < 11 → 1 ≤ n → 0 + (0 + xpsi n) ≤ 2 ^ (n - 1) := by decide +kernel
    exact this nv (by omega) h1
  have hJ : xJ nv lz 0 1 (upd wh 0 0) (upd wv 0 0) (upd whM 0 0) (upd wvM 0 0) := by
    refine ⟨fun j hj => ?_, hx2⟩
    have e : j = 0 := by omega
    subst e
    rw [hu0, hu0, hu0, hu0]
    exact ⟨fun v _ hb => (by rw [b_0] at hb; exact Bool.noConfusion hb), (by rw [xmu_0]; omega), rfl, rfl⟩
  have hS : xSR (-1) 0 0 lh lw lb 0 bvM bcM 0 lhM lwM lbM := ⟨Or.inl ⟨rfl, rfl⟩, rfl, fun j hj => by omega⟩
  obtain ⟨ss1, sc1, avl1, gh1, gv1, sv1, sr1, st1, nd1, lc1, bc1, bv1, lh1, lw1, lb1, wh1, wv1, ef, ans, hp1, bo1, su1, sm1, am1, rm1, g1, g2, fo1, bvM1, bcM1, lo1, lhM1, lwM1, lbM1, wa1, whM1, wvM1, em, hS1, hl1, ha⟩ := e_run_L hw hlz 2048 2048 0 ss sc avl gh gv sv sr st 0 0 (-1) 0 lh lw lb (upd wh 0 0) (upd wv 0 0) 1 hp bo su sm av re ghM gvM 0 bvM bcM 0 lhM lwM lbM (upd whM 0 0) (upd wvM 0 0) (by omega) (by omega) hS hJ
  have hrun : f_run nv (xAV nv) nc mt mf wt lz ss sc avl gh gv sv sr st nd lc bc bv lh lw lb wh wv wc = (ss1, sc1, avl1, gh1, gv1, sv1, sr1, st1, nd1, lc1, bc1, bv1, lh1, lw1, lb1, wh1, wv1, 0) := by
    unfold f_run f_forget
    dsimp only
    rw [e_put (by omega)]
    exact ef
  have hm : m_solve nv nc mt mf wt hp bo su sm av re ghM gvM fo bvM bcM ndM lo lhM lwM lbM wa whM wvM = some (ans, 0, hp1, bo1, su1, sm1, am1, rm1, g1, g2, fo1, bvM1, bcM1, nd1, lo1, lhM1, lwM1, lbM1, wa1, whM1, wvM1) := em
  have hs : f_solve nv (xAV nv) nc mt mf wt lz ss sc avl gh gv sv sr st nd lc bc bv lh lw lb wh wv wc = (ans, ss1, sc1, avl1, gh1, gv1, sv1, sr1, st1, nd1, lc1, bc1, bv1, lh1, lw1, lb1, wh1, wv1, 0) := by
    unfold f_solve
    rw [hrun]
    dsimp only
    rw [ha]
    split <;> rfl
  exact ⟨_, _, _, _, _, _, _, _, _, _, _, _, _, _, _, _, _, _, hs, _, _, _, _, _, _, _, _, _, _, _, _, _, _, _, _, _, _, hm, hS1, hl1⟩
