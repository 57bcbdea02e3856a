/-! my own rows: clause, weigh, drop, value, log, best -/
theorem i_10 : ¬ (1 : Int32) = 0 := by decide
theorem i_1le : ¬ (1 : Int32) ≤ 0 := by decide
theorem i_2le : ¬ (2 : Int32) ≤ 0 := by decide
theorem i_0le : (0 : Int32) ≤ 0 := by decide
theorem e_are {nv : Nat} (hn : nv ≤ 10) {a b c d : Int32} (ha : ¬ f_isLiteralOrAbsent nv a = 0) (hb : ¬ f_isLiteralOrAbsent nv b = 0) (hc : ¬ f_isLiteralOrAbsent nv c = 0) (hd : ¬ f_isLiteralOrAbsent nv d = 0) :
    f_areLiterals nv a b c d = if xpr a + xpr b + xpr c + xpr d = 0 then 0 else if xcr (xT a b c d ||| xF a b c d) 10 0 = xpr a + xpr b + xpr c + xpr d then 1 else 0 := by
  have la := (e_lv hn ha).1
  have lb := (e_lv hn hb).1
  have lc := (e_lv hn hc).1
  have ld := (e_lv hn hd).1
  obtain ⟨-, -, a3, -, -, a6, -⟩ := e_lvs hn la
  obtain ⟨-, -, b3, -, -, b6, -⟩ := e_lvs hn lb
  obtain ⟨-, -, c3, -, -, c6, -⟩ := e_lvs hn lc
  obtain ⟨-, -, d3, -, -, d6, -⟩ := e_lvs hn ld
  obtain ⟨hl1, -⟩ := e_lits hn la lb lc ld
  unfold f_areLiterals
  rw [if_neg ha, if_neg hb, if_neg hc, if_neg hd, a3, b3, c3, d3, nI_add, nI_add, nI_add, e_used]
  obtain ⟨q, hq, eq⟩ := e_nat (x := xT a b c d ||| xF a b c d) (n := 10) (by omega) (fun i hi hx => by
    rw [b_or, Bool.or_eq_true] at hx
    have := hl1 i hi
    rcases hx with h | h
    · have := this.1 h; omega
    · have := this.2 h; omega)
  have hbc : f_bitCount (xT a b c d ||| xF a b c d) = nI (xcr (xT a b c d ||| xF a b c d) 10 0) := by
    rw [← m_count_eq, eq]
    exact e_bc q hq
  rw [hbc]
  have hx10 := xcr_le (xT a b c d ||| xF a b c d) 10 0
  generalize hp : xpr a + xpr b + xpr c + xpr d = p at *
  have hp4 : p ≤ 4 := by omega
  by_cases h0 : p = 0
  · rw [if_pos h0, h0, if_pos (by decide)]
  · rw [if_neg h0, if_neg (nI_nle (by omega) (by omega))]
    simp only [nI_eq (show xcr (xT a b c d ||| xF a b c d) 10 0 < 2 ^ 31 by omega) (show p < 2 ^ 31 by omega)]
theorem e_isW (w : Int32) : ¬ f_isWeight w = 0 ↔ (¬ w < 0 ∧ ¬ 1000000 < w) := by
  unfold f_isWeight
  by_cases h1 : w < 0
  · simp [h1]
  · by_cases h2 : 1000000 < w
    · simp [h1, h2]
    · simp [h1, h2]
theorem e_mc {nv nc : Nat} (hn : nv ≤ 10) (mt mf wt : Nat → Int32) (fo nd : Int32) (lo : Nat) {w a b c d : Int32} (hw : ¬ f_isWeight w = 0) (ha : ¬ f_isLiteralOrAbsent nv a = 0) (hb : ¬ f_isLiteralOrAbsent nv b = 0) (hc : ¬ f_isLiteralOrAbsent nv c = 0) (hd : ¬ f_isLiteralOrAbsent nv d = 0) :
    m_clause nv nc mt mf wt fo nd lo w a b c d = if f_areLiterals nv a b c d = 0 then (0, 1, nc, mt, mf, wt, fo, nd, lo) else if nI nc = 40 then (0, 2, nc, mt, mf, wt, fo, nd, lo) else (nI nc, 0, nc + 1, upd mt nc (xT a b c d), upd mf nc (xF a b c d), upd wt nc w, 0, 0, 0) := by
  obtain ⟨la, na⟩ := e_lv hn ha
  obtain ⟨lb, nb⟩ := e_lv hn hb
  obtain ⟨lc, nc'⟩ := e_lv hn hc
  obtain ⟨ld, nd'⟩ := e_lv hn hd
  obtain ⟨w1, w2⟩ := (e_isW w).mp hw
  obtain ⟨a1, a2, -, a4, -, a6, -⟩ := e_lvs hn la
  obtain ⟨b1, b2, -, b4, -, b6, -⟩ := e_lvs hn lb
  obtain ⟨c1, c2, -, c4, -, c6, -⟩ := e_lvs hn lc
  obtain ⟨d1, d2, -, d4, -, d6, -⟩ := e_lvs hn ld
  obtain ⟨-, hl2⟩ := e_lits hn la lb lc ld
  rw [e_are hn ha hb hc hd]
  have hT : (((m_says a 0) ||| (m_says b 0)) ||| (m_says c 0)) ||| (m_says d 0) = xT a b c d := by unfold xT; rw [a1, b1, c1, d1]
  have hF : (((m_says a 1) ||| (m_says b 1)) ||| (m_says c 1)) ||| (m_says d 1) = xF a b c d := by unfold xF; rw [a2, b2, c2, d2]
  unfold m_clause m_forget
  simp only [if_neg w1, if_neg w2, if_pos na, if_pos nb, if_pos nc', if_pos nd', if_true, hT, hF, a4, b4, c4, d4, nI_add, m_count_eq]
  have hx10 := xcr_le (xT a b c d ||| xF a b c d) 10 0
  generalize hp : xpr a + xpr b + xpr c + xpr d = p at *
  have hp4 : p ≤ 4 := by omega
  have h00 : (nI p = 0) ↔ p = 0 := by rw [← nI_0]; exact nI_eq (by omega) (by omega)
  simp only [h00, nI_leI (show p < 2 ^ 31 by omega) (show xcr (xT a b c d ||| xF a b c d) 10 0 < 2 ^ 31 by omega)]
  by_cases h0 : p = 0
  · simp only [if_pos h0, if_true, if_neg i_1le]
  · simp only [if_neg h0]
    by_cases h1 : xcr (xT a b c d ||| xF a b c d) 10 0 = p
    · have h2 : p ≤ xcr (xT a b c d ||| xF a b c d) 10 0 := by omega
      simp only [if_pos h1, if_pos h2, if_neg i_10]
      by_cases h3 : nI nc = 40
      · simp only [if_pos h3, if_neg i_2le]
      · simp only [if_neg h3, if_pos i_0le]
    · have h2 : ¬ p ≤ xcr (xT a b c d ||| xF a b c d) 10 0 := by omega
      simp only [if_neg h1, if_neg h2, if_true, if_neg i_1le]
theorem e_mbad {nv nc : Nat} (mt mf wt : Nat → Int32) (fo nd : Int32) (lo : Nat) {w a b c d : Int32} (h : f_isWeight w = 0 ∨ f_isLiteralOrAbsent nv a = 0 ∨ f_isLiteralOrAbsent nv b = 0 ∨ f_isLiteralOrAbsent nv c = 0 ∨ f_isLiteralOrAbsent nv d = 0) :
    m_clause nv nc mt mf wt fo nd lo w a b c d = (0, 1, nc, mt, mf, wt, fo, nd, lo) := by
  have hbad : (if w < 0 then 1 else (if 1000000 < w then 1 else (if (m_noLiteral nv a) = 0 then (if (m_noLiteral nv b) = 0 then (if (m_noLiteral nv c) = 0 then (if (m_noLiteral nv d) = 0 then 0 else 1) else 1) else 1) else 1)) : Int32) = 1 := by
    by_cases w1 : w < 0
    · rw [if_pos w1]
    · rw [if_neg w1]
      by_cases w2 : 1000000 < w
      · rw [if_pos w2]
      · rw [if_neg w2]
        rcases h with h | h | h | h | h
        · exact absurd h ((e_isW w).mpr ⟨w1, w2⟩)
        · rw [if_neg (e_nolv h)]
        · split
          · rw [if_neg (e_nolv h)]
          · rfl
        · split
          · split
            · rw [if_neg (e_nolv h)]
            · rfl
          · rfl
        · split
          · split
            · split
              · rw [if_neg (e_nolv h)]
              · rfl
            · rfl
          · rfl
  unfold m_clause
  simp only [hbad, if_neg i_10, if_neg i_1le]
theorem e_are0 {nv : Nat} {a b c d : Int32} (h : f_isLiteralOrAbsent nv a = 0 ∨ f_isLiteralOrAbsent nv b = 0 ∨ f_isLiteralOrAbsent nv c = 0 ∨ f_isLiteralOrAbsent nv d = 0) : f_areLiterals nv a b c d = 0 := by
  unfold f_areLiterals
  rcases h with h | h | h | h
  · rw [if_pos h]
  · rw [if_pos h, ite_self]
  · rw [if_pos h, ite_self, ite_self]
  · rw [if_pos h, ite_self, ite_self, ite_self]
/-- what the reference's clause answers, by the class's own checks -/
theorem e_clause {nv nc : Nat} (hn : nv ≤ 10) (hnc : nc ≤ 40) (mt mf wt : Nat → Int32) (fo nd : Int32) (lo : Nat) (w a b c d : Int32) :
    m_clause nv nc mt mf wt fo nd lo w a b c d = if f_isWeight w = 0 then (0, 1, nc, mt, mf, wt, fo, nd, lo) else if f_areLiterals nv a b c d = 0 then (0, 1, nc, mt, mf, wt, fo, nd, lo) else if ¬ nI nc < 40 then (0, 2, nc, mt, mf, wt, fo, nd, lo) else (nI nc, 0, nc + 1, upd mt nc (xT a b c d), upd mf nc (xF a b c d), upd wt nc w, 0, 0, 0) := by
  by_cases hw : f_isWeight w = 0
  · rw [if_pos hw, e_mbad mt mf wt fo nd lo (Or.inl hw)]
  · rw [if_neg hw]
    by_cases hb : f_isLiteralOrAbsent nv a = 0 ∨ f_isLiteralOrAbsent nv b = 0 ∨ f_isLiteralOrAbsent nv c = 0 ∨ f_isLiteralOrAbsent nv d = 0
    · rw [if_pos (e_are0 hb), e_mbad mt mf wt fo nd lo (Or.inr hb)]
    · rw [e_mc hn mt mf wt fo nd lo hw (fun q => hb (Or.inl q)) (fun q => hb (Or.inr (Or.inl q))) (fun q => hb (Or.inr (Or.inr (Or.inl q)))) (fun q => hb (Or.inr (Or.inr (Or.inr q))))]
      have h40 : (nI nc = 40) ↔ ¬ nI nc < 40 := by
        have h1 : (nI nc = nI 40) ↔ nc = 40 := nI_eq (by omega) (by omega)
        have h2 : (nI nc < nI 40) ↔ nc < 40 := nI_ltI (by omega) (by omega)
        have h3 : nI 40 = 40 := by decide
        rw [h3] at h1 h2
        rw [h1, h2]
        omega
      simp only [h40]
theorem e_fclause {nc : Nat} (mt mf wt : Nat → Int32) (w a b c d : Int32) (hc : nI nc < 40) : f_clause nc mt mf wt w a b c d = (nI nc, nc + 1, upd mt nc (xT a b c d), upd mf nc (xF a b c d), upd wt nc w, 0, 0, -1, 0, 0) := by
  unfold f_clause f_forget f_add
  rw [if_pos hc]
  rfl
theorem xWF.add {nv nc : Nat} {mt mf wt : Nat → Int32} (h : xWF nv nc mt mf wt) {w a b c d : Int32} (hw : ¬ f_isWeight w = 0) (ha : ¬ f_areLiterals nv a b c d = 0) (hc : nI nc < 40) : xWF nv (nc + 1) (upd mt nc (xT a b c d)) (upd mf nc (xF a b c d)) (upd wt nc w) := by
  have hn := h.v2
  have hnc := h.c
  have hlt : nc < 40 := (nI_ltI (a := nc) (b := 40) (by omega) (by omega)).mp hc
  have hb : ¬ (f_isLiteralOrAbsent nv a = 0 ∨ f_isLiteralOrAbsent nv b = 0 ∨ f_isLiteralOrAbsent nv c = 0 ∨ f_isLiteralOrAbsent nv d = 0) := fun q => ha (e_are0 q)
  have xa : ¬ f_isLiteralOrAbsent nv a = 0 := fun q => hb (Or.inl q)
  have xb : ¬ f_isLiteralOrAbsent nv b = 0 := fun q => hb (Or.inr (Or.inl q))
  have xc : ¬ f_isLiteralOrAbsent nv c = 0 := fun q => hb (Or.inr (Or.inr (Or.inl q)))
  have xd : ¬ f_isLiteralOrAbsent nv d = 0 := fun q => hb (Or.inr (Or.inr (Or.inr q)))
  obtain ⟨hl1, hl2⟩ := e_lits hn (e_lv hn xa).1 (e_lv hn xb).1 (e_lv hn xc).1 (e_lv hn xd).1
  rw [e_are hn xa xb xc xd] at ha
  have hcr : xcr (xT a b c d ||| xF a b c d) 10 0 = xpr a + xpr b + xpr c + xpr d := by
    apply Classical.byContradiction
    intro q
    rw [if_neg q, ite_self] at ha
    exact ha rfl
  have hz := xcr_0 10 0 (show xcr (xT a b c d &&& xF a b c d) 10 0 = 0 by omega)
  refine ⟨h.v1, hn, by omega, fun i hi => ?_, fun i hi => ?_⟩
  · by_cases e : i = nc
    · subst e
      have e1 : upd mt i (xT a b c d) i = xT a b c d := by simp [upd]
      have e2 : upd mf i (xF a b c d) i = xF a b c d := by simp [upd]
      rw [e1, e2]
      intro v hv
      obtain ⟨l1, l2⟩ := hl1 v hv
      refine ⟨fun q => ⟨l1 q, ?_⟩, l2⟩
      have := hz v (by omega) (by have := l1 q; omega)
      rw [b_and, q, Bool.true_and] at this
      exact this
    · have e1 : upd mt nc (xT a b c d) i = mt i := by simp [upd, e]
      have e2 : upd mf nc (xF a b c d) i = mf i := by simp [upd, e]
      rw [e1, e2]
      exact h.cl i (by omega)
  · by_cases e : i = nc
    · subst e
      have e1 : upd wt i w i = w := by simp [upd]
      rw [e1]
      obtain ⟨w1, w2⟩ := (e_isW w).mp hw
      obtain ⟨j, hj, ej⟩ := nI_of2 (M := 1000000) (n := 1000000) (by decide) w1 (Int32.not_lt.mp w2)
      exact ⟨j, hj, ej⟩
    · have e1 : upd wt nc w i = wt i := by simp [upd, e]
      rw [e1]
      exact h.w i (by omega)
theorem e_weigh {nc : Nat} (wt : Nat → Int32) (fo nd : Int32) (lo : Nat) (k w : Int32) : m_weigh nc wt fo nd lo k w = if k < 0 then (0, 1, wt, fo, nd, lo) else if nI nc ≤ k then (0, 1, wt, fo, nd, lo) else if f_isWeight w = 0 then (0, 1, wt, fo, nd, lo) else (wt k.toNatClampNeg, 0, upd wt k.toNatClampNeg w, 0, 0, 0) := by
  unfold m_weigh m_forget f_isWeight
  by_cases h1 : k < 0
  · rw [if_pos h1, if_pos h1]
  · rw [if_neg h1, if_neg h1]
    by_cases h2 : nI nc ≤ k
    · rw [if_pos h2, if_pos h2]
    · rw [if_neg h2, if_neg h2]
      by_cases h3 : w < 0
      · simp [h3]
      · rw [if_neg h3, if_neg h3]
        by_cases h4 : w ≤ 1000000
        · rw [if_pos h4, if_neg (Int32.not_lt.mpr h4)]
          rfl
        · rw [if_neg h4, if_pos (Int32.not_le.mp h4)]
          rfl
theorem xWF.weigh {nv nc : Nat} {mt mf wt : Nat → Int32} (h : xWF nv nc mt mf wt) {k w : Int32} (hw : ¬ f_isWeight w = 0) : xWF nv nc mt mf (upd wt k.toNatClampNeg w) := by
  refine ⟨h.v1, h.v2, h.c, h.cl, fun i hi => ?_⟩
  by_cases e : i = k.toNatClampNeg
  · have e1 : upd wt k.toNatClampNeg w i = w := by simp [upd, e]
    rw [e1]
    obtain ⟨w1, w2⟩ := (e_isW w).mp hw
    obtain ⟨j, hj, ej⟩ := nI_of2 (M := 1000000) (n := 1000000) (by decide) w1 (Int32.not_lt.mp w2)
    exact ⟨j, hj, ej⟩
  · have e1 : upd wt k.toNatClampNeg w i = wt i := by simp [upd, e]
    rw [e1]
    exact h.w i hi
theorem e_fweigh {nc : Nat} (mt mf wt : Nat → Int32) (k w : Int32) : f_weigh nc mt mf wt k w = (wt k.toNatClampNeg, nc, mt, mf, upd wt k.toNatClampNeg w, 0, 0, -1, 0, 0) := rfl
theorem xWF.drop {nv nc : Nat} {mt mf wt : Nat → Int32} (h : xWF nv nc mt mf wt) : xWF nv (nc - 1) mt mf wt :=
  ⟨h.v1, h.v2, by have := h.c; omega, fun i hi => h.cl i (by omega), fun i hi => h.w i (by omega)⟩
theorem e_value {bc : Int64} {bv : Int32} {lc : Nat} {lh lw : Nat → Int32} {lb : Nat → Int64} {fo bvM : Int32} {bcM : Int64} {lo : Nat} {lhM lwM : Nat → Int32} {lbM : Nat → Int64} (hS : xSR bc bv lc lh lw lb fo bvM bcM lo lhM lwM lbM) (nv : Nat) (v : Int32) : m_value nv fo bvM v = (f_value nv bc bv v, 0) := by
  unfold m_value f_value
  rcases hS.1 with ⟨a1, a2⟩ | ⟨a1, b', a2, a3, a4, a5⟩
  · rw [if_pos a1, if_pos (e_has0 a2)]
    split
    · rfl
    · split <;> rfl
  · have hf1 : ¬ f_hasBest bc = 0 := by rw [a3, e_has1 (by omega)]; decide
    have hf2 : ¬ fo = 0 := by rw [a1]; decide
    rw [if_neg hf1, if_neg hf2, a5]
    split
    · rfl
    · split <;> rfl
theorem e_islog (lc : Nat) (k : Int32) : f_isLogged lc k = if k < 0 then 0 else if nI lc ≤ k then 0 else 1 := rfl
theorem e_log {bc : Int64} {bv : Int32} {lc : Nat} {lh lw : Nat → Int32} {lb : Nat → Int64} {fo bvM : Int32} {bcM : Int64} {lo : Nat} {lhM lwM : Nat → Int32} {lbM : Nat → Int64} (hS : xSR bc bv lc lh lw lb fo bvM bcM lo lhM lwM lbM) (hlc : lc ≤ 512) (k what : Int32) : m_log lo lhM lwM k what = (f_log lc lh lw k what, 0) := by
  obtain ⟨-, h2, h3⟩ := hS
  subst h2
  unfold m_log f_log
  rw [e_islog]
  by_cases h1 : k < 0
  · simp [h1]
  · obtain ⟨j, hj, rfl⟩ := nI_of h1
    rw [if_neg h1, if_neg h1]
    by_cases h2 : nI lo ≤ nI j
    · simp [h2]
    · have hlt : j < lo := Nat.lt_of_not_le fun q => h2 (nI_le q hj)
      obtain ⟨a, b, -⟩ := h3 j hlt
      simp only [if_neg h2, nI_clamp hj, a, b, if_neg i_10]
      by_cases w0 : what = 0
      · subst w0
        rfl
      · by_cases w1 : what = 1
        · subst w1
          rfl
        · simp only [if_neg w0, if_neg w1]
          by_cases w2 : what < 0
          · rw [if_pos w2]
          · have w3 : ¬ what ≤ 1 := by
              obtain ⟨q, hq, rfl⟩ := nI_of w2
              intro hle
              have : q ≤ 1 := (nI_leI (a := q) (b := 1) hq (by decide)).mp hle
              have : q = 0 ∨ q = 1 := by omega
              rcases this with e | e
              · exact w0 (by rw [e]; decide)
              · exact w1 (by rw [e]; decide)
            rw [if_neg w2, if_neg w3]
theorem e_best {bc : Int64} {bv : Int32} {lc : Nat} {lh lw : Nat → Int32} {lb : Nat → Int64} {fo bvM : Int32} {bcM : Int64} {lo : Nat} {lhM lwM : Nat → Int32} {lbM : Nat → Int64} (hS : xSR bc bv lc lh lw lb fo bvM bcM lo lhM lwM lbM) (k : Int32) : m_best lo lbM k = (f_best lc lb k, 0) := by
  obtain ⟨-, h2, h3⟩ := hS
  subst h2
  unfold m_best f_best
  rw [e_islog]
  by_cases h1 : k < 0
  · simp [h1]
  · obtain ⟨j, hj, rfl⟩ := nI_of h1
    rw [if_neg h1, if_neg h1]
    by_cases h2 : nI lo ≤ nI j
    · rw [if_neg (Int32.not_lt.mpr h2), if_pos h2, if_pos rfl]
    · rw [if_pos (Int32.not_le.mp h2), if_neg h2, if_neg i_10, nI_clamp hj]
      by_cases hlt : j < lo
      · rw [(h3 j hlt).2.2]
      · exact absurd (nI_le (Nat.le_of_not_lt hlt) hj) h2
