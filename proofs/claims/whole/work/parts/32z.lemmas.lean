theorem visit_ok {nv : Nat} {av : Int32} {nc : Nat} {mt mf wt : Nat → Int32} {lz : Nat} {ss : Nat → Int64} {sc : Nat} {avl : Int64} {gh gv : Int32} {sv : Nat → Int32} {sr : Nat → Nat} {st : Nat} {nd : Int32} {lc : Nat} {bc : Int64} {bv : Int32} {lh lw : Nat → Int32} {lb : Nat → Int64} {wh wv : Nat → Int32} {wc : Nat} {hv vl : Int32}
    {ss1 : Nat → Int64} {sc1 : Nat} {avl1 : Int64} {gh1 gv1 : Int32} {sv1 : Nat → Int32} {sr1 : Nat → Nat} {st1 : Nat} {nd1 : Int32} {lc1 : Nat} {bc1 : Int64} {bv1 : Int32} {lh1 lw1 : Nat → Int32} {lb1 : Nat → Int64} {wh1 wv1 : Nat → Int32} {wc1 : Nat}
    (h : f_visit nv av nc mt mf wt lz ss sc avl gh gv sv sr st nd lc bc bv lh lw lb wh wv wc hv vl = (ss1, sc1, avl1, gh1, gv1, sv1, sr1, st1, nd1, lc1, bc1, bv1, lh1, lw1, lb1, wh1, wv1, wc1)) (hlz : lz ≤ 512) (hlc : lc ≤ lz) (hwc : wc ≤ 11) : lc1 ≤ lz ∧ wc1 ≤ 11 := by
  unfold f_visit at h
  split at h
  · split at h
    simp only [Prod.mk.injEq] at h
    omega
  · split at h
    split at h
    · split at h
      rename_i hb
      simp only [Prod.mk.injEq] at h
      have := branch_ok hb hwc
      omega
    · split at h
      rename_i hb
      simp only [Prod.mk.injEq] at h
      have := putIntoLog_ok hb hlz hlc
      omega
