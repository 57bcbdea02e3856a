theorem branch_ok {nv nc : Nat} {mt mf wh wv : Nat → Int32} {wc : Nat} {hv vl : Int32} {wh1 wv1 : Nat → Int32} {wc1 : Nat} (h : f_branch nv nc mt mf wh wv wc hv vl = (wh1, wv1, wc1)) (hwc : wc ≤ 11) : wc1 ≤ 11 := by
  unfold f_branch at h
  split at h
  · simp only [Prod.mk.injEq] at h
    omega
  · split at h <;>
    · split at h
      rename_i hb
      split at h
      rename_i hb2
      have h1 := putWaiting_ok hb hwc
      have h2 := putWaiting_ok hb2 h1
      simp only [Prod.mk.injEq] at h
      omega
