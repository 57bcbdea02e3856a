theorem line_wa {wh wv : Nat → Int32} {wa : Nat} {hv vl : Int32} {wh1 wv1 : Nat → Int32} {wa1 : Nat} (h : m_line wh wv wa hv vl = (wh1, wv1, wa1)) : wa1 = wa + 1 := by
  unfold m_line at h
  simp only [Prod.mk.injEq] at h
  omega
