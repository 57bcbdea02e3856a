theorem boundOf_L_sc (nc : Nat) (mt mf wt : Nat → Int32) (hv vl : Int32) : ∀ (n i : Nat) (tot : Int64) (ss : Nat → Int64) (sc : Nat) (avl : Int64) (gh gv : Int32) (sv : Nat → Int32) (sr : Nat → Nat) (st : Nat), i + n = 40 → sc ≤ 40 → (f_boundOf_L nc mt mf wt hv vl n i tot ss sc avl gh gv sv sr st).2.2.1 ≤ 40 := by
  intro n
  induction n with
  | zero =>
    intro i tot ss sc avl gh gv sv sr st _ hsc
    rw [f_boundOf_L]
    exact hsc
  | succ n ih =>
    intro i tot ss sc avl gh gv sv sr st hi hsc
    rw [f_boundOf_L]
    split
    split
    · exact hsc
    · split
      · show i + 1 ≤ 40
        omega
      · exact ih _ _ _ _ _ _ _ _ _ _ (by omega) (by omega)
theorem boundOf_sc {nc : Nat} {mt mf wt : Nat → Int32} {ss : Nat → Int64} {sc : Nat} {avl : Int64} {gh gv : Int32} {sv : Nat → Int32} {sr : Nat → Nat} {st : Nat} {hv vl : Int32} {r : Int64} {ss1 : Nat → Int64} {sc1 : Nat} {avl1 : Int64} {gh1 gv1 : Int32} {sv1 : Nat → Int32} {sr1 : Nat → Nat} {st1 : Nat}
    (h : f_boundOf nc mt mf wt ss sc avl gh gv sv sr st hv vl = (r, ss1, sc1, avl1, gh1, gv1, sv1, sr1, st1)) : sc1 ≤ 40 := by
  have h1 : (f_boundOf nc mt mf wt ss sc avl gh gv sv sr st hv vl).2.2.1 = sc1 := by rw [h]
  rw [← h1]
  unfold f_boundOf
  split
  · exact Nat.zero_le _
  · exact boundOf_L_sc nc mt mf wt hv vl 40 0 _ _ _ _ _ _ _ _ _ (by omega) (by omega)
