theorem xpos0 {t : Nat} (h : ¬ nI t = 0) : 0 < t := by
  rcases Nat.eq_zero_or_pos t with h1 | h1
  · exact absurd (by rw [h1]; rfl) h
  · exact h1
theorem xnlt {j : Int32} {k : Nat} (h : j < nI k) : ¬ nI k ≤ j := by
  rw [Int32.lt_iff_toInt_lt] at h
  rw [Int32.le_iff_toInt_le]
  omega
theorem clause_lt {a b c : Prop} [Decidable a] [Decidable b] [Decidable c] {nc : Nat} (hnc : nc ≤ 40) (h : ((if a then (if b then 1 else (if c then (if (nI nc) = 40 then 2 else 0) else 1)) else 1) : Int32) ≤ 0) : nc < 40 := by
  rcases Nat.lt_or_ge nc 40 with h1 | h1
  · exact h1
  · have h2 : nc = 40 := by omega
    subst h2
    exfalso
    revert h
    rw [if_pos (show nI 40 = 40 from rfl)]
    split
    · split
      · decide
      · split <;> decide
    · decide
