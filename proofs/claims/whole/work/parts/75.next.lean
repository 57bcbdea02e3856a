/-! my own rows: the next subset -/
def xNx (nv nc : Nat) (mt mf av re : Nat → Int32) (r : Int32) (R : Int64) : Prop :=
  (r < 0 ∧ R = 0) ∨ ∃ k, k < nc ∧ r = nI k ∧ ¬ av k = 0 ∧ m_gather nv nc mt mf re r = some R ∧ bl R k = true ∧ ∀ q, q < 64 → bl R q = true → q < nc
theorem e_next_L {nv nc : Nat} {mt mf wt : Nat → Int32} (hw : xWF nv nc mt mf wt) {avl : Int64} {av : Nat → Int32} (ha : xAv nc avl av) (hv : Int32) : ∀ (n nm i : Nat) (gh gv : Int32) (sv : Nat → Int32) (sr : Nat → Nat) (st : Nat) (re : Nat → Int32) (pv : Nat → Nat), n ≤ nm → xmu nv gh + 1 ≤ n → xG nv nc mt mf hv gh sv sr st re pv →
    ∃ r gh1 gv1 re1, m_grow_L nv nc mt mf av nm (m_broken nc mt mf av gh gv) (if 0 ≤ m_broken nc mt mf av gh gv then -1 else m_single nc mt mf av gh gv) gh gv re = some (r, gh1, gv1, re1) ∧ xNx nv nc mt mf av re1 r (f_nextSubset_L nc mt mf avl n i gh gv sv sr st).1 := by
  have hc := hw.c
  have hnv := hw.v2
  intro n
  induction n with
  | zero => intro nm i gh gv sv sr st re pv _ h; omega
  | succ n ih =>
    intro nm i gh gv sv sr st re pv hnm hmu hG
    cases nm with
    | zero => omega
    | succ nm =>
      have hff := e_ff hw ha gh gv
      have hfu := e_fu hw ha gh gv
      rw [f_nextSubset_L, hff, hfu]
      have hm1 : ¬ (0 : Int32) ≤ -1 := by decide
      have hn1 : (-1 : Int32) < 0 := by decide
      rcases e_ffok_L mt mf av gh gv nc 0 with hb | ⟨k, -, hk, hb, hak⟩
      · have hb : m_broken nc mt mf av gh gv = -1 := hb
        rw [hb, if_neg hm1, if_pos rfl]
        by_cases hs : m_single nc mt mf av gh gv = -1
        · rw [if_pos hs, hs, m_grow_L, if_pos hn1]
          exact ⟨_, _, _, _, rfl, Or.inl ⟨hn1, rfl⟩⟩
        · rw [if_neg hs]
          obtain ⟨k, v, hk, ek, hv1, hg, hu⟩ := e_fuok hw (avl := avl) (gh := gh) (gv := gv) (by rw [hfu]; exact hs)
          rw [hfu] at ek
          rw [ek, m_grow_L, if_neg (nI_pos (by omega)), nI_clamp (by omega)]
          obtain ⟨hG', hmu'⟩ := hG.step hw hk hv1 hg hu
          have hst := hG.2.2.2.2.2.2
          have hp := xmu_pos hv1 hg
          have hlt : nI st < 10 := nI_lt (a := st) (b := 10) (by omega) (by decide)
          unfold f_growBy
          rw [if_pos hlt]
          have hvc : (f_withoutValue mt mf k gh) &&& (f_literalsSayingTrue mt k) = (mt k) &&& (f_withoutValue mt mf k gh) := Int32.and_comm _ _
          rw [hvc]
          exact ih nm (i + 1) (gh ||| (f_withoutValue mt mf k gh)) (gv ||| ((mt k) &&& (f_withoutValue mt mf k gh))) _ _ _ _ _ (by omega) (by omega) hG'
      · have hb : m_broken nc mt mf av gh gv = nI k := hb
        have hk' : k < nc := by omega
        rw [hb, if_pos (nI_pos' (by omega)), if_neg (nI_m1 (by omega)), m_grow_L, if_pos hn1, nI_clamp (by omega)]
        obtain ⟨h1, h2, h3⟩ := e_gather hw hG hk'
        exact ⟨_, _, _, _, rfl, Or.inr ⟨k, hk', rfl, hak, h1, h2, h3⟩⟩
theorem e_next {nv nc : Nat} {mt mf wt : Nat → Int32} (hw : xWF nv nc mt mf wt) {avl : Int64} {av : Nat → Int32} (ha : xAv nc avl av) (hv vl : Int32) (sv : Nat → Int32) (sr : Nat → Nat) (re : Nat → Int32) :
    ∃ r gh1 gv1 re1, m_grow nv nc mt mf av re hv vl = some (r, gh1, gv1, re1) ∧ xNx nv nc mt mf av re1 r (f_nextSubset nc mt mf avl sv sr hv vl).1 := by
  have hnv := hw.v2
  have hmu := xmu_le nv hv
  unfold m_grow f_nextSubset
  exact e_next_L hw ha hv 11 12 0 hv vl sv sr 0 (m_grow_A 10 0 re) (fun _ => 0) (by omega) (by omega) (xG.start fun v hv1 => by rw [m_growA, if_pos (by omega)])
