/-! my own rows: the bound -/
def xal : Nat → (Nat → Int32) → Nat
  | 0, _ => 0
  | n + 1, av => xal n av + if av n = 0 then 0 else 1
theorem xal_le (n : Nat) (av : Nat → Int32) : xal n av ≤ n := by
  induction n with
  | zero => exact Nat.le_refl _
  | succ n ih => rw [xal]; split <;> omega
theorem xal_mono {n : Nat} {a b : Nat → Int32} (h : ∀ k, k < n → a k = 0 → b k = 0) : xal n b ≤ xal n a := by
  induction n with
  | zero => exact Nat.le_refl _
  | succ n ih =>
    rw [xal, xal]
    have h1 := ih (fun q hq => h q (by omega))
    have h2 := h n (by omega)
    by_cases ha : a n = 0
    · simp only [ha, h2 ha, if_true]; omega
    · simp only [ha, if_false]; split <;> omega
theorem xal_lt {n : Nat} {a b : Nat → Int32} (h : ∀ k, k < n → a k = 0 → b k = 0) {q : Nat} (hq : q < n) (h0 : ¬ a q = 0) (h1 : b q = 0) : xal n b + 1 ≤ xal n a := by
  induction n with
  | zero => omega
  | succ n ih =>
    rw [xal, xal]
    by_cases e : q = n
    · subst e
      have := xal_mono (n := q) (a := a) (b := b) (fun k hk => h k (by omega))
      simp only [h0, h1, if_true, if_false]; omega
    · have h2 := ih (fun k hk => h k (by omega)) (by omega)
      have h3 := h n (by omega)
      by_cases ha : a n = 0
      · simp only [ha, h3 ha, if_true]; omega
      · simp only [ha, if_false]; split <;> omega
theorem xal_pos {n : Nat} {a : Nat → Int32} {q : Nat} (hq : q < n) (h0 : ¬ a q = 0) : 1 ≤ xal n a := by
  have := xal_lt (n := n) (a := a) (b := fun _ => 0) (fun _ _ _ => rfl) hq h0 rfl
  omega
def xBd (r : Int64) (sc : Nat) (ss : Nat → Int64) (hp : Int32) (bo : Int64) (su : Nat) (sm : Nat → Int64) : Prop :=
  sc = su ∧ su ≤ 40 ∧ (∀ j, j < su → ss j = sm j) ∧ ((hp = 0 ∧ ∃ b, b ≤ 80000000 ∧ bo = lN b ∧ r = lN b) ∨ (hp = 1 ∧ r = -2))
set_option maxHeartbeats 2000000 in
theorem e_bound_L {nv nc : Nat} {mt mf wt : Nat → Int32} (hw : xWF nv nc mt mf wt) (hv vl : Int32) : ∀ (n nm i b : Nat) (ssF ssM : Nat → Int64) (avl : Int64) (av : Nat → Int32) (gh gv : Int32) (sv : Nat → Int32) (sr : Nat → Nat) (st : Nat) (re : Nat → Int32) (ghM gvM : Int32), i + n = 40 → n + 2 ≤ nm → i + xal nc av ≤ 40 → b ≤ 40000000 + 1000000 * i → (∀ j, j < i → ssF j = ssM j) → xAv nc avl av →
    ∃ r ss1 sc1 avl1 gh1 gv1 sv1 sr1 st1, f_boundOf_L nc mt mf wt hv vl n i (lN b) ssF i avl gh gv sv sr st = (r, ss1, sc1, avl1, gh1, gv1, sv1, sr1, st1) ∧
    ∃ hp bo su sm am rm g1 g2, m_reckon_L nv nc mt mf wt hv vl nm 1 0 (lN b) i ssM av re ghM gvM = some (hp, bo, su, sm, am, rm, g1, g2) ∧ xBd r sc1 ss1 hp bo su sm := by
  have hc := hw.c
  intro n
  induction n with
  | zero =>
    intro nm i b ssF ssM avl av gh gv sv sr st re ghM gvM hi hnm hal hb hag ha
    obtain ⟨nm, rfl⟩ : ∃ z, nm = z + 2 := ⟨nm - 2, by omega⟩
    obtain ⟨r, gh1, gv1, re1, hgr, hN⟩ := e_next hw ha hv vl sv sr re
    rw [f_boundOf_L, m_reckon_L, if_neg (by decide), hgr]
    refine ⟨_, _, _, _, _, _, _, _, _, rfl, ?_⟩
    rcases hN with ⟨hr, -⟩ | ⟨k, hk, -, hak, -⟩
    · simp only [if_pos hr]
      rw [m_reckon_L, if_pos rfl]
      exact ⟨_, _, _, _, _, _, _, _, rfl, rfl, by omega, hag, Or.inl ⟨rfl, b, by omega, rfl, rfl⟩⟩
    · have := xal_pos hk hak
      omega
  | succ n ih =>
    intro nm i b ssF ssM avl av gh gv sv sr st re ghM gvM hi hnm hal hb hag ha
    obtain ⟨nm, rfl⟩ : ∃ z, nm = z + 2 := ⟨nm - 2, by omega⟩
    obtain ⟨r, gh1, gv1, re1, hgr, hN⟩ := e_next hw ha hv vl sv sr re
    rw [f_boundOf_L, m_reckon_L, if_neg (by decide), hgr]
    generalize hz : f_nextSubset nc mt mf avl sv sr hv vl = z at hN
    obtain ⟨R, y1, y2, y3, y4, y5⟩ := z
    dsimp only at hN ⊢
    rcases hN with ⟨hr, hR⟩ | ⟨k, hk, hr, hak, hga, hRk, hRb⟩
    · rw [if_pos ((lg_cmp_eq R 0).mpr hR)]
      refine ⟨_, _, _, _, _, _, _, _, _, rfl, ?_⟩
      simp only [if_pos hr]
      rw [m_reckon_L, if_pos rfl]
      exact ⟨_, _, _, _, _, _, _, _, rfl, rfl, by omega, hag, Or.inl ⟨rfl, b, by omega, rfl, rfl⟩⟩
    · have hR0 : ¬ R = 0 := fun e => by rw [e, bl_0] at hRk; cases hRk
      have hrn : ¬ r < 0 := by rw [hr]; exact nI_pos (by omega)
      rw [if_neg (fun q => hR0 ((lg_cmp_eq R 0).mp q)), if_neg hrn, hga]
      dsimp only
      rw [if_pos (by omega : i < 40)]
      obtain ⟨l1, l2⟩ := e_light_L hw R nc 0 0 av (by omega)
      generalize hq : m_reckon_B wt R nc 0 0 av = q at l1 l2
      obtain ⟨le, av3⟩ := q
      dsimp only at l1 l2 ⊢
      have hle : le = f_lightestWeight nc wt R := l1
      rw [← hle]
      by_cases hl0 : le = 0
      · simp only [if_pos hl0]
        refine ⟨_, _, _, _, _, _, _, _, _, rfl, ?_⟩
        rw [m_reckon_L, if_pos rfl]
        refine ⟨_, _, _, _, _, _, _, _, rfl, rfl, by omega, fun j hj => ?_, Or.inr ⟨rfl, rfl⟩⟩
        unfold vp_updL
        split
        · rfl
        · exact hag j (by omega)
      · simp only [if_neg hl0]
        obtain ⟨w, hw1, ew⟩ := e_lightb hw R
        rw [hle, ew, nI_l (by omega), lN_add]
        have h3 : ∀ j, j < nc → av3 j = if bl R j = true then 0 else av j := fun j hj => by
          rw [l2 j]
          by_cases hbj : bl R j = true
          · rw [if_pos ⟨by omega, by omega, hbj⟩, if_pos hbj]
          · rw [if_neg (fun q => hbj q.2.2), if_neg hbj]
        have hlt : xal nc av3 + 1 ≤ xal nc av := xal_lt (fun j hj hz0 => by rw [h3 j hj, hz0, ite_self]) hk hak (by rw [h3 k hk, if_pos hRk])
        refine ih (nm + 1) (i + 1) (b + w) _ _ _ _ _ _ _ _ _ _ _ _ (by omega) (by omega) (by omega) (by omega) (fun j hj => ?_) (fun j hj => ?_)
        · unfold vp_updL
          split
          · rfl
          · exact hag j (by omega)
        · rw [bl_and, bl_not R (by omega), h3 j hj]
          have := ha j hj
          cases hbj : bl R j
          · simp [this]
          · simp
theorem e_reckA (mt mf : Nat → Int32) (hv vl : Int32) : ∀ (n i : Nat) (av : Nat → Int32) (q : Nat), m_reckon_A mt mf hv vl n i av q = if i ≤ q ∧ q < i + n then m_isOpen mt mf q hv vl else av q := by
  intro n
  induction n with
  | zero => intro i av q; rw [m_reckon_A, if_neg (by omega)]
  | succ n ih =>
    intro i av q
    rw [m_reckon_A, ih (i + 1)]
    have hz : vp_nar .boolean (m_isOpen mt mf i hv vl) = m_isOpen mt mf i hv vl := by
      rcases e_isOpen1 mt mf i hv vl with h | h <;> rw [h] <;> decide
    by_cases e : q = i
    · subst e
      rw [if_neg (by omega), if_pos (by omega)]
      simp [upd, hz]
    · have hiff : (i + 1 ≤ q ∧ q < i + 1 + n) ↔ (i ≤ q ∧ q < i + (n + 1)) := by omega
      simp only [hiff]
      simp [upd, e]
theorem e_bound {nv nc : Nat} {mt mf wt : Nat → Int32} (hw : xWF nv nc mt mf wt) (hv vl : Int32) (ss : Nat → Int64) (sc : Nat) (avl : Int64) (gh gv : Int32) (sv : Nat → Int32) (sr : Nat → Nat) (st : Nat) (hp : Int32) (bo : Int64) (su : Nat) (sm : Nat → Int64) (av re : Nat → Int32) (ghM gvM : Int32) :
    ∃ r ss1 sc1 avl1 gh1 gv1 sv1 sr1 st1, f_boundOf nc mt mf wt ss sc avl gh gv sv sr st hv vl = (r, ss1, sc1, avl1, gh1, gv1, sv1, sr1, st1) ∧
    ∃ hp1 bo1 su1 sm1 am rm g1 g2, m_reckon nv nc mt mf wt hp bo su sm av re ghM gvM hv vl = some (hp1, bo1, su1, sm1, am, rm, g1, g2) ∧ xBd r sc1 ss1 hp1 bo1 su1 sm1 := by
  have hc := hw.c
  unfold f_boundOf m_reckon
  dsimp only
  have hco := e_cost hw hv vl
  rcases e_brk mt mf wt hv vl nc 0 with hb | hb
  · have hb : m_breaks nc mt mf wt hv vl = 0 := hb
    rw [if_pos hb] at hco
    obtain ⟨b, hb1, eb⟩ := e_costb hw hv vl
    rw [hco, eb, hb, if_neg (fun q => lN_m2 (by omega) ((lg_cmp_eq _ _).mp q)), if_pos rfl]
    refine e_bound_L hw hv vl 40 42 0 b _ _ _ _ _ _ _ _ _ _ _ _ (by omega) (by omega) (by have := xal_le nc (m_reckon_A mt mf hv vl nc 0 av); omega) (by omega) (fun j hj => by omega) (fun k hk => ?_)
    rw [e_open mt mf hv vl hc (by omega), e_reckA, if_pos (by omega)]
    simp [hk]
  · have hb : m_breaks nc mt mf wt hv vl = 1 := hb
    have hn : ¬ m_breaks nc mt mf wt hv vl = 0 := by rw [hb]; decide
    rw [if_neg hn] at hco
    rw [hco, hb, if_pos ((lg_cmp_eq _ _).mpr rfl), if_neg (by decide), m_reckon_L, if_pos rfl]
    exact ⟨_, _, _, _, _, _, _, _, _, rfl, _, _, _, _, _, _, _, _, rfl, rfl, by omega, fun j hj => by omega, Or.inr ⟨rfl, rfl⟩⟩
