def m_costOf_L (mt mf wt : Nat → Int32) (hv vl : Int32) : Nat → Nat → Int64 → Int64
  | 0, i, acc =>
    acc
  | n + 1, i, acc =>
    if (m_isFalse mt mf i hv vl) = 0 then
      m_costOf_L mt mf wt hv vl n (i + 1) acc
    else
      m_costOf_L mt mf wt hv vl n (i + 1) (acc + ((wt i).toInt64))
def m_costOf (nc : Nat) (mt mf wt : Nat → Int32) (hv vl : Int32) : Int64 :=
  m_costOf_L mt mf wt hv vl nc 0 0
def m_breaks_L (mt mf wt : Nat → Int32) (hv vl : Int32) : Nat → Nat → Int32 → Int32
  | 0, i, acc =>
    acc
  | n + 1, i, acc =>
    if acc = 0 then
      if (wt i) = 0 then
        if (m_isFalse mt mf i hv vl) = 0 then
          m_breaks_L mt mf wt hv vl n (i + 1) 0
        else
          m_breaks_L mt mf wt hv vl n (i + 1) 1
      else
        m_breaks_L mt mf wt hv vl n (i + 1) 0
    else
      m_breaks_L mt mf wt hv vl n (i + 1) 1
def m_breaks (nc : Nat) (mt mf wt : Nat → Int32) (hv vl : Int32) : Int32 :=
  m_breaks_L mt mf wt hv vl nc 0 0
def m_broken_L (mt mf av : Nat → Int32) (gh gv : Int32) : Nat → Nat → Int32
  | 0, i =>
    (-1)
  | n + 1, i =>
    if (av i) = 0 then
      m_broken_L mt mf av gh gv n (i + 1)
    else
      if (m_isFalse mt mf i gh gv) = 0 then
        m_broken_L mt mf av gh gv n (i + 1)
      else
        (nI i)
def m_broken (nc : Nat) (mt mf av : Nat → Int32) (gh gv : Int32) : Int32 :=
  m_broken_L mt mf av gh gv nc 0
def m_single_L (mt mf av : Nat → Int32) (gh gv : Int32) : Nat → Nat → Int32
  | 0, i =>
    (-1)
  | n + 1, i =>
    if (av i) = 0 then
      m_single_L mt mf av gh gv n (i + 1)
    else
      if (m_isOpen mt mf i gh gv) = 0 then
        m_single_L mt mf av gh gv n (i + 1)
      else
        if (m_count (((mt i) ||| (mf i)) &&& (gh ^^^ (-1)))) = 1 then
          (nI i)
        else
          m_single_L mt mf av gh gv n (i + 1)
def m_single (nc : Nat) (mt mf av : Nat → Int32) (gh gv : Int32) : Int32 :=
  m_single_L mt mf av gh gv nc 0
set_option maxHeartbeats 4000000 in
set_option maxRecDepth 100000 in
theorem k_costOf (l : Launch) (dC : Nat → ClassId) (dI : Nat → Nat → Nat) (cI cL cZ : ClassId) (ad : Nat → Nat) (hinj : xI ad 12) (co : Int32) (nv : Nat) (nc : Nat) (mt : (Nat → Int32)) (mf : (Nat → Int32)) (wt : (Nat → Int32)) (hp : Int32) (bo : Int64) (su : Nat) (ss : (Nat → Int64)) (av : (Nat → Int32)) (re : (Nat → Int32)) (gh : Int32) (gv : Int32) (fo : Int32) (bv : Int32) (bc : Int64) (nd : Int32) (lo : Nat) (lh : (Nat → Int32)) (lw : (Nat → Int32)) (lb : (Nat → Int64)) (wa : Nat) (wh : (Nat → Int32)) (wv : (Nat → Int32)) (hnc : nc ≤ 40) (hnv : nv ≤ 10) (hv vl : Int32) : Met l yX4_costOf wsX4_costOf ({ frames := 2, cells := 0, slots := 0, locals := 46 }) (va_Pc [.ref (ad 0), .int hv, .int vl] (fun U => va_P (dC, dI) vwCl [(ad 0, .inr (4, [.int co, .int (nI nv), .int (nI nc), .ref (ad 1), .ref (ad 2), .ref (ad 3), .int hp, .long bo, .int (nI su), .ref (ad 4), .ref (ad 5), .ref (ad 6), .int gh, .int gv, .int fo, .int bv, .long bc, .int nd, .int (nI lo), .ref (ad 7), .ref (ad 8), .ref (ad 9), .int (nI wa), .ref (ad 10), .ref (ad 11)])), (ad 1, .inl (cI, 40, .inl mt)), (ad 2, .inl (cI, 40, .inl mf)), (ad 3, .inl (cI, 40, .inl wt)), (ad 4, .inl (cL, 40, .inr (.inl ss))), (ad 5, .inl (cZ, 40, .inl av)), (ad 6, .inl (cI, 10, .inl re)), (ad 7, .inl (cI, 1024, .inl lh)), (ad 8, .inl (cI, 1024, .inl lw)), (ad 9, .inl (cL, 1024, .inr (.inl lb))), (ad 10, .inl (cI, 24, .inl wh)), (ad 11, .inl (cI, 24, .inl wv))] U.heap ∧ va_K (dC, dI) vwCl [(cI, .int), (cL, .long), (cZ, .boolean)] U)) (va_Ql (fun r (_ : Unit) => m_costOf nc mt mf wt hv vl = r) (fun _ _ => True) xN) 0 0 xN := by
  refine Met.ofW (cc := cX4_costOf) (maxL := 6) (ret := (some .long)) (by decide) rfl ?_
  intro p e s m args below meth c s₁ B hml hvv
  obtain ⟨rfl, hP0, hK⟩ := hvv
  have hx := B.exec
  have hb := B.bytes
  have hr := B.returns
  have hts := atoms_spec (ws := wsX4_costOf) B.pre
  have hown : s.vm.findClass RX4 = some m.cls := findClass_of_methodNamed B.named
  have hlocks := B.notSynchronized
  have hw0 : (.fieldLink RX4 75 "WeightedClausesModel" "clauses" "I" : Cond).before _ s = true := hts _ (List.mem_cons_of_mem _ wd_532)
  have hw1 : (.fieldLink RX4 16 "WeightedClausesModel" "weights" "[I" : Cond).before _ s = true := hts _ (List.mem_cons_of_mem _ wd_535)
  have hPr : va_P (dC, dI) vwCl [(ad 0, .inr (4, [.int co, .int (nI nv), .int (nI nc), .ref (ad 1), .ref (ad 2), .ref (ad 3), .int hp, .long bo, .int (nI su), .ref (ad 4), .ref (ad 5), .ref (ad 6), .int gh, .int gv, .int fo, .int bv, .long bc, .int nd, .int (nI lo), .ref (ad 7), .ref (ad 8), .ref (ad 9), .int (nI wa), .ref (ad 10), .ref (ad 11)])), (ad 1, .inl (cI, 40, .inl mt)), (ad 2, .inl (cI, 40, .inl mf)), (ad 3, .inl (cI, 40, .inl wt)), (ad 4, .inl (cL, 40, .inr (.inl ss))), (ad 5, .inl (cZ, 40, .inl av)), (ad 6, .inl (cI, 10, .inl re)), (ad 7, .inl (cI, 1024, .inl lh)), (ad 8, .inl (cI, 1024, .inl lw)), (ad 9, .inl (cL, 1024, .inr (.inl lb))), (ad 10, .inl (cI, 24, .inl wh)), (ad 11, .inl (cI, 24, .inl wv))] s.heap := hP0.sub [0, 1, 2, 3, 4, 5, 6, 7, 8, 9, 10, 11] rfl
  have hS : va_S xN s.heap s.heap [] := va_S.rf
  have hl := lv_entry [.ref (ad 0), .int hv, .int vl] (n := 6) (Nat.le_of_ble_eq_true rfl)
  rw [lg_entry_eq]
  generalize (lg_sl [.ref (ad 0), .int hv, .int vl] ++ List.replicate (6 - (lg_sl [.ref (ad 0), .int hv, .int vl]).length) Slot.unset).toArray = ls at hl ⊢
  have hl : lv_has ls 6 [(0, .ref (ad 0)), (1, .int hv), (2, .int vl)] := hl
  have hF := Eq.refl (m_costOf nc mt mf wt hv vl)
  conv at hF => rhs; unfold m_costOf
  refine lv_lconst (v := 0) hx hb dX4_costOf_0 (by decide) ?_
  refine lv_lstore_n (lv' := [(3, .long 0), (0, .ref (ad 0)), (1, .int hv), (2, .int vl)]) hx hb dX4_costOf_1 rfl hl (by decide) rfl (fun ls hl => ?_)
  refine lv_iconst (v := 0) hx hb dX4_costOf_2 (by decide) ?_
  refine lv_istore (lv' := [(5, .int 0), (3, .long 0), (0, .ref (ad 0)), (1, .int hv), (2, .int vl)]) hx hb dX4_costOf_3 hl (by decide) rfl (fun ls hl => ?_)
  have lp5 : ∀ (n : Nat) (i : Nat) (acc : Int64) (H : Heap) (locs : List Loc) (ls : Array Slot), m_costOf nc mt mf wt hv vl = m_costOf_L mt mf wt hv vl n i acc → i + n = nc → va_S xN s.heap H locs → lv_has ls 6 [(0, .ref (ad 0)), (1, .int hv), (2, .int vl), (3, .long acc), (5, .int (nI i))] → W p l e (headSpec wsX4_costOf ({ frames := 2, cells := 0, slots := 0, locals := 46 })).room s m [.ref (ad 0), .int hv, .int vl].toArray below meth c H locs 0 0 (MQ below (va_Ql (fun r (_ : Unit) => m_costOf nc mt mf wt hv vl = r) (fun _ _ => True) xN) [.ref (ad 0), .int hv, .int vl].toArray s 0 0 xN) (F0 m 5 ls []) := by
    intro n
    induction n with
    | zero =>
      intro i acc H locs ls hF hil hS hl
      rw [m_costOf_L] at hF
      refine lv_iload hx hb dX4_costOf_5 (lv_at hl 4 rfl) ?_
      refine lv_aload_n hx hb dX4_costOf_7 rfl (lv_at hl 0 rfl) ?_
      have hR := xP0 hPr xnN hS
      refine va_get (D := (dC, dI)) (ci := 4) (v := .int (nI nc)) (C := RX4) (T := TX4) (N := 25) hx hb hts (xcons inX4) hown hK hR 0 rfl rfl 2 (by decide) hw0 (fun _ h9 => h9) rfl dX4_costOf_8 ?_
      refine lv_icmp_ge (tgt := 42) hx hb dX4_costOf_11 (by decide) (fun h1 => ?_) (fun h1 => absurd (nI_le (by omega) (by omega)) h1)
      refine lv_lload_n hx hb dX4_costOf_42 rfl (lv_at hl 3 rfl) ?_
      exact W.lret (v := acc) hx hb hr (fun t ht hW => ⟨⟨_, (), rfl, hF, trivial⟩, hS.F ht⟩) hS.2.2 dX4_costOf_43
    | succ n ih =>
      intro i acc H locs ls hF hil hS hl
      rw [m_costOf_L] at hF
      refine lv_iload hx hb dX4_costOf_5 (lv_at hl 4 rfl) ?_
      refine lv_aload_n hx hb dX4_costOf_7 rfl (lv_at hl 0 rfl) ?_
      have hR := xP0 hPr xnN hS
      refine va_get (D := (dC, dI)) (ci := 4) (v := .int (nI nc)) (C := RX4) (T := TX4) (N := 25) hx hb hts (xcons inX4) hown hK hR 0 rfl rfl 2 (by decide) hw0 (fun _ h9 => h9) rfl dX4_costOf_8 ?_
      refine lv_icmp_ge (tgt := 42) hx hb dX4_costOf_11 (by decide) (fun h2 => absurd h2 (nI_ge (by omega) (by omega))) (fun h2 => ?_)
      refine lv_aload_n hx hb dX4_costOf_14 rfl (lv_at hl 0 rfl) ?_
      refine lv_iload hx hb dX4_costOf_15 (lv_at hl 4 rfl) ?_
      refine lv_iload_n hx hb dX4_costOf_17 rfl (lv_at hl 1 rfl) ?_
      refine lv_iload_n hx hb dX4_costOf_18 rfl (lv_at hl 2 rfl) ?_
      refine xro_i (va_runV (As := [.int (nI i), .int hv, .int vl]) (rest := []) ⟨hx, hb, hml, hown, hts⟩ (k_isFalse l dC dI cI cL cZ ad hinj co nv nc mt mf wt hp bo su ss av re gh gv fo bv bc nd lo lh lw lb wa wh wv i (by omega) hv vl) (xcwV 3 hts wd_661 wd_39 wd_658 wd_660 wd_21 rfl rfl (by decide +kernel) ⟨Nat.le_of_ble_eq_true rfl, Nat.le_of_ble_eq_true rfl⟩) (xpreV (va_recv hK hR rfl (q0 := 0) rfl) hR hK) rfl rfl hl.1 rfl (lv_room (Nat.le_of_ble_eq_true rfl)) dX4_costOf_19 ⟨Nat.le_of_ble_eq_true rfl, Nat.le_of_ble_eq_true rfl⟩) hS (fun H locs hk hS => ?_)
      refine lv_if_eq (tgt := 36) hx hb dX4_costOf_22 (by decide) (fun h3 => ?_) (fun h3 => ?_)
      · have hF := hF.trans (if_pos h3)
        refine lv_iinc (k := 4) (v := (nI (i + 1))) (lv' := [(5, .int (nI (i + 1))), (0, .ref (ad 0)), (1, .int hv), (2, .int vl), (3, .long acc)]) hx hb dX4_costOf_36 hl rfl (xinc _) (by decide) rfl (fun ls hl => ?_)
        refine lv_goto (tgt := 5) hx hb dX4_costOf_39 (by decide) ?_
        exact ih (i + 1) acc _ _ _ hF (by omega) hS (lv_sub hl [1, 2, 3, 4, 0] rfl)
      · have hF := hF.trans (if_neg h3)
        refine lv_lload_n hx hb dX4_costOf_25 rfl (lv_at hl 3 rfl) ?_
        refine lv_aload_n hx hb dX4_costOf_26 rfl (lv_at hl 0 rfl) ?_
        have hR := xP0 hPr xnN hS
        refine va_get (D := (dC, dI)) (ci := 4) (v := .ref (ad 3)) (C := RX4) (T := TX4) (N := 25) hx hb hts (xcons inX4) hown hK hR 0 rfl rfl 5 (by decide) hw1 (fun _ h9 => h9) rfl dX4_costOf_27 ?_
        refine lv_iload hx hb dX4_costOf_30 (lv_at hl 4 rfl) ?_
        refine xr_iald hx hb hK hR 3 0 rfl rfl i (by omega) (by omega) dX4_costOf_32 ?_
        refine lv_i2l (v := (wt i).toInt64) hx hb dX4_costOf_33 rfl ?_
        refine lv_ladd hx hb dX4_costOf_34 ?_
        refine lv_lstore_n (lv' := [(3, .long (acc + ((wt i).toInt64))), (0, .ref (ad 0)), (1, .int hv), (2, .int vl), (5, .int (nI i))]) hx hb dX4_costOf_35 rfl hl (by decide) rfl (fun ls hl => ?_)
        refine lv_iinc (k := 4) (v := (nI (i + 1))) (lv' := [(5, .int (nI (i + 1))), (3, .long (acc + ((wt i).toInt64))), (0, .ref (ad 0)), (1, .int hv), (2, .int vl)]) hx hb dX4_costOf_36 hl rfl (xinc _) (by decide) rfl (fun ls hl => ?_)
        refine lv_goto (tgt := 5) hx hb dX4_costOf_39 (by decide) ?_
        exact ih (i + 1) (acc + ((wt i).toInt64)) _ _ _ hF (by omega) hS (lv_sub hl [2, 3, 4, 1, 0] rfl)
  exact lp5 nc 0 0 _ _ _ hF (by omega) hS (lv_sub hl [2, 3, 4, 1, 0] rfl)
set_option maxHeartbeats 4000000 in
set_option maxRecDepth 100000 in
theorem k_breaks (l : Launch) (dC : Nat → ClassId) (dI : Nat → Nat → Nat) (cI cL cZ : ClassId) (ad : Nat → Nat) (hinj : xI ad 12) (co : Int32) (nv : Nat) (nc : Nat) (mt : (Nat → Int32)) (mf : (Nat → Int32)) (wt : (Nat → Int32)) (hp : Int32) (bo : Int64) (su : Nat) (ss : (Nat → Int64)) (av : (Nat → Int32)) (re : (Nat → Int32)) (gh : Int32) (gv : Int32) (fo : Int32) (bv : Int32) (bc : Int64) (nd : Int32) (lo : Nat) (lh : (Nat → Int32)) (lw : (Nat → Int32)) (lb : (Nat → Int64)) (wa : Nat) (wh : (Nat → Int32)) (wv : (Nat → Int32)) (hnc : nc ≤ 40) (hnv : nv ≤ 10) (hv vl : Int32) : Met l yX4_breaks wsX4_breaks ({ frames := 2, cells := 0, slots := 0, locals := 46 }) (va_Pc [.ref (ad 0), .int hv, .int vl] (fun U => va_P (dC, dI) vwCl [(ad 0, .inr (4, [.int co, .int (nI nv), .int (nI nc), .ref (ad 1), .ref (ad 2), .ref (ad 3), .int hp, .long bo, .int (nI su), .ref (ad 4), .ref (ad 5), .ref (ad 6), .int gh, .int gv, .int fo, .int bv, .long bc, .int nd, .int (nI lo), .ref (ad 7), .ref (ad 8), .ref (ad 9), .int (nI wa), .ref (ad 10), .ref (ad 11)])), (ad 1, .inl (cI, 40, .inl mt)), (ad 2, .inl (cI, 40, .inl mf)), (ad 3, .inl (cI, 40, .inl wt)), (ad 4, .inl (cL, 40, .inr (.inl ss))), (ad 5, .inl (cZ, 40, .inl av)), (ad 6, .inl (cI, 10, .inl re)), (ad 7, .inl (cI, 1024, .inl lh)), (ad 8, .inl (cI, 1024, .inl lw)), (ad 9, .inl (cL, 1024, .inr (.inl lb))), (ad 10, .inl (cI, 24, .inl wh)), (ad 11, .inl (cI, 24, .inl wv))] U.heap ∧ va_K (dC, dI) vwCl [(cI, .int), (cL, .long), (cZ, .boolean)] U)) (va_Qi (fun r (_ : Unit) => m_breaks nc mt mf wt hv vl = r) (fun _ _ => True) xN) 0 0 xN := by
  refine Met.ofW (cc := cX4_breaks) (maxL := 5) (ret := (some .boolean)) (by decide) rfl ?_
  intro p e s m args below meth c s₁ B hml hvv
  obtain ⟨rfl, hP0, hK⟩ := hvv
  have hx := B.exec
  have hb := B.bytes
  have hr := B.returns
  have hts := atoms_spec (ws := wsX4_breaks) B.pre
  have hown : s.vm.findClass RX4 = some m.cls := findClass_of_methodNamed B.named
  have hlocks := B.notSynchronized
  have hw0 : (.fieldLink RX4 75 "WeightedClausesModel" "clauses" "I" : Cond).before _ s = true := hts _ (List.mem_cons_of_mem _ wd_532)
  have hw1 : (.fieldLink RX4 16 "WeightedClausesModel" "weights" "[I" : Cond).before _ s = true := hts _ (List.mem_cons_of_mem _ wd_535)
  have hPr : va_P (dC, dI) vwCl [(ad 0, .inr (4, [.int co, .int (nI nv), .int (nI nc), .ref (ad 1), .ref (ad 2), .ref (ad 3), .int hp, .long bo, .int (nI su), .ref (ad 4), .ref (ad 5), .ref (ad 6), .int gh, .int gv, .int fo, .int bv, .long bc, .int nd, .int (nI lo), .ref (ad 7), .ref (ad 8), .ref (ad 9), .int (nI wa), .ref (ad 10), .ref (ad 11)])), (ad 1, .inl (cI, 40, .inl mt)), (ad 2, .inl (cI, 40, .inl mf)), (ad 3, .inl (cI, 40, .inl wt)), (ad 4, .inl (cL, 40, .inr (.inl ss))), (ad 5, .inl (cZ, 40, .inl av)), (ad 6, .inl (cI, 10, .inl re)), (ad 7, .inl (cI, 1024, .inl lh)), (ad 8, .inl (cI, 1024, .inl lw)), (ad 9, .inl (cL, 1024, .inr (.inl lb))), (ad 10, .inl (cI, 24, .inl wh)), (ad 11, .inl (cI, 24, .inl wv))] s.heap := hP0.sub [0, 1, 2, 3, 4, 5, 6, 7, 8, 9, 10, 11] rfl
  have hS : va_S xN s.heap s.heap [] := va_S.rf
  have hl := lv_entry [.ref (ad 0), .int hv, .int vl] (n := 5) (Nat.le_of_ble_eq_true rfl)
  rw [lg_entry_eq]
  generalize (lg_sl [.ref (ad 0), .int hv, .int vl] ++ List.replicate (5 - (lg_sl [.ref (ad 0), .int hv, .int vl]).length) Slot.unset).toArray = ls at hl ⊢
  have hl : lv_has ls 5 [(0, .ref (ad 0)), (1, .int hv), (2, .int vl)] := hl
  have hF := Eq.refl (m_breaks nc mt mf wt hv vl)
  conv at hF => rhs; unfold m_breaks
  refine lv_iconst (v := 0) hx hb dX4_breaks_0 (by decide) ?_
  refine lv_istore_n (lv' := [(3, .int 0), (0, .ref (ad 0)), (1, .int hv), (2, .int vl)]) hx hb dX4_breaks_1 rfl hl (by decide) rfl (fun ls hl => ?_)
  refine lv_iconst (v := 0) hx hb dX4_breaks_2 (by decide) ?_
  refine lv_istore (lv' := [(4, .int 0), (3, .int 0), (0, .ref (ad 0)), (1, .int hv), (2, .int vl)]) hx hb dX4_breaks_3 hl (by decide) rfl (fun ls hl => ?_)
  have lp5 : ∀ (n : Nat) (i : Nat) (acc : Int32) (H : Heap) (locs : List Loc) (ls : Array Slot), m_breaks nc mt mf wt hv vl = m_breaks_L mt mf wt hv vl n i acc → i + n = nc → (acc = 0 ∨ acc = 1) → va_S xN s.heap H locs → lv_has ls 5 [(0, .ref (ad 0)), (1, .int hv), (2, .int vl), (3, .int acc), (4, .int (nI i))] → W p l e (headSpec wsX4_breaks ({ frames := 2, cells := 0, slots := 0, locals := 46 })).room s m [.ref (ad 0), .int hv, .int vl].toArray below meth c H locs 0 0 (MQ below (va_Qi (fun r (_ : Unit) => m_breaks nc mt mf wt hv vl = r) (fun _ _ => True) xN) [.ref (ad 0), .int hv, .int vl].toArray s 0 0 xN) (F0 m 5 ls []) := by
    intro n
    induction n with
    | zero =>
      intro i acc H locs ls hF hil hb9 hS hl
      rw [m_breaks_L] at hF
      refine lv_iload hx hb dX4_breaks_5 (lv_at hl 4 rfl) ?_
      refine lv_aload_n hx hb dX4_breaks_7 rfl (lv_at hl 0 rfl) ?_
      have hR := xP0 hPr xnN hS
      refine va_get (D := (dC, dI)) (ci := 4) (v := .int (nI nc)) (C := RX4) (T := TX4) (N := 25) hx hb hts (xcons inX4) hown hK hR 0 rfl rfl 2 (by decide) hw0 (fun _ h9 => h9) rfl dX4_breaks_8 ?_
      refine lv_icmp_ge (tgt := 51) hx hb dX4_breaks_11 (by decide) (fun h1 => ?_) (fun h1 => absurd (nI_le (by omega) (by omega)) h1)
      refine lv_iload_n hx hb dX4_breaks_51 rfl (lv_at hl 3 rfl) ?_
      exact W.zret (v := acc) hx hb hr (xbool hb9).1 (fun t ht hW => ⟨⟨_, (), rfl, hF, trivial⟩, hS.F ht⟩) hS.2.2 dX4_breaks_52
    | succ n ih =>
      intro i acc H locs ls hF hil hb9 hS hl
      rw [m_breaks_L] at hF
      refine lv_iload hx hb dX4_breaks_5 (lv_at hl 4 rfl) ?_
      refine lv_aload_n hx hb dX4_breaks_7 rfl (lv_at hl 0 rfl) ?_
      have hR := xP0 hPr xnN hS
      refine va_get (D := (dC, dI)) (ci := 4) (v := .int (nI nc)) (C := RX4) (T := TX4) (N := 25) hx hb hts (xcons inX4) hown hK hR 0 rfl rfl 2 (by decide) hw0 (fun _ h9 => h9) rfl dX4_breaks_8 ?_
      refine lv_icmp_ge (tgt := 51) hx hb dX4_breaks_11 (by decide) (fun h2 => absurd h2 (nI_ge (by omega) (by omega))) (fun h2 => ?_)
      refine lv_iload_n hx hb dX4_breaks_14 rfl (lv_at hl 3 rfl) ?_
      refine lv_if_ne (tgt := 39) hx hb dX4_breaks_15 (by decide) (fun h3 => ?_) (fun h3 => ?_)
      · have hF := hF.trans (if_neg h3)
        refine lv_iconst (v := 1) hx hb dX4_breaks_39 (by decide) ?_
        refine lv_goto (tgt := 44) hx hb dX4_breaks_40 (by decide) ?_
        refine lv_istore_n (lv' := [(3, .int 1), (0, .ref (ad 0)), (1, .int hv), (2, .int vl), (4, .int (nI i))]) hx hb dX4_breaks_44 rfl hl (by decide) rfl (fun ls hl => ?_)
        refine lv_iinc (k := 4) (v := (nI (i + 1))) (lv' := [(4, .int (nI (i + 1))), (3, .int 1), (0, .ref (ad 0)), (1, .int hv), (2, .int vl)]) hx hb dX4_breaks_45 hl rfl (xinc _) (by decide) rfl (fun ls hl => ?_)
        refine lv_goto (tgt := 5) hx hb dX4_breaks_48 (by decide) ?_
        exact ih (i + 1) 1 _ _ _ hF (by omega) (Or.inr rfl) hS (lv_sub hl [2, 3, 4, 1, 0] rfl)
      · have hF := hF.trans (if_pos h3)
        refine lv_aload_n hx hb dX4_breaks_18 rfl (lv_at hl 0 rfl) ?_
        refine va_get (D := (dC, dI)) (ci := 4) (v := .ref (ad 3)) (C := RX4) (T := TX4) (N := 25) hx hb hts (xcons inX4) hown hK hR 0 rfl rfl 5 (by decide) hw1 (fun _ h9 => h9) rfl dX4_breaks_19 ?_
        refine lv_iload hx hb dX4_breaks_22 (lv_at hl 4 rfl) ?_
        refine xr_iald hx hb hK hR 3 0 rfl rfl i (by omega) (by omega) dX4_breaks_24 ?_
        refine lv_if_ne (tgt := 43) hx hb dX4_breaks_25 (by decide) (fun h4 => ?_) (fun h4 => ?_)
        · have hF := hF.trans (if_neg h4)
          refine lv_iconst (v := 0) hx hb dX4_breaks_43 (by decide) ?_
          refine lv_istore_n (lv' := [(3, .int 0), (0, .ref (ad 0)), (1, .int hv), (2, .int vl), (4, .int (nI i))]) hx hb dX4_breaks_44 rfl hl (by decide) rfl (fun ls hl => ?_)
          refine lv_iinc (k := 4) (v := (nI (i + 1))) (lv' := [(4, .int (nI (i + 1))), (3, .int 0), (0, .ref (ad 0)), (1, .int hv), (2, .int vl)]) hx hb dX4_breaks_45 hl rfl (xinc _) (by decide) rfl (fun ls hl => ?_)
          refine lv_goto (tgt := 5) hx hb dX4_breaks_48 (by decide) ?_
          exact ih (i + 1) 0 _ _ _ hF (by omega) (Or.inl rfl) hS (lv_sub hl [2, 3, 4, 1, 0] rfl)
        · have hF := hF.trans (if_pos h4)
          refine lv_aload_n hx hb dX4_breaks_28 rfl (lv_at hl 0 rfl) ?_
          refine lv_iload hx hb dX4_breaks_29 (lv_at hl 4 rfl) ?_
          refine lv_iload_n hx hb dX4_breaks_31 rfl (lv_at hl 1 rfl) ?_
          refine lv_iload_n hx hb dX4_breaks_32 rfl (lv_at hl 2 rfl) ?_
          refine xro_i (va_runV (As := [.int (nI i), .int hv, .int vl]) (rest := []) ⟨hx, hb, hml, hown, hts⟩ (k_isFalse l dC dI cI cL cZ ad hinj co nv nc mt mf wt hp bo su ss av re gh gv fo bv bc nd lo lh lw lb wa wh wv i (by omega) hv vl) (xcwV 3 hts wd_661 wd_39 wd_658 wd_660 wd_21 rfl rfl (by decide +kernel) ⟨Nat.le_of_ble_eq_true rfl, Nat.le_of_ble_eq_true rfl⟩) (xpreV (va_recv hK hR rfl (q0 := 0) rfl) hR hK) rfl rfl hl.1 rfl (lv_room (Nat.le_of_ble_eq_true rfl)) dX4_breaks_33 ⟨Nat.le_of_ble_eq_true rfl, Nat.le_of_ble_eq_true rfl⟩) hS (fun H locs hk hS => ?_)
          refine lv_if_eq (tgt := 43) hx hb dX4_breaks_36 (by decide) (fun h5 => ?_) (fun h5 => ?_)
          · have hF := hF.trans (if_pos h5)
            refine lv_iconst (v := 0) hx hb dX4_breaks_43 (by decide) ?_
            refine lv_istore_n (lv' := [(3, .int 0), (0, .ref (ad 0)), (1, .int hv), (2, .int vl), (4, .int (nI i))]) hx hb dX4_breaks_44 rfl hl (by decide) rfl (fun ls hl => ?_)
            refine lv_iinc (k := 4) (v := (nI (i + 1))) (lv' := [(4, .int (nI (i + 1))), (3, .int 0), (0, .ref (ad 0)), (1, .int hv), (2, .int vl)]) hx hb dX4_breaks_45 hl rfl (xinc _) (by decide) rfl (fun ls hl => ?_)
            refine lv_goto (tgt := 5) hx hb dX4_breaks_48 (by decide) ?_
            exact ih (i + 1) 0 _ _ _ hF (by omega) (Or.inl rfl) hS (lv_sub hl [2, 3, 4, 1, 0] rfl)
          · have hF := hF.trans (if_neg h5)
            refine lv_iconst (v := 1) hx hb dX4_breaks_39 (by decide) ?_
            refine lv_goto (tgt := 44) hx hb dX4_breaks_40 (by decide) ?_
            refine lv_istore_n (lv' := [(3, .int 1), (0, .ref (ad 0)), (1, .int hv), (2, .int vl), (4, .int (nI i))]) hx hb dX4_breaks_44 rfl hl (by decide) rfl (fun ls hl => ?_)
            refine lv_iinc (k := 4) (v := (nI (i + 1))) (lv' := [(4, .int (nI (i + 1))), (3, .int 1), (0, .ref (ad 0)), (1, .int hv), (2, .int vl)]) hx hb dX4_breaks_45 hl rfl (xinc _) (by decide) rfl (fun ls hl => ?_)
            refine lv_goto (tgt := 5) hx hb dX4_breaks_48 (by decide) ?_
            exact ih (i + 1) 1 _ _ _ hF (by omega) (Or.inr rfl) hS (lv_sub hl [2, 3, 4, 1, 0] rfl)
  exact lp5 nc 0 0 _ _ _ hF (by omega) (Or.inl rfl) hS (lv_sub hl [2, 3, 4, 1, 0] rfl)
set_option maxHeartbeats 4000000 in
set_option maxRecDepth 100000 in
theorem k_broken (l : Launch) (dC : Nat → ClassId) (dI : Nat → Nat → Nat) (cI cL cZ : ClassId) (ad : Nat → Nat) (hinj : xI ad 12) (co : Int32) (nv : Nat) (nc : Nat) (mt : (Nat → Int32)) (mf : (Nat → Int32)) (wt : (Nat → Int32)) (hp : Int32) (bo : Int64) (su : Nat) (ss : (Nat → Int64)) (av : (Nat → Int32)) (re : (Nat → Int32)) (gh : Int32) (gv : Int32) (fo : Int32) (bv : Int32) (bc : Int64) (nd : Int32) (lo : Nat) (lh : (Nat → Int32)) (lw : (Nat → Int32)) (lb : (Nat → Int64)) (wa : Nat) (wh : (Nat → Int32)) (wv : (Nat → Int32)) (hnc : nc ≤ 40) (hnv : nv ≤ 10) : Met l yX4_broken wsX4_broken ({ frames := 2, cells := 0, slots := 0, locals := 46 }) (va_Pc [.ref (ad 0)] (fun U => va_P (dC, dI) vwCl [(ad 0, .inr (4, [.int co, .int (nI nv), .int (nI nc), .ref (ad 1), .ref (ad 2), .ref (ad 3), .int hp, .long bo, .int (nI su), .ref (ad 4), .ref (ad 5), .ref (ad 6), .int gh, .int gv, .int fo, .int bv, .long bc, .int nd, .int (nI lo), .ref (ad 7), .ref (ad 8), .ref (ad 9), .int (nI wa), .ref (ad 10), .ref (ad 11)])), (ad 1, .inl (cI, 40, .inl mt)), (ad 2, .inl (cI, 40, .inl mf)), (ad 3, .inl (cI, 40, .inl wt)), (ad 4, .inl (cL, 40, .inr (.inl ss))), (ad 5, .inl (cZ, 40, .inl av)), (ad 6, .inl (cI, 10, .inl re)), (ad 7, .inl (cI, 1024, .inl lh)), (ad 8, .inl (cI, 1024, .inl lw)), (ad 9, .inl (cL, 1024, .inr (.inl lb))), (ad 10, .inl (cI, 24, .inl wh)), (ad 11, .inl (cI, 24, .inl wv))] U.heap ∧ va_K (dC, dI) vwCl [(cI, .int), (cL, .long), (cZ, .boolean)] U)) (va_Qi (fun r (_ : Unit) => m_broken nc mt mf av gh gv = r) (fun _ _ => True) xN) 0 0 xN := by
  refine Met.ofW (cc := cX4_broken) (maxL := 2) (ret := (some .int)) (by decide) rfl ?_
  intro p e s m args below meth c s₁ B hml hvv
  obtain ⟨rfl, hP0, hK⟩ := hvv
  have hx := B.exec
  have hb := B.bytes
  have hr := B.returns
  have hts := atoms_spec (ws := wsX4_broken) B.pre
  have hown : s.vm.findClass RX4 = some m.cls := findClass_of_methodNamed B.named
  have hlocks := B.notSynchronized
  have hw0 : (.fieldLink RX4 75 "WeightedClausesModel" "clauses" "I" : Cond).before _ s = true := hts _ (List.mem_cons_of_mem _ wd_532)
  have hw1 : (.fieldLink RX4 23 "WeightedClausesModel" "available" "[Z" : Cond).before _ s = true := hts _ (List.mem_cons_of_mem _ wd_540)
  have hw2 : (.fieldLink RX4 101 "WeightedClausesModel" "grownHave" "I" : Cond).before _ s = true := hts _ (List.mem_cons_of_mem _ wd_542)
  have hw3 : (.fieldLink RX4 104 "WeightedClausesModel" "grownValues" "I" : Cond).before _ s = true := hts _ (List.mem_cons_of_mem _ wd_543)
  have hPr : va_P (dC, dI) vwCl [(ad 0, .inr (4, [.int co, .int (nI nv), .int (nI nc), .ref (ad 1), .ref (ad 2), .ref (ad 3), .int hp, .long bo, .int (nI su), .ref (ad 4), .ref (ad 5), .ref (ad 6), .int gh, .int gv, .int fo, .int bv, .long bc, .int nd, .int (nI lo), .ref (ad 7), .ref (ad 8), .ref (ad 9), .int (nI wa), .ref (ad 10), .ref (ad 11)])), (ad 1, .inl (cI, 40, .inl mt)), (ad 2, .inl (cI, 40, .inl mf)), (ad 3, .inl (cI, 40, .inl wt)), (ad 4, .inl (cL, 40, .inr (.inl ss))), (ad 5, .inl (cZ, 40, .inl av)), (ad 6, .inl (cI, 10, .inl re)), (ad 7, .inl (cI, 1024, .inl lh)), (ad 8, .inl (cI, 1024, .inl lw)), (ad 9, .inl (cL, 1024, .inr (.inl lb))), (ad 10, .inl (cI, 24, .inl wh)), (ad 11, .inl (cI, 24, .inl wv))] s.heap := hP0.sub [0, 1, 2, 3, 4, 5, 6, 7, 8, 9, 10, 11] rfl
  have hS : va_S xN s.heap s.heap [] := va_S.rf
  have hl := lv_entry [.ref (ad 0)] (n := 2) (Nat.le_of_ble_eq_true rfl)
  rw [lg_entry_eq]
  generalize (lg_sl [.ref (ad 0)] ++ List.replicate (2 - (lg_sl [.ref (ad 0)]).length) Slot.unset).toArray = ls at hl ⊢
  have hl : lv_has ls 2 [(0, .ref (ad 0))] := hl
  have hF := Eq.refl (m_broken nc mt mf av gh gv)
  conv at hF => rhs; unfold m_broken
  refine lv_iconst (v := 0) hx hb dX4_broken_0 (by decide) ?_
  refine lv_istore_n (lv' := [(1, .int 0), (0, .ref (ad 0))]) hx hb dX4_broken_1 rfl hl (by decide) rfl (fun ls hl => ?_)
  have lp2 : ∀ (n : Nat) (i : Nat) (H : Heap) (locs : List Loc) (ls : Array Slot), m_broken nc mt mf av gh gv = m_broken_L mt mf av gh gv n i → i + n = nc → va_S xN s.heap H locs → lv_has ls 2 [(0, .ref (ad 0)), (1, .int (nI i))] → W p l e (headSpec wsX4_broken ({ frames := 2, cells := 0, slots := 0, locals := 46 })).room s m [.ref (ad 0)].toArray below meth c H locs 0 0 (MQ below (va_Qi (fun r (_ : Unit) => m_broken nc mt mf av gh gv = r) (fun _ _ => True) xN) [.ref (ad 0)].toArray s 0 0 xN) (F0 m 2 ls []) := by
    intro n
    induction n with
    | zero =>
      intro i H locs ls hF hil hS hl
      rw [m_broken_L] at hF
      refine lv_iload_n hx hb dX4_broken_2 rfl (lv_at hl 1 rfl) ?_
      refine lv_aload_n hx hb dX4_broken_3 rfl (lv_at hl 0 rfl) ?_
      have hR := xP0 hPr xnN hS
      refine va_get (D := (dC, dI)) (ci := 4) (v := .int (nI nc)) (C := RX4) (T := TX4) (N := 25) hx hb hts (xcons inX4) hown hK hR 0 rfl rfl 2 (by decide) hw0 (fun _ h9 => h9) rfl dX4_broken_4 ?_
      refine lv_icmp_ge (tgt := 43) hx hb dX4_broken_7 (by decide) (fun h1 => ?_) (fun h1 => absurd (nI_le (by omega) (by omega)) h1)
      refine lv_iconst (v := (-1)) hx hb dX4_broken_43 (by decide) ?_
      exact W.iret (v := (-1)) hx hb hr (fun t ht hW => ⟨⟨_, (), rfl, hF, trivial⟩, hS.F ht⟩) hS.2.2 dX4_broken_44
    | succ n ih =>
      intro i H locs ls hF hil hS hl
      rw [m_broken_L] at hF
      refine lv_iload_n hx hb dX4_broken_2 rfl (lv_at hl 1 rfl) ?_
      refine lv_aload_n hx hb dX4_broken_3 rfl (lv_at hl 0 rfl) ?_
      have hR := xP0 hPr xnN hS
      refine va_get (D := (dC, dI)) (ci := 4) (v := .int (nI nc)) (C := RX4) (T := TX4) (N := 25) hx hb hts (xcons inX4) hown hK hR 0 rfl rfl 2 (by decide) hw0 (fun _ h9 => h9) rfl dX4_broken_4 ?_
      refine lv_icmp_ge (tgt := 43) hx hb dX4_broken_7 (by decide) (fun h2 => absurd h2 (nI_ge (by omega) (by omega))) (fun h2 => ?_)
      refine lv_aload_n hx hb dX4_broken_10 rfl (lv_at hl 0 rfl) ?_
      refine va_get (D := (dC, dI)) (ci := 4) (v := .ref (ad 5)) (C := RX4) (T := TX4) (N := 25) hx hb hts (xcons inX4) hown hK hR 0 rfl rfl 10 (by decide) hw1 (fun _ h9 => h9) rfl dX4_broken_11 ?_
      refine lv_iload_n hx hb dX4_broken_14 rfl (lv_at hl 1 rfl) ?_
      refine xr_zald hx hb hK hR 5 2 rfl rfl i (by omega) (by omega) dX4_broken_15 ?_
      refine lv_if_eq (tgt := 37) hx hb dX4_broken_16 (by decide) (fun h3 => ?_) (fun h3 => ?_)
      · have hF := hF.trans (if_pos h3)
        refine lv_iinc (k := 1) (v := (nI (i + 1))) (lv' := [(1, .int (nI (i + 1))), (0, .ref (ad 0))]) hx hb dX4_broken_37 hl rfl (xinc _) (by decide) rfl (fun ls hl => ?_)
        refine lv_goto (tgt := 2) hx hb dX4_broken_40 (by decide) ?_
        exact ih (i + 1) _ _ _ hF (by omega) hS (lv_sub hl [1, 0] rfl)
      · have hF := hF.trans (if_neg h3)
        refine lv_aload_n hx hb dX4_broken_19 rfl (lv_at hl 0 rfl) ?_
        refine lv_iload_n hx hb dX4_broken_20 rfl (lv_at hl 1 rfl) ?_
        refine lv_aload_n hx hb dX4_broken_21 rfl (lv_at hl 0 rfl) ?_
        refine va_get (D := (dC, dI)) (ci := 4) (v := .int gh) (C := RX4) (T := TX4) (N := 25) hx hb hts (xcons inX4) hown hK hR 0 rfl rfl 12 (by decide) hw2 (fun _ h9 => h9) rfl dX4_broken_22 ?_
        refine lv_aload_n hx hb dX4_broken_25 rfl (lv_at hl 0 rfl) ?_
        refine va_get (D := (dC, dI)) (ci := 4) (v := .int gv) (C := RX4) (T := TX4) (N := 25) hx hb hts (xcons inX4) hown hK hR 0 rfl rfl 13 (by decide) hw3 (fun _ h9 => h9) rfl dX4_broken_26 ?_
        refine xro_i (va_runV (As := [.int (nI i), .int gh, .int gv]) (rest := []) ⟨hx, hb, hml, hown, hts⟩ (k_isFalse l dC dI cI cL cZ ad hinj co nv nc mt mf wt hp bo su ss av re gh gv fo bv bc nd lo lh lw lb wa wh wv i (by omega) gh gv) (xcwV 3 hts wd_661 wd_39 wd_658 wd_660 wd_21 rfl rfl (by decide +kernel) ⟨Nat.le_of_ble_eq_true rfl, Nat.le_of_ble_eq_true rfl⟩) (xpreV (va_recv hK hR rfl (q0 := 0) rfl) hR hK) rfl rfl hl.1 rfl (lv_room (Nat.le_of_ble_eq_true rfl)) dX4_broken_29 ⟨Nat.le_of_ble_eq_true rfl, Nat.le_of_ble_eq_true rfl⟩) hS (fun H locs hk hS => ?_)
        refine lv_if_eq (tgt := 37) hx hb dX4_broken_32 (by decide) (fun h4 => ?_) (fun h4 => ?_)
        · have hF := hF.trans (if_pos h4)
          refine lv_iinc (k := 1) (v := (nI (i + 1))) (lv' := [(1, .int (nI (i + 1))), (0, .ref (ad 0))]) hx hb dX4_broken_37 hl rfl (xinc _) (by decide) rfl (fun ls hl => ?_)
          refine lv_goto (tgt := 2) hx hb dX4_broken_40 (by decide) ?_
          exact ih (i + 1) _ _ _ hF (by omega) hS (lv_sub hl [1, 0] rfl)
        · have hF := hF.trans (if_neg h4)
          refine lv_iload_n hx hb dX4_broken_35 rfl (lv_at hl 1 rfl) ?_
          exact W.iret (v := (nI i)) hx hb hr (fun t ht hW => ⟨⟨_, (), rfl, hF, trivial⟩, hS.F ht⟩) hS.2.2 dX4_broken_36
  exact lp2 nc 0 _ _ _ hF (by omega) hS (lv_sub hl [1, 0] rfl)
set_option maxHeartbeats 4000000 in
set_option maxRecDepth 100000 in
theorem k_single (l : Launch) (dC : Nat → ClassId) (dI : Nat → Nat → Nat) (cI cL cZ : ClassId) (ad : Nat → Nat) (hinj : xI ad 12) (co : Int32) (nv : Nat) (nc : Nat) (mt : (Nat → Int32)) (mf : (Nat → Int32)) (wt : (Nat → Int32)) (hp : Int32) (bo : Int64) (su : Nat) (ss : (Nat → Int64)) (av : (Nat → Int32)) (re : (Nat → Int32)) (gh : Int32) (gv : Int32) (fo : Int32) (bv : Int32) (bc : Int64) (nd : Int32) (lo : Nat) (lh : (Nat → Int32)) (lw : (Nat → Int32)) (lb : (Nat → Int64)) (wa : Nat) (wh : (Nat → Int32)) (wv : (Nat → Int32)) (hnc : nc ≤ 40) (hnv : nv ≤ 10) : Met l yX4_single wsX4_single ({ frames := 2, cells := 0, slots := 0, locals := 46 }) (va_Pc [.ref (ad 0)] (fun U => va_P (dC, dI) vwCl [(ad 0, .inr (4, [.int co, .int (nI nv), .int (nI nc), .ref (ad 1), .ref (ad 2), .ref (ad 3), .int hp, .long bo, .int (nI su), .ref (ad 4), .ref (ad 5), .ref (ad 6), .int gh, .int gv, .int fo, .int bv, .long bc, .int nd, .int (nI lo), .ref (ad 7), .ref (ad 8), .ref (ad 9), .int (nI wa), .ref (ad 10), .ref (ad 11)])), (ad 1, .inl (cI, 40, .inl mt)), (ad 2, .inl (cI, 40, .inl mf)), (ad 3, .inl (cI, 40, .inl wt)), (ad 4, .inl (cL, 40, .inr (.inl ss))), (ad 5, .inl (cZ, 40, .inl av)), (ad 6, .inl (cI, 10, .inl re)), (ad 7, .inl (cI, 1024, .inl lh)), (ad 8, .inl (cI, 1024, .inl lw)), (ad 9, .inl (cL, 1024, .inr (.inl lb))), (ad 10, .inl (cI, 24, .inl wh)), (ad 11, .inl (cI, 24, .inl wv))] U.heap ∧ va_K (dC, dI) vwCl [(cI, .int), (cL, .long), (cZ, .boolean)] U)) (va_Qi (fun r (_ : Unit) => m_single nc mt mf av gh gv = r) (fun _ _ => True) xN) 0 0 xN := by
  refine Met.ofW (cc := cX4_single) (maxL := 2) (ret := (some .int)) (by decide) rfl ?_
  intro p e s m args below meth c s₁ B hml hvv
  obtain ⟨rfl, hP0, hK⟩ := hvv
  have hx := B.exec
  have hb := B.bytes
  have hr := B.returns
  have hts := atoms_spec (ws := wsX4_single) B.pre
  have hown : s.vm.findClass RX4 = some m.cls := findClass_of_methodNamed B.named
  have hlocks := B.notSynchronized
  have hw0 : (.fieldLink RX4 75 "WeightedClausesModel" "clauses" "I" : Cond).before _ s = true := hts _ (List.mem_cons_of_mem _ wd_532)
  have hw1 : (.fieldLink RX4 23 "WeightedClausesModel" "available" "[Z" : Cond).before _ s = true := hts _ (List.mem_cons_of_mem _ wd_540)
  have hw2 : (.fieldLink RX4 101 "WeightedClausesModel" "grownHave" "I" : Cond).before _ s = true := hts _ (List.mem_cons_of_mem _ wd_542)
  have hw3 : (.fieldLink RX4 104 "WeightedClausesModel" "grownValues" "I" : Cond).before _ s = true := hts _ (List.mem_cons_of_mem _ wd_543)
  have hw4 : (.fieldLink RX4 7 "WeightedClausesModel" "yes" "[I" : Cond).before _ s = true := hts _ (List.mem_cons_of_mem _ wd_533)
  have hw5 : (.fieldLink RX4 13 "WeightedClausesModel" "no" "[I" : Cond).before _ s = true := hts _ (List.mem_cons_of_mem _ wd_534)
  have hPr : va_P (dC, dI) vwCl [(ad 0, .inr (4, [.int co, .int (nI nv), .int (nI nc), .ref (ad 1), .ref (ad 2), .ref (ad 3), .int hp, .long bo, .int (nI su), .ref (ad 4), .ref (ad 5), .ref (ad 6), .int gh, .int gv, .int fo, .int bv, .long bc, .int nd, .int (nI lo), .ref (ad 7), .ref (ad 8), .ref (ad 9), .int (nI wa), .ref (ad 10), .ref (ad 11)])), (ad 1, .inl (cI, 40, .inl mt)), (ad 2, .inl (cI, 40, .inl mf)), (ad 3, .inl (cI, 40, .inl wt)), (ad 4, .inl (cL, 40, .inr (.inl ss))), (ad 5, .inl (cZ, 40, .inl av)), (ad 6, .inl (cI, 10, .inl re)), (ad 7, .inl (cI, 1024, .inl lh)), (ad 8, .inl (cI, 1024, .inl lw)), (ad 9, .inl (cL, 1024, .inr (.inl lb))), (ad 10, .inl (cI, 24, .inl wh)), (ad 11, .inl (cI, 24, .inl wv))] s.heap := hP0.sub [0, 1, 2, 3, 4, 5, 6, 7, 8, 9, 10, 11] rfl
  have hS : va_S xN s.heap s.heap [] := va_S.rf
  have hl := lv_entry [.ref (ad 0)] (n := 2) (Nat.le_of_ble_eq_true rfl)
  rw [lg_entry_eq]
  generalize (lg_sl [.ref (ad 0)] ++ List.replicate (2 - (lg_sl [.ref (ad 0)]).length) Slot.unset).toArray = ls at hl ⊢
  have hl : lv_has ls 2 [(0, .ref (ad 0))] := hl
  have hF := Eq.refl (m_single nc mt mf av gh gv)
  conv at hF => rhs; unfold m_single
  refine lv_iconst (v := 0) hx hb dX4_single_0 (by decide) ?_
  refine lv_istore_n (lv' := [(1, .int 0), (0, .ref (ad 0))]) hx hb dX4_single_1 rfl hl (by decide) rfl (fun ls hl => ?_)
  have lp2 : ∀ (n : Nat) (i : Nat) (H : Heap) (locs : List Loc) (ls : Array Slot), m_single nc mt mf av gh gv = m_single_L mt mf av gh gv n i → i + n = nc → va_S xN s.heap H locs → lv_has ls 2 [(0, .ref (ad 0)), (1, .int (nI i))] → W p l e (headSpec wsX4_single ({ frames := 2, cells := 0, slots := 0, locals := 46 })).room s m [.ref (ad 0)].toArray below meth c H locs 0 0 (MQ below (va_Qi (fun r (_ : Unit) => m_single nc mt mf av gh gv = r) (fun _ _ => True) xN) [.ref (ad 0)].toArray s 0 0 xN) (F0 m 2 ls []) := by
    intro n
    induction n with
    | zero =>
      intro i H locs ls hF hil hS hl
      rw [m_single_L] at hF
      refine lv_iload_n hx hb dX4_single_2 rfl (lv_at hl 1 rfl) ?_
      refine lv_aload_n hx hb dX4_single_3 rfl (lv_at hl 0 rfl) ?_
      have hR := xP0 hPr xnN hS
      refine va_get (D := (dC, dI)) (ci := 4) (v := .int (nI nc)) (C := RX4) (T := TX4) (N := 25) hx hb hts (xcons inX4) hown hK hR 0 rfl rfl 2 (by decide) hw0 (fun _ h9 => h9) rfl dX4_single_4 ?_
      refine lv_icmp_ge (tgt := 70) hx hb dX4_single_7 (by decide) (fun h1 => ?_) (fun h1 => absurd (nI_le (by omega) (by omega)) h1)
      refine lv_iconst (v := (-1)) hx hb dX4_single_70 (by decide) ?_
      exact W.iret (v := (-1)) hx hb hr (fun t ht hW => ⟨⟨_, (), rfl, hF, trivial⟩, hS.F ht⟩) hS.2.2 dX4_single_71
    | succ n ih =>
      intro i H locs ls hF hil hS hl
      rw [m_single_L] at hF
      refine lv_iload_n hx hb dX4_single_2 rfl (lv_at hl 1 rfl) ?_
      refine lv_aload_n hx hb dX4_single_3 rfl (lv_at hl 0 rfl) ?_
      have hR := xP0 hPr xnN hS
      refine va_get (D := (dC, dI)) (ci := 4) (v := .int (nI nc)) (C := RX4) (T := TX4) (N := 25) hx hb hts (xcons inX4) hown hK hR 0 rfl rfl 2 (by decide) hw0 (fun _ h9 => h9) rfl dX4_single_4 ?_
      refine lv_icmp_ge (tgt := 70) hx hb dX4_single_7 (by decide) (fun h2 => absurd h2 (nI_ge (by omega) (by omega))) (fun h2 => ?_)
      refine lv_aload_n hx hb dX4_single_10 rfl (lv_at hl 0 rfl) ?_
      refine va_get (D := (dC, dI)) (ci := 4) (v := .ref (ad 5)) (C := RX4) (T := TX4) (N := 25) hx hb hts (xcons inX4) hown hK hR 0 rfl rfl 10 (by decide) hw1 (fun _ h9 => h9) rfl dX4_single_11 ?_
      refine lv_iload_n hx hb dX4_single_14 rfl (lv_at hl 1 rfl) ?_
      refine xr_zald hx hb hK hR 5 2 rfl rfl i (by omega) (by omega) dX4_single_15 ?_
      refine lv_if_eq (tgt := 64) hx hb dX4_single_16 (by decide) (fun h3 => ?_) (fun h3 => ?_)
      · have hF := hF.trans (if_pos h3)
        refine lv_iinc (k := 1) (v := (nI (i + 1))) (lv' := [(1, .int (nI (i + 1))), (0, .ref (ad 0))]) hx hb dX4_single_64 hl rfl (xinc _) (by decide) rfl (fun ls hl => ?_)
        refine lv_goto (tgt := 2) hx hb dX4_single_67 (by decide) ?_
        exact ih (i + 1) _ _ _ hF (by omega) hS (lv_sub hl [1, 0] rfl)
      · have hF := hF.trans (if_neg h3)
        refine lv_aload_n hx hb dX4_single_19 rfl (lv_at hl 0 rfl) ?_
        refine lv_iload_n hx hb dX4_single_20 rfl (lv_at hl 1 rfl) ?_
        refine lv_aload_n hx hb dX4_single_21 rfl (lv_at hl 0 rfl) ?_
        refine va_get (D := (dC, dI)) (ci := 4) (v := .int gh) (C := RX4) (T := TX4) (N := 25) hx hb hts (xcons inX4) hown hK hR 0 rfl rfl 12 (by decide) hw2 (fun _ h9 => h9) rfl dX4_single_22 ?_
        refine lv_aload_n hx hb dX4_single_25 rfl (lv_at hl 0 rfl) ?_
        refine va_get (D := (dC, dI)) (ci := 4) (v := .int gv) (C := RX4) (T := TX4) (N := 25) hx hb hts (xcons inX4) hown hK hR 0 rfl rfl 13 (by decide) hw3 (fun _ h9 => h9) rfl dX4_single_26 ?_
        refine xro_i (va_runV (As := [.int (nI i), .int gh, .int gv]) (rest := []) ⟨hx, hb, hml, hown, hts⟩ (k_isOpen l dC dI cI cL cZ ad hinj co nv nc mt mf wt hp bo su ss av re gh gv fo bv bc nd lo lh lw lb wa wh wv i (by omega) gh gv) (xcwV 3 hts wd_682 wd_39 wd_679 wd_681 wd_25 rfl rfl (by decide +kernel) ⟨Nat.le_of_ble_eq_true rfl, Nat.le_of_ble_eq_true rfl⟩) (xpreV (va_recv hK hR rfl (q0 := 0) rfl) hR hK) rfl rfl hl.1 rfl (lv_room (Nat.le_of_ble_eq_true rfl)) dX4_single_29 ⟨Nat.le_of_ble_eq_true rfl, Nat.le_of_ble_eq_true rfl⟩) hS (fun H locs hk hS => ?_)
        refine lv_if_eq (tgt := 64) hx hb dX4_single_32 (by decide) (fun h4 => ?_) (fun h4 => ?_)
        · have hF := hF.trans (if_pos h4)
          refine lv_iinc (k := 1) (v := (nI (i + 1))) (lv' := [(1, .int (nI (i + 1))), (0, .ref (ad 0))]) hx hb dX4_single_64 hl rfl (xinc _) (by decide) rfl (fun ls hl => ?_)
          refine lv_goto (tgt := 2) hx hb dX4_single_67 (by decide) ?_
          exact ih (i + 1) _ _ _ hF (by omega) hS (lv_sub hl [1, 0] rfl)
        · have hF := hF.trans (if_neg h4)
          refine lv_aload_n hx hb dX4_single_35 rfl (lv_at hl 0 rfl) ?_
          have hR := xP0 hPr xnN hS
          refine va_get (D := (dC, dI)) (ci := 4) (v := .ref (ad 1)) (C := RX4) (T := TX4) (N := 25) hx hb hts (xcons inX4) hown hK hR 0 rfl rfl 3 (by decide) hw4 (fun _ h9 => h9) rfl dX4_single_36 ?_
          refine lv_iload_n hx hb dX4_single_39 rfl (lv_at hl 1 rfl) ?_
          refine xr_iald hx hb hK hR 1 0 rfl rfl i (by omega) (by omega) dX4_single_40 ?_
          refine lv_aload_n hx hb dX4_single_41 rfl (lv_at hl 0 rfl) ?_
          refine va_get (D := (dC, dI)) (ci := 4) (v := .ref (ad 2)) (C := RX4) (T := TX4) (N := 25) hx hb hts (xcons inX4) hown hK hR 0 rfl rfl 4 (by decide) hw5 (fun _ h9 => h9) rfl dX4_single_42 ?_
          refine lv_iload_n hx hb dX4_single_45 rfl (lv_at hl 1 rfl) ?_
          refine xr_iald hx hb hK hR 2 0 rfl rfl i (by omega) (by omega) dX4_single_46 ?_
          refine lv_ior hx hb dX4_single_47 ?_
          refine lv_aload_n hx hb dX4_single_48 rfl (lv_at hl 0 rfl) ?_
          refine va_get (D := (dC, dI)) (ci := 4) (v := .int gh) (C := RX4) (T := TX4) (N := 25) hx hb hts (xcons inX4) hown hK hR 0 rfl rfl 12 (by decide) hw2 (fun _ h9 => h9) rfl dX4_single_49 ?_
          refine lv_iconst (v := (-1)) hx hb dX4_single_52 (by decide) ?_
          refine lv_ixor hx hb dX4_single_53 ?_
          refine lv_iand hx hb dX4_single_54 ?_
          refine xro_i (va_runS (As := [.int (((mt i) ||| (mf i)) &&& (gh ^^^ (-1)))]) (rest := []) ⟨hx, hb, hml, hown, hts⟩ (k_count l dC dI cI cL cZ ad hinj (((mt i) ||| (mf i)) &&& (gh ^^^ (-1)))) (xcwS 1 hts wd_629 wd_39 wd_627 wd_628 rfl rfl (by decide +kernel) ⟨Nat.le_of_ble_eq_true rfl, Nat.le_of_ble_eq_true rfl⟩) (xpreS xPn hK) rfl rfl hl.1 rfl (lv_room (Nat.le_of_ble_eq_true rfl)) dX4_single_55 ⟨Nat.le_of_ble_eq_true rfl, Nat.le_of_ble_eq_true rfl⟩) hS (fun H locs hk hS => ?_)
          refine lv_iconst (v := 1) hx hb dX4_single_58 (by decide) ?_
          refine lv_icmp_ne (tgt := 64) hx hb dX4_single_59 (by decide) (fun h5 => ?_) (fun h5 => ?_)
          · have hF := hF.trans (if_neg h5)
            refine lv_iinc (k := 1) (v := (nI (i + 1))) (lv' := [(1, .int (nI (i + 1))), (0, .ref (ad 0))]) hx hb dX4_single_64 hl rfl (xinc _) (by decide) rfl (fun ls hl => ?_)
            refine lv_goto (tgt := 2) hx hb dX4_single_67 (by decide) ?_
            exact ih (i + 1) _ _ _ hF (by omega) hS (lv_sub hl [1, 0] rfl)
          · have hF := hF.trans (if_pos h5)
            refine lv_iload_n hx hb dX4_single_62 rfl (lv_at hl 1 rfl) ?_
            exact W.iret (v := (nI i)) hx hb hr (fun t ht hW => ⟨⟨_, (), rfl, hF, trivial⟩, hS.F ht⟩) hS.2.2 dX4_single_63
  exact lp2 nc 0 _ _ _ hF (by omega) hS (lv_sub hl [1, 0] rfl)
