def m_firstOf_A (mt mf : Nat → Int32) (hv vl : Int32) (i : Nat) : Nat → Nat → Int32 → Int32 → Int32 × Int32
  | 0, j, tt, ff =>
    (tt, ff)
  | n + 1, j, tt, ff =>
    if (m_isOpen mt mf j hv vl) = 0 then
      m_firstOf_A mt mf hv vl i n (j + 1) tt ff
    else
      m_firstOf_A mt mf hv vl i n (j + 1) (tt + (((mt j) >>> ((nI i) &&& 31)) &&& 1)) (ff + (((mf j) >>> ((nI i) &&& 31)) &&& 1))
def m_firstOf_L (nc : Nat) (mt mf : Nat → Int32) (hv vl : Int32) : Nat → Nat → Int32 → Int32 → Int32 → Int32
  | 0, i, bb, mo, lt =>
    lt
  | n + 1, i, bb, mo, lt =>
    match m_firstOf_A mt mf hv vl i nc 0 0 0 with
    | (tta, ffa) =>
      if ((hv >>> ((nI i) &&& 31)) &&& 1) = 0 then
        if bb < 0 then
          if ffa ≤ tta then
            m_firstOf_L nc mt mf hv vl n (i + 1) (nI i) (tta + ffa) (2 * (nI i))
          else
            m_firstOf_L nc mt mf hv vl n (i + 1) (nI i) (tta + ffa) ((2 * (nI i)) + 1)
        else
          if (tta + ffa) ≤ mo then
            m_firstOf_L nc mt mf hv vl n (i + 1) bb mo lt
          else
            if ffa ≤ tta then
              m_firstOf_L nc mt mf hv vl n (i + 1) (nI i) (tta + ffa) (2 * (nI i))
            else
              m_firstOf_L nc mt mf hv vl n (i + 1) (nI i) (tta + ffa) ((2 * (nI i)) + 1)
      else
        m_firstOf_L nc mt mf hv vl n (i + 1) bb mo lt
def m_firstOf (nv nc : Nat) (mt mf : Nat → Int32) (hv vl : Int32) : Int32 :=
  m_firstOf_L nc mt mf hv vl nv 0 (-1) 0 (-1)
set_option maxHeartbeats 4000000 in
set_option maxRecDepth 100000 in
theorem k_firstOf (l : Launch) (dC : Nat → ClassId) (dI : Nat → Nat → Nat) (cI cL cZ : ClassId) (ad : Nat → Nat) (hinj : xI ad 12) (co : Int32) (nv : Nat) (nc : Nat) (mt : (Nat → Int32)) (mf : (Nat → Int32)) (wt : (Nat → Int32)) (hp : Int32) (bo : Int64) (su : Nat) (ss : (Nat → Int64)) (av : (Nat → Int32)) (re : (Nat → Int32)) (gh : Int32) (gv : Int32) (fo : Int32) (bv : Int32) (bc : Int64) (nd : Int32) (lo : Nat) (lh : (Nat → Int32)) (lw : (Nat → Int32)) (lb : (Nat → Int64)) (wa : Nat) (wh : (Nat → Int32)) (wv : (Nat → Int32)) (hnc : nc ≤ 40) (hnv : nv ≤ 10) (hv vl : Int32) : Met l yX4_firstOf wsX4_firstOf ({ frames := 2, cells := 0, slots := 0, locals := 46 }) (va_Pc [.ref (ad 0), .int hv, .int vl] (fun U => va_P (dC, dI) vwCl [(ad 0, .inr (4, [.int co, .int (nI nv), .int (nI nc), .ref (ad 1), .ref (ad 2), .ref (ad 3), .int hp, .long bo, .int (nI su), .ref (ad 4), .ref (ad 5), .ref (ad 6), .int gh, .int gv, .int fo, .int bv, .long bc, .int nd, .int (nI lo), .ref (ad 7), .ref (ad 8), .ref (ad 9), .int (nI wa), .ref (ad 10), .ref (ad 11)])), (ad 1, .inl (cI, 40, .inl mt)), (ad 2, .inl (cI, 40, .inl mf)), (ad 3, .inl (cI, 40, .inl wt)), (ad 4, .inl (cL, 40, .inr (.inl ss))), (ad 5, .inl (cZ, 40, .inl av)), (ad 6, .inl (cI, 10, .inl re)), (ad 7, .inl (cI, 1024, .inl lh)), (ad 8, .inl (cI, 1024, .inl lw)), (ad 9, .inl (cL, 1024, .inr (.inl lb))), (ad 10, .inl (cI, 24, .inl wh)), (ad 11, .inl (cI, 24, .inl wv))] U.heap ∧ va_K (dC, dI) vwCl [(cI, .int), (cL, .long), (cZ, .boolean)] U)) (va_Qi (fun r (_ : Unit) => m_firstOf nv nc mt mf hv vl = r) (fun _ _ => True) xN) 0 0 xN := by
  refine Met.ofW (cc := cX4_firstOf) (maxL := 10) (ret := (some .int)) (by decide) rfl ?_
  intro p e s m args below meth c s₁ B hml hvv
  obtain ⟨rfl, hP0, hK⟩ := hvv
  have hx := B.exec
  have hb := B.bytes
  have hr := B.returns
  have hts := atoms_spec (ws := wsX4_firstOf) B.pre
  have hown : s.vm.findClass RX4 = some m.cls := findClass_of_methodNamed B.named
  have hlocks := B.notSynchronized
  have hw0 : (.fieldLink RX4 45 "WeightedClausesModel" "variables" "I" : Cond).before _ s = true := hts _ (List.mem_cons_of_mem _ wd_531)
  have hw1 : (.fieldLink RX4 75 "WeightedClausesModel" "clauses" "I" : Cond).before _ s = true := hts _ (List.mem_cons_of_mem _ wd_532)
  have hw2 : (.fieldLink RX4 7 "WeightedClausesModel" "yes" "[I" : Cond).before _ s = true := hts _ (List.mem_cons_of_mem _ wd_533)
  have hw3 : (.fieldLink RX4 13 "WeightedClausesModel" "no" "[I" : Cond).before _ s = true := hts _ (List.mem_cons_of_mem _ wd_534)
  have hPr : va_P (dC, dI) vwCl [(ad 0, .inr (4, [.int co, .int (nI nv), .int (nI nc), .ref (ad 1), .ref (ad 2), .ref (ad 3), .int hp, .long bo, .int (nI su), .ref (ad 4), .ref (ad 5), .ref (ad 6), .int gh, .int gv, .int fo, .int bv, .long bc, .int nd, .int (nI lo), .ref (ad 7), .ref (ad 8), .ref (ad 9), .int (nI wa), .ref (ad 10), .ref (ad 11)])), (ad 1, .inl (cI, 40, .inl mt)), (ad 2, .inl (cI, 40, .inl mf)), (ad 3, .inl (cI, 40, .inl wt)), (ad 4, .inl (cL, 40, .inr (.inl ss))), (ad 5, .inl (cZ, 40, .inl av)), (ad 6, .inl (cI, 10, .inl re)), (ad 7, .inl (cI, 1024, .inl lh)), (ad 8, .inl (cI, 1024, .inl lw)), (ad 9, .inl (cL, 1024, .inr (.inl lb))), (ad 10, .inl (cI, 24, .inl wh)), (ad 11, .inl (cI, 24, .inl wv))] s.heap := hP0.sub [0, 1, 2, 3, 4, 5, 6, 7, 8, 9, 10, 11] rfl
  have hS : va_S xN s.heap s.heap [] := va_S.rf
  have hl := lv_entry [.ref (ad 0), .int hv, .int vl] (n := 10) (Nat.le_of_ble_eq_true rfl)
  rw [lg_entry_eq]
  generalize (lg_sl [.ref (ad 0), .int hv, .int vl] ++ List.replicate (10 - (lg_sl [.ref (ad 0), .int hv, .int vl]).length) Slot.unset).toArray = ls at hl ⊢
  have hl : lv_has ls 10 [(0, .ref (ad 0)), (1, .int hv), (2, .int vl)] := hl
  have hF := Eq.refl (m_firstOf nv nc mt mf hv vl)
  conv at hF => rhs; unfold m_firstOf
  refine lv_iconst (v := (-1)) hx hb dX4_firstOf_0 (by decide) ?_
  refine lv_istore_n (lv' := [(3, .int (-1)), (0, .ref (ad 0)), (1, .int hv), (2, .int vl)]) hx hb dX4_firstOf_1 rfl hl (by decide) rfl (fun ls hl => ?_)
  refine lv_iconst (v := 0) hx hb dX4_firstOf_2 (by decide) ?_
  refine lv_istore (lv' := [(4, .int 0), (3, .int (-1)), (0, .ref (ad 0)), (1, .int hv), (2, .int vl)]) hx hb dX4_firstOf_3 hl (by decide) rfl (fun ls hl => ?_)
  refine lv_iconst (v := (-1)) hx hb dX4_firstOf_5 (by decide) ?_
  refine lv_istore (lv' := [(5, .int (-1)), (4, .int 0), (3, .int (-1)), (0, .ref (ad 0)), (1, .int hv), (2, .int vl)]) hx hb dX4_firstOf_6 hl (by decide) rfl (fun ls hl => ?_)
  refine lv_iconst (v := 0) hx hb dX4_firstOf_8 (by decide) ?_
  refine lv_istore (lv' := [(6, .int 0), (5, .int (-1)), (4, .int 0), (3, .int (-1)), (0, .ref (ad 0)), (1, .int hv), (2, .int vl)]) hx hb dX4_firstOf_9 hl (by decide) rfl (fun ls hl => ?_)
  have lp11 : ∀ (n : Nat) (i : Nat) (bb : Int32) (mo : Int32) (lt : Int32) (H : Heap) (locs : List Loc) (ls : Array Slot), m_firstOf nv nc mt mf hv vl = m_firstOf_L nc mt mf hv vl n i bb mo lt → i + n = nv → va_S xN s.heap H locs → lv_has ls 10 [(0, .ref (ad 0)), (1, .int hv), (2, .int vl), (3, .int bb), (4, .int mo), (5, .int lt), (6, .int (nI i))] → W p l e (headSpec wsX4_firstOf ({ frames := 2, cells := 0, slots := 0, locals := 46 })).room s m [.ref (ad 0), .int hv, .int vl].toArray below meth c H locs 0 0 (MQ below (va_Qi (fun r (_ : Unit) => m_firstOf nv nc mt mf hv vl = r) (fun _ _ => True) xN) [.ref (ad 0), .int hv, .int vl].toArray s 0 0 xN) (F0 m 11 ls []) := by
    intro n
    induction n with
    | zero =>
      intro i bb mo lt H locs ls hF hil hS hl
      rw [m_firstOf_L] at hF
      refine lv_iload hx hb dX4_firstOf_11 (lv_at hl 6 rfl) ?_
      refine lv_aload_n hx hb dX4_firstOf_13 rfl (lv_at hl 0 rfl) ?_
      have hR := xP0 hPr xnN hS
      refine va_get (D := (dC, dI)) (ci := 4) (v := .int (nI nv)) (C := RX4) (T := TX4) (N := 25) hx hb hts (xcons inX4) hown hK hR 0 rfl rfl 1 (by decide) hw0 (fun _ h9 => h9) rfl dX4_firstOf_14 ?_
      refine lv_icmp_ge (tgt := 150) hx hb dX4_firstOf_17 (by decide) (fun h1 => ?_) (fun h1 => absurd (nI_le (by omega) (by omega)) h1)
      refine lv_iload hx hb dX4_firstOf_150 (lv_at hl 5 rfl) ?_
      exact W.iret (v := lt) hx hb hr (fun t ht hW => ⟨⟨_, (), rfl, hF, trivial⟩, hS.F ht⟩) hS.2.2 dX4_firstOf_152
    | succ n ih =>
      intro i bb mo lt H locs ls hF hil hS hl
      rw [m_firstOf_L] at hF
      refine lv_iload hx hb dX4_firstOf_11 (lv_at hl 6 rfl) ?_
      refine lv_aload_n hx hb dX4_firstOf_13 rfl (lv_at hl 0 rfl) ?_
      have hR := xP0 hPr xnN hS
      refine va_get (D := (dC, dI)) (ci := 4) (v := .int (nI nv)) (C := RX4) (T := TX4) (N := 25) hx hb hts (xcons inX4) hown hK hR 0 rfl rfl 1 (by decide) hw0 (fun _ h9 => h9) rfl dX4_firstOf_14 ?_
      refine lv_icmp_ge (tgt := 150) hx hb dX4_firstOf_17 (by decide) (fun h2 => absurd h2 (nI_ge (by omega) (by omega))) (fun h2 => ?_)
      refine lv_iconst (v := 0) hx hb dX4_firstOf_20 (by decide) ?_
      refine lv_istore (lv' := [(7, .int 0), (0, .ref (ad 0)), (1, .int hv), (2, .int vl), (3, .int bb), (4, .int mo), (5, .int lt), (6, .int (nI i))]) hx hb dX4_firstOf_21 hl (by decide) rfl (fun ls hl => ?_)
      refine lv_iconst (v := 0) hx hb dX4_firstOf_23 (by decide) ?_
      refine lv_istore (lv' := [(8, .int 0), (7, .int 0), (0, .ref (ad 0)), (1, .int hv), (2, .int vl), (3, .int bb), (4, .int mo), (5, .int lt), (6, .int (nI i))]) hx hb dX4_firstOf_24 hl (by decide) rfl (fun ls hl => ?_)
      refine lv_iconst (v := 0) hx hb dX4_firstOf_26 (by decide) ?_
      refine lv_istore (lv' := [(9, .int 0), (8, .int 0), (7, .int 0), (0, .ref (ad 0)), (1, .int hv), (2, .int vl), (3, .int bb), (4, .int mo), (5, .int lt), (6, .int (nI i))]) hx hb dX4_firstOf_27 hl (by decide) rfl (fun ls hl => ?_)
      have lp29 : ∀ (n : Nat) (j : Nat) (tt : Int32) (ff : Int32) (tta : Int32) (ffa : Int32) (H : Heap) (locs : List Loc) (ls : Array Slot), (tta, ffa) = m_firstOf_A mt mf hv vl i n j tt ff → j + n = nc → va_S xN s.heap H locs → lv_has ls 10 [(0, .ref (ad 0)), (1, .int hv), (2, .int vl), (3, .int bb), (4, .int mo), (5, .int lt), (6, .int (nI i)), (7, .int tt), (8, .int ff), (9, .int (nI j))] → (∀ (H : Heap) (locs : List Loc) (ls : Array Slot), va_S xN s.heap H locs → lv_has ls 10 [(0, .ref (ad 0)), (1, .int hv), (2, .int vl), (3, .int bb), (4, .int mo), (5, .int lt), (6, .int (nI i)), (7, .int tta), (8, .int ffa)] → W p l e (headSpec wsX4_firstOf ({ frames := 2, cells := 0, slots := 0, locals := 46 })).room s m [.ref (ad 0), .int hv, .int vl].toArray below meth c H locs 0 0 (MQ below (va_Qi (fun r (_ : Unit) => m_firstOf nv nc mt mf hv vl = r) (fun _ _ => True) xN) [.ref (ad 0), .int hv, .int vl].toArray s 0 0 xN) (F0 m 89 ls [])) → W p l e (headSpec wsX4_firstOf ({ frames := 2, cells := 0, slots := 0, locals := 46 })).room s m [.ref (ad 0), .int hv, .int vl].toArray below meth c H locs 0 0 (MQ below (va_Qi (fun r (_ : Unit) => m_firstOf nv nc mt mf hv vl = r) (fun _ _ => True) xN) [.ref (ad 0), .int hv, .int vl].toArray s 0 0 xN) (F0 m 29 ls []) := by
        intro n
        induction n with
        | zero =>
          intro j tt ff tta ffa H locs ls hF hjl hS hl hkx
          rw [m_firstOf_A] at hF
          refine lv_iload hx hb dX4_firstOf_29 (lv_at hl 9 rfl) ?_
          refine lv_aload_n hx hb dX4_firstOf_31 rfl (lv_at hl 0 rfl) ?_
          have hR := xP0 hPr xnN hS
          refine va_get (D := (dC, dI)) (ci := 4) (v := .int (nI nc)) (C := RX4) (T := TX4) (N := 25) hx hb hts (xcons inX4) hown hK hR 0 rfl rfl 2 (by decide) hw1 (fun _ h9 => h9) rfl dX4_firstOf_32 ?_
          refine lv_icmp_ge (tgt := 89) hx hb dX4_firstOf_35 (by decide) (fun h3 => ?_) (fun h3 => absurd (nI_le (by omega) (by omega)) h3)
          simp only [Prod.mk.injEq] at hF
          obtain ⟨rfl, rfl⟩ := hF
          exact hkx _ _ _ hS (lv_sub hl [0, 1, 2, 3, 4, 5, 6, 7, 8] rfl)
        | succ n ih =>
          intro j tt ff tta ffa H locs ls hF hjl hS hl hkx
          rw [m_firstOf_A] at hF
          refine lv_iload hx hb dX4_firstOf_29 (lv_at hl 9 rfl) ?_
          refine lv_aload_n hx hb dX4_firstOf_31 rfl (lv_at hl 0 rfl) ?_
          have hR := xP0 hPr xnN hS
          refine va_get (D := (dC, dI)) (ci := 4) (v := .int (nI nc)) (C := RX4) (T := TX4) (N := 25) hx hb hts (xcons inX4) hown hK hR 0 rfl rfl 2 (by decide) hw1 (fun _ h9 => h9) rfl dX4_firstOf_32 ?_
          refine lv_icmp_ge (tgt := 89) hx hb dX4_firstOf_35 (by decide) (fun h4 => absurd h4 (nI_ge (by omega) (by omega))) (fun h4 => ?_)
          refine lv_aload_n hx hb dX4_firstOf_38 rfl (lv_at hl 0 rfl) ?_
          refine lv_iload hx hb dX4_firstOf_39 (lv_at hl 9 rfl) ?_
          refine lv_iload_n hx hb dX4_firstOf_41 rfl (lv_at hl 1 rfl) ?_
          refine lv_iload_n hx hb dX4_firstOf_42 rfl (lv_at hl 2 rfl) ?_
          refine xro_i (va_runV (As := [.int (nI j), .int hv, .int vl]) (rest := []) ⟨hx, hb, hml, hown, hts⟩ (k_isOpen l dC dI cI cL cZ ad hinj co nv nc mt mf wt hp bo su ss av re gh gv fo bv bc nd lo lh lw lb wa wh wv j (by omega) hv vl) (xcwV 3 hts wd_682 wd_39 wd_679 wd_681 wd_25 rfl rfl (by decide +kernel) ⟨Nat.le_of_ble_eq_true rfl, Nat.le_of_ble_eq_true rfl⟩) (xpreV (va_recv hK hR rfl (q0 := 0) rfl) hR hK) rfl rfl hl.1 rfl (lv_room (Nat.le_of_ble_eq_true rfl)) dX4_firstOf_43 ⟨Nat.le_of_ble_eq_true rfl, Nat.le_of_ble_eq_true rfl⟩) hS (fun H locs hk hS => ?_)
          refine lv_if_eq (tgt := 83) hx hb dX4_firstOf_46 (by decide) (fun h5 => ?_) (fun h5 => ?_)
          · have hF := hF.trans (if_pos h5)
            refine lv_iinc (k := 9) (v := (nI (j + 1))) (lv' := [(9, .int (nI (j + 1))), (0, .ref (ad 0)), (1, .int hv), (2, .int vl), (3, .int bb), (4, .int mo), (5, .int lt), (6, .int (nI i)), (7, .int tt), (8, .int ff)]) hx hb dX4_firstOf_83 hl rfl (xinc _) (by decide) rfl (fun ls hl => ?_)
            refine lv_goto (tgt := 29) hx hb dX4_firstOf_86 (by decide) ?_
            exact ih (j + 1) tt ff tta ffa _ _ _ hF (by omega) hS (lv_sub hl [1, 2, 3, 4, 5, 6, 7, 8, 9, 0] rfl) hkx
          · have hF := hF.trans (if_neg h5)
            refine lv_iload hx hb dX4_firstOf_49 (lv_at hl 7 rfl) ?_
            refine lv_aload_n hx hb dX4_firstOf_51 rfl (lv_at hl 0 rfl) ?_
            have hR := xP0 hPr xnN hS
            refine va_get (D := (dC, dI)) (ci := 4) (v := .ref (ad 1)) (C := RX4) (T := TX4) (N := 25) hx hb hts (xcons inX4) hown hK hR 0 rfl rfl 3 (by decide) hw2 (fun _ h9 => h9) rfl dX4_firstOf_52 ?_
            refine lv_iload hx hb dX4_firstOf_55 (lv_at hl 9 rfl) ?_
            refine xr_iald hx hb hK hR 1 0 rfl rfl j (by omega) (by omega) dX4_firstOf_57 ?_
            refine lv_iload hx hb dX4_firstOf_58 (lv_at hl 6 rfl) ?_
            refine lv_ishr hx hb dX4_firstOf_60 ?_
            refine lv_iconst (v := 1) hx hb dX4_firstOf_61 (by decide) ?_
            refine lv_iand hx hb dX4_firstOf_62 ?_
            refine lv_iadd hx hb dX4_firstOf_63 ?_
            refine lv_istore (lv' := [(7, .int (tt + (((mt j) >>> ((nI i) &&& 31)) &&& 1))), (0, .ref (ad 0)), (1, .int hv), (2, .int vl), (3, .int bb), (4, .int mo), (5, .int lt), (6, .int (nI i)), (8, .int ff), (9, .int (nI j))]) hx hb dX4_firstOf_64 hl (by decide) rfl (fun ls hl => ?_)
            refine lv_iload hx hb dX4_firstOf_66 (lv_at hl 8 rfl) ?_
            refine lv_aload_n hx hb dX4_firstOf_68 rfl (lv_at hl 1 rfl) ?_
            refine va_get (D := (dC, dI)) (ci := 4) (v := .ref (ad 2)) (C := RX4) (T := TX4) (N := 25) hx hb hts (xcons inX4) hown hK hR 0 rfl rfl 4 (by decide) hw3 (fun _ h9 => h9) rfl dX4_firstOf_69 ?_
            refine lv_iload hx hb dX4_firstOf_72 (lv_at hl 9 rfl) ?_
            refine xr_iald hx hb hK hR 2 0 rfl rfl j (by omega) (by omega) dX4_firstOf_74 ?_
            refine lv_iload hx hb dX4_firstOf_75 (lv_at hl 7 rfl) ?_
            refine lv_ishr hx hb dX4_firstOf_77 ?_
            refine lv_iconst (v := 1) hx hb dX4_firstOf_78 (by decide) ?_
            refine lv_iand hx hb dX4_firstOf_79 ?_
            refine lv_iadd hx hb dX4_firstOf_80 ?_
            refine lv_istore (lv' := [(8, .int (ff + (((mf j) >>> ((nI i) &&& 31)) &&& 1))), (7, .int (tt + (((mt j) >>> ((nI i) &&& 31)) &&& 1))), (0, .ref (ad 0)), (1, .int hv), (2, .int vl), (3, .int bb), (4, .int mo), (5, .int lt), (6, .int (nI i)), (9, .int (nI j))]) hx hb dX4_firstOf_81 hl (by decide) rfl (fun ls hl => ?_)
            refine lv_iinc (k := 9) (v := (nI (j + 1))) (lv' := [(9, .int (nI (j + 1))), (8, .int (ff + (((mf j) >>> ((nI i) &&& 31)) &&& 1))), (7, .int (tt + (((mt j) >>> ((nI i) &&& 31)) &&& 1))), (0, .ref (ad 0)), (1, .int hv), (2, .int vl), (3, .int bb), (4, .int mo), (5, .int lt), (6, .int (nI i))]) hx hb dX4_firstOf_83 hl rfl (xinc _) (by decide) rfl (fun ls hl => ?_)
            refine lv_goto (tgt := 29) hx hb dX4_firstOf_86 (by decide) ?_
            exact ih (j + 1) (tt + (((mt j) >>> ((nI i) &&& 31)) &&& 1)) (ff + (((mf j) >>> ((nI i) &&& 31)) &&& 1)) tta ffa _ _ _ hF (by omega) hS (lv_sub hl [3, 4, 5, 6, 7, 8, 9, 2, 1, 0] rfl) hkx
      obtain ⟨tta, ffa, hq29⟩ : ∃ (tta : Int32) (ffa : Int32), (tta, ffa) = m_firstOf_A mt mf hv vl i nc 0 0 0 := ⟨_, _, rfl⟩
      rw [← hq29] at hF
      try dsimp only at hF
      refine lp29 nc 0 0 0 tta ffa _ _ _ hq29 (by omega) hS (lv_sub hl [3, 4, 5, 6, 7, 8, 9, 2, 1, 0] rfl) (fun H locs ls hS hl => ?_)
      refine lv_iload_n hx hb dX4_firstOf_89 rfl (lv_at hl 1 rfl) ?_
      refine lv_iload hx hb dX4_firstOf_90 (lv_at hl 6 rfl) ?_
      refine lv_ishr hx hb dX4_firstOf_92 ?_
      refine lv_iconst (v := 1) hx hb dX4_firstOf_93 (by decide) ?_
      refine lv_iand hx hb dX4_firstOf_94 ?_
      refine lv_if_ne (tgt := 144) hx hb dX4_firstOf_95 (by decide) (fun h6 => ?_) (fun h6 => ?_)
      · have hF := hF.trans (if_neg h6)
        refine lv_iinc (k := 6) (v := (nI (i + 1))) (lv' := [(6, .int (nI (i + 1))), (0, .ref (ad 0)), (1, .int hv), (2, .int vl), (3, .int bb), (4, .int mo), (5, .int lt), (7, .int tta), (8, .int ffa)]) hx hb dX4_firstOf_144 hl rfl (xinc _) (by decide) rfl (fun ls hl => ?_)
        refine lv_goto (tgt := 11) hx hb dX4_firstOf_147 (by decide) ?_
        exact ih (i + 1) bb mo lt _ _ _ hF (by omega) hS (lv_sub hl [1, 2, 3, 4, 5, 6, 0] rfl)
      · have hF := hF.trans (if_pos h6)
        refine lv_iload_n hx hb dX4_firstOf_98 rfl (lv_at hl 3 rfl) ?_
        refine lv_if_lt (tgt := 112) hx hb dX4_firstOf_99 (by decide) (fun h7 => ?_) (fun h7 => ?_)
        · have hF := hF.trans (if_pos h7)
          refine lv_iload hx hb dX4_firstOf_112 (lv_at hl 6 rfl) ?_
          refine lv_istore_n (lv' := [(3, .int (nI i)), (0, .ref (ad 0)), (1, .int hv), (2, .int vl), (4, .int mo), (5, .int lt), (6, .int (nI i)), (7, .int tta), (8, .int ffa)]) hx hb dX4_firstOf_114 rfl hl (by decide) rfl (fun ls hl => ?_)
          refine lv_iload hx hb dX4_firstOf_115 (lv_at hl 7 rfl) ?_
          refine lv_iload hx hb dX4_firstOf_117 (lv_at hl 8 rfl) ?_
          refine lv_iadd hx hb dX4_firstOf_119 ?_
          refine lv_istore (lv' := [(4, .int (tta + ffa)), (3, .int (nI i)), (0, .ref (ad 0)), (1, .int hv), (2, .int vl), (5, .int lt), (6, .int (nI i)), (7, .int tta), (8, .int ffa)]) hx hb dX4_firstOf_120 hl (by decide) rfl (fun ls hl => ?_)
          refine lv_iload hx hb dX4_firstOf_122 (lv_at hl 8 rfl) ?_
          refine lv_iload hx hb dX4_firstOf_124 (lv_at hl 7 rfl) ?_
          refine lv_icmp_le (tgt := 138) hx hb dX4_firstOf_126 (by decide) (fun h8 => ?_) (fun h8 => ?_)
          · have hF := hF.trans (if_pos h8)
            refine lv_iconst (v := 2) hx hb dX4_firstOf_138 (by decide) ?_
            refine lv_iload hx hb dX4_firstOf_139 (lv_at hl 6 rfl) ?_
            refine lv_imul hx hb dX4_firstOf_141 ?_
            refine lv_istore (lv' := [(5, .int (2 * (nI i))), (4, .int (tta + ffa)), (3, .int (nI i)), (0, .ref (ad 0)), (1, .int hv), (2, .int vl), (6, .int (nI i)), (7, .int tta), (8, .int ffa)]) hx hb dX4_firstOf_142 hl (by decide) rfl (fun ls hl => ?_)
            refine lv_iinc (k := 6) (v := (nI (i + 1))) (lv' := [(6, .int (nI (i + 1))), (5, .int (2 * (nI i))), (4, .int (tta + ffa)), (3, .int (nI i)), (0, .ref (ad 0)), (1, .int hv), (2, .int vl), (7, .int tta), (8, .int ffa)]) hx hb dX4_firstOf_144 hl rfl (xinc _) (by decide) rfl (fun ls hl => ?_)
            refine lv_goto (tgt := 11) hx hb dX4_firstOf_147 (by decide) ?_
            exact ih (i + 1) (nI i) (tta + ffa) (2 * (nI i)) _ _ _ hF (by omega) hS (lv_sub hl [4, 5, 6, 3, 2, 1, 0] rfl)
          · have hF := hF.trans (if_neg h8)
            refine lv_iconst (v := 2) hx hb dX4_firstOf_129 (by decide) ?_
            refine lv_iload hx hb dX4_firstOf_130 (lv_at hl 6 rfl) ?_
            refine lv_imul hx hb dX4_firstOf_132 ?_
            refine lv_iconst (v := 1) hx hb dX4_firstOf_133 (by decide) ?_
            refine lv_iadd hx hb dX4_firstOf_134 ?_
            refine lv_goto (tgt := 142) hx hb dX4_firstOf_135 (by decide) ?_
            refine lv_istore (lv' := [(5, .int ((2 * (nI i)) + 1)), (4, .int (tta + ffa)), (3, .int (nI i)), (0, .ref (ad 0)), (1, .int hv), (2, .int vl), (6, .int (nI i)), (7, .int tta), (8, .int ffa)]) hx hb dX4_firstOf_142 hl (by decide) rfl (fun ls hl => ?_)
            refine lv_iinc (k := 6) (v := (nI (i + 1))) (lv' := [(6, .int (nI (i + 1))), (5, .int ((2 * (nI i)) + 1)), (4, .int (tta + ffa)), (3, .int (nI i)), (0, .ref (ad 0)), (1, .int hv), (2, .int vl), (7, .int tta), (8, .int ffa)]) hx hb dX4_firstOf_144 hl rfl (xinc _) (by decide) rfl (fun ls hl => ?_)
            refine lv_goto (tgt := 11) hx hb dX4_firstOf_147 (by decide) ?_
            exact ih (i + 1) (nI i) (tta + ffa) ((2 * (nI i)) + 1) _ _ _ hF (by omega) hS (lv_sub hl [4, 5, 6, 3, 2, 1, 0] rfl)
        · have hF := hF.trans (if_neg h7)
          refine lv_iload hx hb dX4_firstOf_102 (lv_at hl 7 rfl) ?_
          refine lv_iload hx hb dX4_firstOf_104 (lv_at hl 8 rfl) ?_
          refine lv_iadd hx hb dX4_firstOf_106 ?_
          refine lv_iload hx hb dX4_firstOf_107 (lv_at hl 4 rfl) ?_
          refine lv_icmp_le (tgt := 144) hx hb dX4_firstOf_109 (by decide) (fun h9 => ?_) (fun h9 => ?_)
          · have hF := hF.trans (if_pos h9)
            refine lv_iinc (k := 6) (v := (nI (i + 1))) (lv' := [(6, .int (nI (i + 1))), (0, .ref (ad 0)), (1, .int hv), (2, .int vl), (3, .int bb), (4, .int mo), (5, .int lt), (7, .int tta), (8, .int ffa)]) hx hb dX4_firstOf_144 hl rfl (xinc _) (by decide) rfl (fun ls hl => ?_)
            refine lv_goto (tgt := 11) hx hb dX4_firstOf_147 (by decide) ?_
            exact ih (i + 1) bb mo lt _ _ _ hF (by omega) hS (lv_sub hl [1, 2, 3, 4, 5, 6, 0] rfl)
          · have hF := hF.trans (if_neg h9)
            refine lv_iload hx hb dX4_firstOf_112 (lv_at hl 6 rfl) ?_
            refine lv_istore_n (lv' := [(3, .int (nI i)), (0, .ref (ad 0)), (1, .int hv), (2, .int vl), (4, .int mo), (5, .int lt), (6, .int (nI i)), (7, .int tta), (8, .int ffa)]) hx hb dX4_firstOf_114 rfl hl (by decide) rfl (fun ls hl => ?_)
            refine lv_iload hx hb dX4_firstOf_115 (lv_at hl 7 rfl) ?_
            refine lv_iload hx hb dX4_firstOf_117 (lv_at hl 8 rfl) ?_
            refine lv_iadd hx hb dX4_firstOf_119 ?_
            refine lv_istore (lv' := [(4, .int (tta + ffa)), (3, .int (nI i)), (0, .ref (ad 0)), (1, .int hv), (2, .int vl), (5, .int lt), (6, .int (nI i)), (7, .int tta), (8, .int ffa)]) hx hb dX4_firstOf_120 hl (by decide) rfl (fun ls hl => ?_)
            refine lv_iload hx hb dX4_firstOf_122 (lv_at hl 8 rfl) ?_
            refine lv_iload hx hb dX4_firstOf_124 (lv_at hl 7 rfl) ?_
            refine lv_icmp_le (tgt := 138) hx hb dX4_firstOf_126 (by decide) (fun h10 => ?_) (fun h10 => ?_)
            · have hF := hF.trans (if_pos h10)
              refine lv_iconst (v := 2) hx hb dX4_firstOf_138 (by decide) ?_
              refine lv_iload hx hb dX4_firstOf_139 (lv_at hl 6 rfl) ?_
              refine lv_imul hx hb dX4_firstOf_141 ?_
              refine lv_istore (lv' := [(5, .int (2 * (nI i))), (4, .int (tta + ffa)), (3, .int (nI i)), (0, .ref (ad 0)), (1, .int hv), (2, .int vl), (6, .int (nI i)), (7, .int tta), (8, .int ffa)]) hx hb dX4_firstOf_142 hl (by decide) rfl (fun ls hl => ?_)
              refine lv_iinc (k := 6) (v := (nI (i + 1))) (lv' := [(6, .int (nI (i + 1))), (5, .int (2 * (nI i))), (4, .int (tta + ffa)), (3, .int (nI i)), (0, .ref (ad 0)), (1, .int hv), (2, .int vl), (7, .int tta), (8, .int ffa)]) hx hb dX4_firstOf_144 hl rfl (xinc _) (by decide) rfl (fun ls hl => ?_)
              refine lv_goto (tgt := 11) hx hb dX4_firstOf_147 (by decide) ?_
              exact ih (i + 1) (nI i) (tta + ffa) (2 * (nI i)) _ _ _ hF (by omega) hS (lv_sub hl [4, 5, 6, 3, 2, 1, 0] rfl)
            · have hF := hF.trans (if_neg h10)
              refine lv_iconst (v := 2) hx hb dX4_firstOf_129 (by decide) ?_
              refine lv_iload hx hb dX4_firstOf_130 (lv_at hl 6 rfl) ?_
              refine lv_imul hx hb dX4_firstOf_132 ?_
              refine lv_iconst (v := 1) hx hb dX4_firstOf_133 (by decide) ?_
              refine lv_iadd hx hb dX4_firstOf_134 ?_
              refine lv_goto (tgt := 142) hx hb dX4_firstOf_135 (by decide) ?_
              refine lv_istore (lv' := [(5, .int ((2 * (nI i)) + 1)), (4, .int (tta + ffa)), (3, .int (nI i)), (0, .ref (ad 0)), (1, .int hv), (2, .int vl), (6, .int (nI i)), (7, .int tta), (8, .int ffa)]) hx hb dX4_firstOf_142 hl (by decide) rfl (fun ls hl => ?_)
              refine lv_iinc (k := 6) (v := (nI (i + 1))) (lv' := [(6, .int (nI (i + 1))), (5, .int ((2 * (nI i)) + 1)), (4, .int (tta + ffa)), (3, .int (nI i)), (0, .ref (ad 0)), (1, .int hv), (2, .int vl), (7, .int tta), (8, .int ffa)]) hx hb dX4_firstOf_144 hl rfl (xinc _) (by decide) rfl (fun ls hl => ?_)
              refine lv_goto (tgt := 11) hx hb dX4_firstOf_147 (by decide) ?_
              exact ih (i + 1) (nI i) (tta + ffa) ((2 * (nI i)) + 1) _ _ _ hF (by omega) hS (lv_sub hl [4, 5, 6, 3, 2, 1, 0] rfl)
  exact lp11 nv 0 (-1) 0 (-1) _ _ _ hF (by omega) hS (lv_sub hl [4, 5, 6, 3, 2, 1, 0] rfl)
