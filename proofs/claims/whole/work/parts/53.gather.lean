def m_gather_A (mt mf re : Nat → Int32) (i : Nat) : Nat → Nat → Int64 → Int64
  | 0, j, set3 =>
    set3
  | n + 1, j, set3 =>
    if (lg_cmp ((set3 >>> ((nI i).toInt64 &&& 63)) &&& 1) 1) = 0 then
      if ((((mt i) ||| (mf i)) >>> ((nI j) &&& 31)) &&& 1) = 1 then
        if (re j) < 0 then
          m_gather_A mt mf re i n (j + 1) set3
        else
          m_gather_A mt mf re i n (j + 1) (set3 ||| ((1 : Int64) <<< ((re j).toInt64 &&& 63)))
      else
        m_gather_A mt mf re i n (j + 1) set3
    else
      m_gather_A mt mf re i n (j + 1) set3
def m_gather_B (nv : Nat) (mt mf re : Nat → Int32) : Nat → Nat → Int64 → Int64
  | 0, i, set2 =>
    set2
  | n + 1, i, set2 =>
    match m_gather_A mt mf re i nv 0 set2 with
    | set3b =>
      m_gather_B nv mt mf re n (i + 1) set3b
def m_gather_L (nv nc : Nat) (mt mf re : Nat → Int32) : Nat → Int64 → Int32 → Option Int64
  | 0, bef, mo =>
    none
  | n + 1, bef, mo =>
    if mo = 0 then
      some bef
    else
      match m_gather_B nv mt mf re nc 0 bef with
      | set2a =>
        if (lg_cmp set2a bef) = 0 then
          m_gather_L nv nc mt mf re n set2a 0
        else
          m_gather_L nv nc mt mf re n set2a 1
def m_gather (nv nc : Nat) (mt mf re : Nat → Int32) (x : Int32) : Option (Int64) :=
  m_gather_L nv nc mt mf re 42 ((1 : Int64) <<< (x.toInt64 &&& 63)) 1
set_option maxHeartbeats 4000000 in
set_option maxRecDepth 100000 in
theorem k_gather (l : Launch) (dC : Nat → ClassId) (dI : Nat → Nat → Nat) (cI cL cZ : ClassId) (ad : Nat → Nat) (hinj : xI ad 12) (co : Int32) (nv : Nat) (nc : Nat) (mt : (Nat → Int32)) (mf : (Nat → Int32)) (wt : (Nat → Int32)) (hp : Int32) (bo : Int64) (su : Nat) (ss : (Nat → Int64)) (av : (Nat → Int32)) (re : (Nat → Int32)) (gh : Int32) (gv : Int32) (fo : Int32) (bv : Int32) (bc : Int64) (nd : Int32) (lo : Nat) (lh : (Nat → Int32)) (lw : (Nat → Int32)) (lb : (Nat → Int64)) (wa : Nat) (wh : (Nat → Int32)) (wv : (Nat → Int32)) (hnc : nc ≤ 40) (hnv : nv ≤ 10) (x : Int32) (hsome : ∃ z, m_gather nv nc mt mf re x = some z) : Met l yX4_gather wsX4_gather ({ frames := 0, cells := 0, slots := 0, locals := 0 }) (va_Pc [.ref (ad 0), .int x] (fun U => va_P (dC, dI) vwCl [(ad 0, .inr (4, [.int co, .int (nI nv), .int (nI nc), .ref (ad 1), .ref (ad 2), .ref (ad 3), .int hp, .long bo, .int (nI su), .ref (ad 4), .ref (ad 5), .ref (ad 6), .int gh, .int gv, .int fo, .int bv, .long bc, .int nd, .int (nI lo), .ref (ad 7), .ref (ad 8), .ref (ad 9), .int (nI wa), .ref (ad 10), .ref (ad 11)])), (ad 1, .inl (cI, 40, .inl mt)), (ad 2, .inl (cI, 40, .inl mf)), (ad 3, .inl (cI, 40, .inl wt)), (ad 4, .inl (cL, 40, .inr (.inl ss))), (ad 5, .inl (cZ, 40, .inl av)), (ad 6, .inl (cI, 10, .inl re)), (ad 7, .inl (cI, 1024, .inl lh)), (ad 8, .inl (cI, 1024, .inl lw)), (ad 9, .inl (cL, 1024, .inr (.inl lb))), (ad 10, .inl (cI, 24, .inl wh)), (ad 11, .inl (cI, 24, .inl wv))] U.heap ∧ va_K (dC, dI) vwCl [(cI, .int), (cL, .long), (cZ, .boolean)] U)) (va_Ql (fun r (_ : Unit) => m_gather nv nc mt mf re x = some r) (fun _ _ => True) xN) 0 0 xN := by
  refine Met.ofW (cc := cX4_gather) (maxL := 10) (ret := (some .long)) (by decide) rfl ?_
  intro p e s m args below meth c s₁ B hml hvv
  obtain ⟨rfl, hP0, hK⟩ := hvv
  have hx := B.exec
  have hb := B.bytes
  have hr := B.returns
  have hts := atoms_spec (ws := wsX4_gather) B.pre
  have hown : s.vm.findClass RX4 = some m.cls := findClass_of_methodNamed B.named
  have hlocks := B.notSynchronized
  have hw0 : (.fieldLink RX4 75 "WeightedClausesModel" "clauses" "I" : Cond).before _ s = true := hts _ (List.mem_cons_of_mem _ wd_532)
  have hw1 : (.fieldLink RX4 45 "WeightedClausesModel" "variables" "I" : Cond).before _ s = true := hts _ (List.mem_cons_of_mem _ wd_531)
  have hw2 : (.fieldLink RX4 7 "WeightedClausesModel" "yes" "[I" : Cond).before _ s = true := hts _ (List.mem_cons_of_mem _ wd_533)
  have hw3 : (.fieldLink RX4 13 "WeightedClausesModel" "no" "[I" : Cond).before _ s = true := hts _ (List.mem_cons_of_mem _ wd_534)
  have hw4 : (.fieldLink RX4 27 "WeightedClausesModel" "reason" "[I" : Cond).before _ s = true := hts _ (List.mem_cons_of_mem _ wd_541)
  have hPr : va_P (dC, dI) vwCl [(ad 0, .inr (4, [.int co, .int (nI nv), .int (nI nc), .ref (ad 1), .ref (ad 2), .ref (ad 3), .int hp, .long bo, .int (nI su), .ref (ad 4), .ref (ad 5), .ref (ad 6), .int gh, .int gv, .int fo, .int bv, .long bc, .int nd, .int (nI lo), .ref (ad 7), .ref (ad 8), .ref (ad 9), .int (nI wa), .ref (ad 10), .ref (ad 11)])), (ad 1, .inl (cI, 40, .inl mt)), (ad 2, .inl (cI, 40, .inl mf)), (ad 3, .inl (cI, 40, .inl wt)), (ad 4, .inl (cL, 40, .inr (.inl ss))), (ad 5, .inl (cZ, 40, .inl av)), (ad 6, .inl (cI, 10, .inl re)), (ad 7, .inl (cI, 1024, .inl lh)), (ad 8, .inl (cI, 1024, .inl lw)), (ad 9, .inl (cL, 1024, .inr (.inl lb))), (ad 10, .inl (cI, 24, .inl wh)), (ad 11, .inl (cI, 24, .inl wv))] s.heap := hP0.sub [0, 1, 2, 3, 4, 5, 6, 7, 8, 9, 10, 11] rfl
  have hS : va_S xN s.heap s.heap [] := va_S.rf
  have hl := lv_entry [.ref (ad 0), .int x] (n := 10) (Nat.le_of_ble_eq_true rfl)
  rw [lg_entry_eq]
  generalize (lg_sl [.ref (ad 0), .int x] ++ List.replicate (10 - (lg_sl [.ref (ad 0), .int x]).length) Slot.unset).toArray = ls at hl ⊢
  have hl : lv_has ls 10 [(0, .ref (ad 0)), (1, .int x)] := hl
  have hF := Eq.refl (m_gather nv nc mt mf re x)
  conv at hF => rhs; unfold m_gather
  refine lv_lconst (v := 1) hx hb dX4_gather_0 (by decide) ?_
  refine lv_iload_n hx hb dX4_gather_1 rfl (lv_at hl 1 rfl) ?_
  refine lv_lshl (v := ((1 : Int64) <<< (x.toInt64 &&& 63))) hx hb dX4_gather_2 rfl ?_
  refine lv_lstore_n (lv' := [(2, .long ((1 : Int64) <<< (x.toInt64 &&& 63))), (0, .ref (ad 0)), (1, .int x)]) hx hb dX4_gather_3 rfl hl (by decide) rfl (fun ls hl => ?_)
  refine lv_iconst (v := 1) hx hb dX4_gather_4 (by decide) ?_
  refine lv_istore (lv' := [(4, .int 1), (2, .long ((1 : Int64) <<< (x.toInt64 &&& 63))), (0, .ref (ad 0)), (1, .int x)]) hx hb dX4_gather_5 hl (by decide) rfl (fun ls hl => ?_)
  have lp7 : ∀ (n : Nat) (bef : Int64) (mo : Int32) (H : Heap) (locs : List Loc) (ls : Array Slot), m_gather nv nc mt mf re x = m_gather_L nv nc mt mf re n bef mo → va_S xN s.heap H locs → lv_has ls 10 [(0, .ref (ad 0)), (2, .long bef), (4, .int mo)] → W p l e (headSpec wsX4_gather ({ frames := 0, cells := 0, slots := 0, locals := 0 })).room s m [.ref (ad 0), .int x].toArray below meth c H locs 0 0 (MQ below (va_Ql (fun r (_ : Unit) => m_gather nv nc mt mf re x = some r) (fun _ _ => True) xN) [.ref (ad 0), .int x].toArray s 0 0 xN) (F0 m 7 ls []) := by
    intro n
    induction n with
    | zero =>
      intro bef mo H locs ls hF  hS hl
      rw [m_gather_L] at hF
      obtain ⟨z, hz⟩ := hsome
      rw [hz] at hF
      cases hF
    | succ n ih =>
      intro bef mo H locs ls hF  hS hl
      rw [m_gather_L] at hF
      refine lv_iload hx hb dX4_gather_7 (lv_at hl 2 rfl) ?_
      refine lv_if_eq (tgt := 141) hx hb dX4_gather_9 (by decide) (fun h1 => ?_) (fun h1 => ?_)
      · have hF := hF.trans (if_pos h1)
        refine lv_lload_n hx hb dX4_gather_141 rfl (lv_at hl 1 rfl) ?_
        exact W.lret (v := bef) hx hb hr (fun t ht hW => ⟨⟨_, (), rfl, hF, trivial⟩, hS.F ht⟩) hS.2.2 dX4_gather_142
      · have hF := hF.trans (if_neg h1)
        refine lv_lload_n hx hb dX4_gather_12 rfl (lv_at hl 1 rfl) ?_
        refine lv_lstore (lv' := [(5, .long bef), (0, .ref (ad 0)), (2, .long bef), (4, .int mo)]) hx hb dX4_gather_13 hl (by decide) rfl (fun ls hl => ?_)
        refine lv_iconst (v := 0) hx hb dX4_gather_15 (by decide) ?_
        refine lv_istore (lv' := [(7, .int 0), (5, .long bef), (0, .ref (ad 0)), (2, .long bef), (4, .int mo)]) hx hb dX4_gather_16 hl (by decide) rfl (fun ls hl => ?_)
        have lp18 : ∀ (n : Nat) (i : Nat) (set2 : Int64) (set2a : Int64) (H : Heap) (locs : List Loc) (ls : Array Slot), set2a = m_gather_B nv mt mf re n i set2 → i + n = nc → va_S xN s.heap H locs → lv_has ls 10 [(0, .ref (ad 0)), (5, .long bef), (2, .long set2), (7, .int (nI i))] → (∀ (H : Heap) (locs : List Loc) (ls : Array Slot), va_S xN s.heap H locs → lv_has ls 10 [(0, .ref (ad 0)), (5, .long bef), (2, .long set2a)] → W p l e (headSpec wsX4_gather ({ frames := 0, cells := 0, slots := 0, locals := 0 })).room s m [.ref (ad 0), .int x].toArray below meth c H locs 0 0 (MQ below (va_Ql (fun r (_ : Unit) => m_gather nv nc mt mf re x = some r) (fun _ _ => True) xN) [.ref (ad 0), .int x].toArray s 0 0 xN) (F0 m 124 ls [])) → W p l e (headSpec wsX4_gather ({ frames := 0, cells := 0, slots := 0, locals := 0 })).room s m [.ref (ad 0), .int x].toArray below meth c H locs 0 0 (MQ below (va_Ql (fun r (_ : Unit) => m_gather nv nc mt mf re x = some r) (fun _ _ => True) xN) [.ref (ad 0), .int x].toArray s 0 0 xN) (F0 m 18 ls []) := by
          intro n
          induction n with
          | zero =>
            intro i set2 set2a H locs ls hF hil hS hl hkx
            rw [m_gather_B] at hF
            refine lv_iload hx hb dX4_gather_18 (lv_at hl 3 rfl) ?_
            refine lv_aload_n hx hb dX4_gather_20 rfl (lv_at hl 0 rfl) ?_
            have hR := xP0 hPr xnN hS
            refine va_get (D := (dC, dI)) (ci := 4) (v := .int (nI nc)) (C := RX4) (T := TX4) (N := 25) hx hb hts (xcons inX4) hown hK hR 0 rfl rfl 2 (by decide) hw0 (fun _ h9 => h9) rfl dX4_gather_21 ?_
            refine lv_icmp_ge (tgt := 124) hx hb dX4_gather_24 (by decide) (fun h2 => ?_) (fun h2 => absurd (nI_le (by omega) (by omega)) h2)
            subst hF
            exact hkx _ _ _ hS (lv_sub hl [0, 1, 2] rfl)
          | succ n ih =>
            intro i set2 set2a H locs ls hF hil hS hl hkx
            rw [m_gather_B] at hF
            refine lv_iload hx hb dX4_gather_18 (lv_at hl 3 rfl) ?_
            refine lv_aload_n hx hb dX4_gather_20 rfl (lv_at hl 0 rfl) ?_
            have hR := xP0 hPr xnN hS
            refine va_get (D := (dC, dI)) (ci := 4) (v := .int (nI nc)) (C := RX4) (T := TX4) (N := 25) hx hb hts (xcons inX4) hown hK hR 0 rfl rfl 2 (by decide) hw0 (fun _ h9 => h9) rfl dX4_gather_21 ?_
            refine lv_icmp_ge (tgt := 124) hx hb dX4_gather_24 (by decide) (fun h3 => absurd h3 (nI_ge (by omega) (by omega))) (fun h3 => ?_)
            refine lv_iconst (v := 0) hx hb dX4_gather_27 (by decide) ?_
            refine lv_istore (lv' := [(8, .int 0), (0, .ref (ad 0)), (5, .long bef), (2, .long set2), (7, .int (nI i))]) hx hb dX4_gather_28 hl (by decide) rfl (fun ls hl => ?_)
            have lp30 : ∀ (n : Nat) (j : Nat) (set3 : Int64) (set3b : Int64) (H : Heap) (locs : List Loc) (ls : Array Slot), set3b = m_gather_A mt mf re i n j set3 → j + n = nv → va_S xN s.heap H locs → lv_has ls 10 [(0, .ref (ad 0)), (5, .long bef), (7, .int (nI i)), (2, .long set3), (8, .int (nI j))] → (∀ (H : Heap) (locs : List Loc) (ls : Array Slot), va_S xN s.heap H locs → lv_has ls 10 [(0, .ref (ad 0)), (5, .long bef), (7, .int (nI i)), (2, .long set3b)] → W p l e (headSpec wsX4_gather ({ frames := 0, cells := 0, slots := 0, locals := 0 })).room s m [.ref (ad 0), .int x].toArray below meth c H locs 0 0 (MQ below (va_Ql (fun r (_ : Unit) => m_gather nv nc mt mf re x = some r) (fun _ _ => True) xN) [.ref (ad 0), .int x].toArray s 0 0 xN) (F0 m 118 ls [])) → W p l e (headSpec wsX4_gather ({ frames := 0, cells := 0, slots := 0, locals := 0 })).room s m [.ref (ad 0), .int x].toArray below meth c H locs 0 0 (MQ below (va_Ql (fun r (_ : Unit) => m_gather nv nc mt mf re x = some r) (fun _ _ => True) xN) [.ref (ad 0), .int x].toArray s 0 0 xN) (F0 m 30 ls []) := by
              intro n
              induction n with
              | zero =>
                intro j set3 set3b H locs ls hF hjl hS hl hkx
                rw [m_gather_A] at hF
                refine lv_iload hx hb dX4_gather_30 (lv_at hl 4 rfl) ?_
                refine lv_aload_n hx hb dX4_gather_32 rfl (lv_at hl 0 rfl) ?_
                have hR := xP0 hPr xnN hS
                refine va_get (D := (dC, dI)) (ci := 4) (v := .int (nI nv)) (C := RX4) (T := TX4) (N := 25) hx hb hts (xcons inX4) hown hK hR 0 rfl rfl 1 (by decide) hw1 (fun _ h9 => h9) rfl dX4_gather_33 ?_
                refine lv_icmp_ge (tgt := 118) hx hb dX4_gather_36 (by decide) (fun h4 => ?_) (fun h4 => absurd (nI_le (by omega) (by omega)) h4)
                subst hF
                exact hkx _ _ _ hS (lv_sub hl [0, 1, 2, 3] rfl)
              | succ n ih =>
                intro j set3 set3b H locs ls hF hjl hS hl hkx
                rw [m_gather_A] at hF
                refine lv_iload hx hb dX4_gather_30 (lv_at hl 4 rfl) ?_
                refine lv_aload_n hx hb dX4_gather_32 rfl (lv_at hl 0 rfl) ?_
                have hR := xP0 hPr xnN hS
                refine va_get (D := (dC, dI)) (ci := 4) (v := .int (nI nv)) (C := RX4) (T := TX4) (N := 25) hx hb hts (xcons inX4) hown hK hR 0 rfl rfl 1 (by decide) hw1 (fun _ h9 => h9) rfl dX4_gather_33 ?_
                refine lv_icmp_ge (tgt := 118) hx hb dX4_gather_36 (by decide) (fun h5 => absurd h5 (nI_ge (by omega) (by omega))) (fun h5 => ?_)
                refine lv_lload_n hx hb dX4_gather_39 rfl (lv_at hl 3 rfl) ?_
                refine lv_iload hx hb dX4_gather_40 (lv_at hl 2 rfl) ?_
                refine lv_lshr (v := (set3 >>> ((nI i).toInt64 &&& 63))) hx hb dX4_gather_42 rfl ?_
                refine lv_lconst (v := 1) hx hb dX4_gather_43 (by decide) ?_
                refine lv_land hx hb dX4_gather_44 ?_
                refine lv_lconst (v := 1) hx hb dX4_gather_45 (by decide) ?_
                refine W.lcmp hx hb dX4_gather_46 ?_
                refine lv_if_ne (tgt := 78) hx hb dX4_gather_47 (by decide) (fun h6 => ?_) (fun h6 => ?_)
                · have hF := hF.trans (if_neg h6)
                  refine lv_iconst (v := 0) hx hb dX4_gather_78 (by decide) ?_
                  refine lv_istore (lv' := [(9, .int 0), (0, .ref (ad 0)), (5, .long bef), (7, .int (nI i)), (2, .long set3), (8, .int (nI j))]) hx hb dX4_gather_79 hl (by decide) rfl (fun ls hl => ?_)
                  refine lv_iload hx hb dX4_gather_81 (lv_at hl 0 rfl) ?_
                  refine lv_if_eq (tgt := 110) hx hb dX4_gather_83 (by decide) (fun h7 => ?_) (fun h7 => absurd (by decide) h7)
                  refine lv_lload_n hx hb dX4_gather_110 rfl (lv_at hl 4 rfl) ?_
                  refine lv_lstore_n (lv' := [(2, .long set3), (9, .int 0), (0, .ref (ad 0)), (5, .long bef), (7, .int (nI i)), (8, .int (nI j))]) hx hb dX4_gather_111 rfl hl (by decide) rfl (fun ls hl => ?_)
                  refine lv_iinc (k := 5) (v := (nI (j + 1))) (lv' := [(8, .int (nI (j + 1))), (2, .long set3), (9, .int 0), (0, .ref (ad 0)), (5, .long bef), (7, .int (nI i))]) hx hb dX4_gather_112 hl rfl (xinc _) (by decide) rfl (fun ls hl => ?_)
                  refine lv_goto (tgt := 30) hx hb dX4_gather_115 (by decide) ?_
                  exact ih (j + 1) set3 set3b _ _ _ hF (by omega) hS (lv_sub hl [3, 4, 5, 1, 0] rfl) hkx
                · have hF := hF.trans (if_pos h6)
                  refine lv_aload_n hx hb dX4_gather_50 rfl (lv_at hl 0 rfl) ?_
                  refine va_get (D := (dC, dI)) (ci := 4) (v := .ref (ad 1)) (C := RX4) (T := TX4) (N := 25) hx hb hts (xcons inX4) hown hK hR 0 rfl rfl 3 (by decide) hw2 (fun _ h9 => h9) rfl dX4_gather_51 ?_
                  refine lv_iload hx hb dX4_gather_54 (lv_at hl 2 rfl) ?_
                  refine xr_iald hx hb hK hR 1 0 rfl rfl i (by omega) (by omega) dX4_gather_56 ?_
                  refine lv_aload_n hx hb dX4_gather_57 rfl (lv_at hl 0 rfl) ?_
                  refine va_get (D := (dC, dI)) (ci := 4) (v := .ref (ad 2)) (C := RX4) (T := TX4) (N := 25) hx hb hts (xcons inX4) hown hK hR 0 rfl rfl 4 (by decide) hw3 (fun _ h9 => h9) rfl dX4_gather_58 ?_
                  refine lv_iload hx hb dX4_gather_61 (lv_at hl 2 rfl) ?_
                  refine xr_iald hx hb hK hR 2 0 rfl rfl i (by omega) (by omega) dX4_gather_63 ?_
                  refine lv_ior hx hb dX4_gather_64 ?_
                  refine lv_iload hx hb dX4_gather_65 (lv_at hl 4 rfl) ?_
                  refine lv_ishr hx hb dX4_gather_67 ?_
                  refine lv_iconst (v := 1) hx hb dX4_gather_68 (by decide) ?_
                  refine lv_iand hx hb dX4_gather_69 ?_
                  refine lv_iconst (v := 1) hx hb dX4_gather_70 (by decide) ?_
                  refine lv_icmp_ne (tgt := 78) hx hb dX4_gather_71 (by decide) (fun h8 => ?_) (fun h8 => ?_)
                  · have hF := hF.trans (if_neg h8)
                    refine lv_iconst (v := 0) hx hb dX4_gather_78 (by decide) ?_
                    refine lv_istore (lv' := [(9, .int 0), (0, .ref (ad 0)), (5, .long bef), (7, .int (nI i)), (2, .long set3), (8, .int (nI j))]) hx hb dX4_gather_79 hl (by decide) rfl (fun ls hl => ?_)
                    refine lv_iload hx hb dX4_gather_81 (lv_at hl 0 rfl) ?_
                    refine lv_if_eq (tgt := 110) hx hb dX4_gather_83 (by decide) (fun h9 => ?_) (fun h9 => absurd (by decide) h9)
                    refine lv_lload_n hx hb dX4_gather_110 rfl (lv_at hl 4 rfl) ?_
                    refine lv_lstore_n (lv' := [(2, .long set3), (9, .int 0), (0, .ref (ad 0)), (5, .long bef), (7, .int (nI i)), (8, .int (nI j))]) hx hb dX4_gather_111 rfl hl (by decide) rfl (fun ls hl => ?_)
                    refine lv_iinc (k := 5) (v := (nI (j + 1))) (lv' := [(8, .int (nI (j + 1))), (2, .long set3), (9, .int 0), (0, .ref (ad 0)), (5, .long bef), (7, .int (nI i))]) hx hb dX4_gather_112 hl rfl (xinc _) (by decide) rfl (fun ls hl => ?_)
                    refine lv_goto (tgt := 30) hx hb dX4_gather_115 (by decide) ?_
                    exact ih (j + 1) set3 set3b _ _ _ hF (by omega) hS (lv_sub hl [3, 4, 5, 1, 0] rfl) hkx
                  · have hF := hF.trans (if_pos h8)
                    refine lv_iconst (v := 1) hx hb dX4_gather_74 (by decide) ?_
                    refine lv_goto (tgt := 79) hx hb dX4_gather_75 (by decide) ?_
                    refine lv_istore (lv' := [(9, .int 1), (0, .ref (ad 0)), (5, .long bef), (7, .int (nI i)), (2, .long set3), (8, .int (nI j))]) hx hb dX4_gather_79 hl (by decide) rfl (fun ls hl => ?_)
                    refine lv_iload hx hb dX4_gather_81 (lv_at hl 0 rfl) ?_
                    refine lv_if_eq (tgt := 110) hx hb dX4_gather_83 (by decide) (fun h10 => absurd h10 (by decide)) (fun h10 => ?_)
                    refine lv_aload_n hx hb dX4_gather_86 rfl (lv_at hl 1 rfl) ?_
                    refine va_get (D := (dC, dI)) (ci := 4) (v := .ref (ad 6)) (C := RX4) (T := TX4) (N := 25) hx hb hts (xcons inX4) hown hK hR 0 rfl rfl 11 (by decide) hw4 (fun _ h9 => h9) rfl dX4_gather_87 ?_
                    refine lv_iload hx hb dX4_gather_90 (lv_at hl 5 rfl) ?_
                    refine xr_iald hx hb hK hR 6 0 rfl rfl j (by omega) (by omega) dX4_gather_92 ?_
                    refine lv_if_lt (tgt := 110) hx hb dX4_gather_93 (by decide) (fun h11 => ?_) (fun h11 => ?_)
                    · have hF := hF.trans (if_pos h11)
                      refine lv_lload_n hx hb dX4_gather_110 rfl (lv_at hl 4 rfl) ?_
                      refine lv_lstore_n (lv' := [(2, .long set3), (9, .int 1), (0, .ref (ad 0)), (5, .long bef), (7, .int (nI i)), (8, .int (nI j))]) hx hb dX4_gather_111 rfl hl (by decide) rfl (fun ls hl => ?_)
                      refine lv_iinc (k := 5) (v := (nI (j + 1))) (lv' := [(8, .int (nI (j + 1))), (2, .long set3), (9, .int 1), (0, .ref (ad 0)), (5, .long bef), (7, .int (nI i))]) hx hb dX4_gather_112 hl rfl (xinc _) (by decide) rfl (fun ls hl => ?_)
                      refine lv_goto (tgt := 30) hx hb dX4_gather_115 (by decide) ?_
                      exact ih (j + 1) set3 set3b _ _ _ hF (by omega) hS (lv_sub hl [3, 4, 5, 1, 0] rfl) hkx
                    · have hF := hF.trans (if_neg h11)
                      refine lv_lload_n hx hb dX4_gather_96 rfl (lv_at hl 4 rfl) ?_
                      refine lv_lconst (v := 1) hx hb dX4_gather_97 (by decide) ?_
                      refine lv_aload_n hx hb dX4_gather_98 rfl (lv_at hl 1 rfl) ?_
                      refine va_get (D := (dC, dI)) (ci := 4) (v := .ref (ad 6)) (C := RX4) (T := TX4) (N := 25) hx hb hts (xcons inX4) hown hK hR 0 rfl rfl 11 (by decide) hw4 (fun _ h9 => h9) rfl dX4_gather_99 ?_
                      refine lv_iload hx hb dX4_gather_102 (lv_at hl 5 rfl) ?_
                      refine xr_iald hx hb hK hR 6 0 rfl rfl j (by omega) (by omega) dX4_gather_104 ?_
                      refine lv_lshl (v := ((1 : Int64) <<< ((re j).toInt64 &&& 63))) hx hb dX4_gather_105 rfl ?_
                      refine lv_lor hx hb dX4_gather_106 ?_
                      refine lv_goto (tgt := 111) hx hb dX4_gather_107 (by decide) ?_
                      refine lv_lstore_n (lv' := [(2, .long (set3 ||| ((1 : Int64) <<< ((re j).toInt64 &&& 63)))), (9, .int 1), (0, .ref (ad 0)), (5, .long bef), (7, .int (nI i)), (8, .int (nI j))]) hx hb dX4_gather_111 rfl hl (by decide) rfl (fun ls hl => ?_)
                      refine lv_iinc (k := 5) (v := (nI (j + 1))) (lv' := [(8, .int (nI (j + 1))), (2, .long (set3 ||| ((1 : Int64) <<< ((re j).toInt64 &&& 63)))), (9, .int 1), (0, .ref (ad 0)), (5, .long bef), (7, .int (nI i))]) hx hb dX4_gather_112 hl rfl (xinc _) (by decide) rfl (fun ls hl => ?_)
                      refine lv_goto (tgt := 30) hx hb dX4_gather_115 (by decide) ?_
                      exact ih (j + 1) (set3 ||| ((1 : Int64) <<< ((re j).toInt64 &&& 63))) set3b _ _ _ hF (by omega) hS (lv_sub hl [3, 4, 5, 1, 0] rfl) hkx
            obtain ⟨set3b, hq30⟩ : ∃ (set3b : Int64), set3b = m_gather_A mt mf re i nv 0 set2 := ⟨_, rfl⟩
            rw [← hq30] at hF
            try dsimp only at hF
            refine lp30 nv 0 set2 set3b _ _ _ hq30 (by omega) hS (lv_sub hl [1, 2, 4, 3, 0] rfl) (fun H locs ls hS hl => ?_)
            refine lv_iinc (k := 2) (v := (nI (i + 1))) (lv' := [(7, .int (nI (i + 1))), (0, .ref (ad 0)), (5, .long bef), (2, .long set3b)]) hx hb dX4_gather_118 hl rfl (xinc _) (by decide) rfl (fun ls hl => ?_)
            refine lv_goto (tgt := 18) hx hb dX4_gather_121 (by decide) ?_
            exact ih (i + 1) set3b set2a _ _ _ hF (by omega) hS (lv_sub hl [1, 2, 3, 0] rfl) hkx
        obtain ⟨set2a, hq18⟩ : ∃ (set2a : Int64), set2a = m_gather_B nv mt mf re nc 0 bef := ⟨_, rfl⟩
        rw [← hq18] at hF
        try dsimp only at hF
        refine lp18 nc 0 bef set2a _ _ _ hq18 (by omega) hS (lv_sub hl [2, 1, 3, 0] rfl) (fun H locs ls hS hl => ?_)
        refine lv_lload_n hx hb dX4_gather_124 rfl (lv_at hl 2 rfl) ?_
        refine lv_lload hx hb dX4_gather_125 (lv_at hl 1 rfl) ?_
        refine W.lcmp hx hb dX4_gather_127 ?_
        refine lv_if_eq (tgt := 135) hx hb dX4_gather_128 (by decide) (fun h12 => ?_) (fun h12 => ?_)
        · have hF := hF.trans (if_pos h12)
          refine lv_iconst (v := 0) hx hb dX4_gather_135 (by decide) ?_
          refine lv_istore (lv' := [(4, .int 0), (0, .ref (ad 0)), (5, .long bef), (2, .long set2a)]) hx hb dX4_gather_136 hl (by decide) rfl (fun ls hl => ?_)
          refine lv_goto (tgt := 7) hx hb dX4_gather_138 (by decide) ?_
          exact ih set2a 0 _ _ _ hF  hS (lv_sub hl [1, 3, 0] rfl)
        · have hF := hF.trans (if_neg h12)
          refine lv_iconst (v := 1) hx hb dX4_gather_131 (by decide) ?_
          refine lv_goto (tgt := 136) hx hb dX4_gather_132 (by decide) ?_
          refine lv_istore (lv' := [(4, .int 1), (0, .ref (ad 0)), (5, .long bef), (2, .long set2a)]) hx hb dX4_gather_136 hl (by decide) rfl (fun ls hl => ?_)
          refine lv_goto (tgt := 7) hx hb dX4_gather_138 (by decide) ?_
          exact ih set2a 1 _ _ _ hF  hS (lv_sub hl [1, 3, 0] rfl)
  exact lp7 42 ((1 : Int64) <<< (x.toInt64 &&& 63)) 1 _ _ _ hF  hS (lv_sub hl [2, 1, 0] rfl)
