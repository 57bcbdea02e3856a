def f_visitLeaf (av : Int32) (nc : Nat) (mt mf wt : Nat → Int32) (bc : Int64) (bv : Int32) (vl : Int32) : Int64 × Int32 :=
  if (lg_cmp (f_costOf nc mt mf wt av vl) (-2)) = 0 then
    (bc, bv)
  else
    if (f_hasBest bc) = 0 then
      ((f_costOf nc mt mf wt av vl), vl)
    else
      if 0 ≤ (lg_cmp (f_costOf nc mt mf wt av vl) bc) then
        (bc, bv)
      else
        ((f_costOf nc mt mf wt av vl), vl)
def f_branch (nv nc : Nat) (mt mf wh wv : Nat → Int32) (wc : Nat) (hv vl : Int32) : (Nat → Int32) × (Nat → Int32) × Nat :=
  if (f_firstLiteral nv nc mt mf hv vl) = (-1) then
    (wh, wv, wc)
  else
    if ((f_firstLiteral nv nc mt mf hv vl) &&& 1) = 0 then
      match (f_putWaiting wh wv wc (hv ||| ((1 : Int32) <<< (((f_firstLiteral nv nc mt mf hv vl) >>> (1 &&& 31)) &&& 31))) vl) with
      | (wh1_58, wv1_58, wc1_58) =>
        match (f_putWaiting wh1_58 wv1_58 wc1_58 (hv ||| ((1 : Int32) <<< (((f_firstLiteral nv nc mt mf hv vl) >>> (1 &&& 31)) &&& 31))) (vl ||| ((1 : Int32) <<< (((f_firstLiteral nv nc mt mf hv vl) >>> (1 &&& 31)) &&& 31)))) with
        | (wh1_77, wv1_77, wc1_77) =>
          (wh1_77, wv1_77, wc1_77)
    else
      match (f_putWaiting wh wv wc (hv ||| ((1 : Int32) <<< (((f_firstLiteral nv nc mt mf hv vl) >>> (1 &&& 31)) &&& 31))) (vl ||| ((1 : Int32) <<< (((f_firstLiteral nv nc mt mf hv vl) >>> (1 &&& 31)) &&& 31)))) with
      | (wh1_58, wv1_58, wc1_58) =>
        match (f_putWaiting wh1_58 wv1_58 wc1_58 (hv ||| ((1 : Int32) <<< (((f_firstLiteral nv nc mt mf hv vl) >>> (1 &&& 31)) &&& 31))) vl) with
        | (wh1_77, wv1_77, wc1_77) =>
          (wh1_77, wv1_77, wc1_77)
set_option maxHeartbeats 4000000 in
set_option maxRecDepth 100000 in
theorem c_visitLeaf (l : Launch) (dC : Nat → ClassId) (dI : Nat → Nat → Nat) (cI cL cZ : ClassId) (ad : Nat → Nat) (hinj : xI ad 15) (nv : Nat) (av : Int32) (nc : Nat) (mt mf wt : Nat → Int32) (lz : Nat) (nd : Int32) (lc : Nat) (bc : Int64) (bv : Int32) (lh lw : Nat → Int32) (lb : Nat → Int64) (wh wv : Nat → Int32) (wc : Nat) (hnc : nc ≤ 40) (vl : Int32) : Met l yX2_visitLeaf wsX2_visitLeaf ({ frames := 2, cells := 0, slots := 0, locals := 49 }) (va_Pc [.ref (ad 9), .int vl] (fun U => va_P (dC, dI) vwCl [(ad 1, .inr (1, [.int (nI nv), .int av, .int (nI nc), .ref (ad 2), .ref (ad 3), .ref (ad 4)])), (ad 2, .inl (cI, 40, .inl mt)), (ad 3, .inl (cI, 40, .inl mf)), (ad 4, .inl (cI, 40, .inl wt)), (ad 9, .inr (2, [.int nd, .int (nI lc), .long bc, .int bv, .ref (ad 10), .ref (ad 11), .ref (ad 12), .ref (ad 1), .ref (ad 5), .ref (ad 13), .ref (ad 14), .int (nI wc)])), (ad 10, .inl (cI, lz, .inl lh)), (ad 11, .inl (cI, lz, .inl lw)), (ad 12, .inl (cL, lz, .inr (.inl lb))), (ad 13, .inl (cI, 11, .inl wh)), (ad 14, .inl (cI, 11, .inl wv))] U.heap ∧ va_K (dC, dI) vwCl [(cI, .int), (cL, .long), (cZ, .boolean)] U)) (va_Qv (fun u => f_visitLeaf av nc mt mf wt bc bv vl = u) (xB (dC, dI) vwCl (fun (u : Int64 × Int32) => match u with | (bc1, bv1) => [(ad 9, .inr (2, [.int nd, .int (nI lc), .long bc1, .int bv1, .ref (ad 10), .ref (ad 11), .ref (ad 12), .ref (ad 1), .ref (ad 5), .ref (ad 13), .ref (ad 14), .int (nI wc)])), (ad 10, .inl (cI, lz, .inl lh)), (ad 11, .inl (cI, lz, .inl lw)), (ad 12, .inl (cL, lz, .inr (.inl lb))), (ad 13, .inl (cI, 11, .inl wh)), (ad 14, .inl (cI, 11, .inl wv))])) (xA ad [9, 10, 11, 12, 13, 14])) 0 0 (xA ad [9, 10, 11, 12, 13, 14]) := by
  refine Met.ofW (cc := cX2_visitLeaf) (maxL := 4) (ret := none) (by decide) rfl ?_
  intro p e s m args below meth c s₁ B hml hvv
  obtain ⟨rfl, hP0, hK⟩ := hvv
  have hx := B.exec
  have hb := B.bytes
  have hr := B.returns
  have hts := atoms_spec (ws := wsX2_visitLeaf) B.pre
  have hown : s.vm.findClass RX2 = some m.cls := findClass_of_methodNamed B.named
  have hlocks := B.notSynchronized
  have hw0 : (.fieldLink RX2 24 "WeightedClauses$Search" "formula" "LWeightedClauses$Formula;" : Cond).before _ s = true := hts _ (List.mem_cons_of_mem _ wd_148)
  have hw1 : (.fieldLink RX2 70 "WeightedClauses$Formula" "allVariables" "I" : Cond).before _ s = true := hts _ (List.mem_cons_of_mem _ wd_70)
  have hw2 : (.constantLong RX2 96 (-2) : Cond).before _ s = true := hts _ (List.mem_cons_of_mem _ wd_239)
  have hw3 : (.fieldLink RX2 11 "WeightedClauses$Search" "bestCost" "J" : Cond).before _ s = true := hts _ (List.mem_cons_of_mem _ wd_138)
  have hw4 : (.fieldLink RX2 54 "WeightedClauses$Search" "bestValues" "I" : Cond).before _ s = true := hts _ (List.mem_cons_of_mem _ wd_140)
  have hPr : va_P (dC, dI) vwCl [(ad 1, .inr (1, [.int (nI nv), .int av, .int (nI nc), .ref (ad 2), .ref (ad 3), .ref (ad 4)])), (ad 2, .inl (cI, 40, .inl mt)), (ad 3, .inl (cI, 40, .inl mf)), (ad 4, .inl (cI, 40, .inl wt))] s.heap := hP0.sub [0, 1, 2, 3] rfl
  have hP : va_P (dC, dI) vwCl [(ad 9, .inr (2, [.int nd, .int (nI lc), .long bc, .int bv, .ref (ad 10), .ref (ad 11), .ref (ad 12), .ref (ad 1), .ref (ad 5), .ref (ad 13), .ref (ad 14), .int (nI wc)])), (ad 10, .inl (cI, lz, .inl lh)), (ad 11, .inl (cI, lz, .inl lw)), (ad 12, .inl (cL, lz, .inr (.inl lb))), (ad 13, .inl (cI, 11, .inl wh)), (ad 14, .inl (cI, 11, .inl wv))] s.heap := hP0.sub [4, 5, 6, 7, 8, 9] rfl
  have hS : va_S (xA ad [9, 10, 11, 12, 13, 14]) s.heap s.heap [] := va_S.rf
  have hl := lv_entry [.ref (ad 9), .int vl] (n := 4) (Nat.le_of_ble_eq_true rfl)
  rw [lg_entry_eq]
  generalize (lg_sl [.ref (ad 9), .int vl] ++ List.replicate (4 - (lg_sl [.ref (ad 9), .int vl]).length) Slot.unset).toArray = ls at hl ⊢
  have hl : lv_has ls 4 [(0, .ref (ad 9)), (1, .int vl)] := hl
  have hF := Eq.refl (f_visitLeaf av nc mt mf wt bc bv vl)
  conv at hF => rhs; unfold f_visitLeaf
  refine lv_aload_n hx hb dX2_visitLeaf_0 rfl (lv_at hl 0 rfl) ?_
  refine va_get (D := (dC, dI)) (ci := 2) (v := .ref (ad 1)) (C := RX2) (T := TX2) (N := 12) hx hb hts (xcons inX2) hown hK hP 0 rfl rfl 7 (by decide) hw0 (fun _ h9 => h9) rfl dX2_visitLeaf_1 ?_
  refine lv_aload_n hx hb dX2_visitLeaf_4 rfl (lv_at hl 0 rfl) ?_
  refine va_get (D := (dC, dI)) (ci := 2) (v := .ref (ad 1)) (C := RX2) (T := TX2) (N := 12) hx hb hts (xcons inX2) hown hK hP 0 rfl rfl 7 (by decide) hw0 (fun _ h9 => h9) rfl dX2_visitLeaf_5 ?_
  have hR := xP0 hPr (xnA hinj [1, 2, 3, 4] rfl (by decide)) hS
  refine va_get (D := (dC, dI)) (ci := 1) (v := .int av) (C := RX1) (T := TX1) (N := 6) hx hb hts (xcons inX1) hown hK hR 0 rfl rfl 1 (by decide) hw1 (fun _ h9 => h9) rfl dX2_visitLeaf_8 ?_
  refine lv_iload_n hx hb dX2_visitLeaf_11 rfl (lv_at hl 1 rfl) ?_
  refine xro_l (va_runV (As := [.int av, .int vl]) (rest := []) ⟨hx, hb, hml, hown, hts⟩ (c_costOf l dC dI cI cL cZ ad hinj nv av nc mt mf wt (by omega) av vl) (xcwV 2 hts wd_233 wd_35 wd_230 wd_231 wd_232 rfl rfl (by decide +kernel) ⟨Nat.le_of_ble_eq_true rfl, Nat.le_of_ble_eq_true rfl⟩) (xpreV (va_recv hK hR rfl (q0 := 0) rfl) hR hK) rfl rfl hl.1 rfl (lv_room (Nat.le_of_ble_eq_true rfl)) dX2_visitLeaf_12 ⟨Nat.le_of_ble_eq_true rfl, Nat.le_of_ble_eq_true rfl⟩) hS (fun H locs hk hS => ?_)
  have hP := xkeep hP hk
  refine lv_lstore_n (lv' := [(2, .long (f_costOf nc mt mf wt av vl)), (0, .ref (ad 9)), (1, .int vl)]) hx hb dX2_visitLeaf_15 rfl hl (by decide) rfl (fun ls hl => ?_)
  refine lv_lload_n hx hb dX2_visitLeaf_16 rfl (lv_at hl 0 rfl) ?_
  refine lv_ldc2 hx hb hown hw2 dX2_visitLeaf_17 ?_
  refine W.lcmp hx hb dX2_visitLeaf_20 ?_
  refine lv_if_eq (tgt := 50) hx hb dX2_visitLeaf_21 (by decide) (fun h1 => ?_) (fun h1 => ?_)
  · have hF := hF.trans (if_pos h1)
    exact W.vret hx hb hr (fun t ht hW => ⟨⟨(bc, bv), rfl, hF, xBi ht hP⟩, hS.F ht⟩) hS.2.2 dX2_visitLeaf_50
  · have hF := hF.trans (if_neg h1)
    refine lv_aload_n hx hb dX2_visitLeaf_24 rfl (lv_at hl 1 rfl) ?_
    have hR := xP0 hPr (xnA hinj [1, 2, 3, 4] rfl (by decide)) hS
    refine xro_i (va_runV (As := []) (rest := []) ⟨hx, hb, hml, hown, hts⟩ (c_hasBest l dC dI cI cL cZ ad hinj lz nd lc bc bv lh lw lb wh wv wc) (xcwV 0 hts wd_243 wd_38 wd_240 wd_241 wd_242 rfl rfl (by decide +kernel) ⟨Nat.le_of_ble_eq_true rfl, Nat.le_of_ble_eq_true rfl⟩) (xpreV (va_recv hK hP rfl (q0 := 0) rfl) hP hK) rfl rfl hl.1 rfl (lv_room (Nat.le_of_ble_eq_true rfl)) dX2_visitLeaf_25 ⟨Nat.le_of_ble_eq_true rfl, Nat.le_of_ble_eq_true rfl⟩) hS (fun H locs hk hS => ?_)
    have hP := xkeep hP hk
    refine lv_if_eq (tgt := 40) hx hb dX2_visitLeaf_28 (by decide) (fun h2 => ?_) (fun h2 => ?_)
    · have hF := hF.trans (if_pos h2)
      refine lv_aload_n hx hb dX2_visitLeaf_40 rfl (lv_at hl 1 rfl) ?_
      refine lv_lload_n hx hb dX2_visitLeaf_41 rfl (lv_at hl 0 rfl) ?_
      refine va_put (D := (dC, dI)) (ci := 2) (v := .long (f_costOf nc mt mf wt av vl)) (ty := .long) (C := RX2) (T := TX2) (N := 12) hx hb hts (xcons inX2) tyX2 tyX2_ok nX2 hown hK hP (xD hinj [9, 10, 11, 12, 13, 14] rfl (by decide) (by decide)) hS 0 rfl rfl 2 (by decide) hw3 (fun _ h9 => h9) rfl (by decide +kernel) rfl rfl (Nat.le_of_ble_eq_true rfl) dX2_visitLeaf_42 (fun H locs hP _ hS => ?_)
      have hP : va_P (dC, dI) vwCl [(ad 9, .inr (2, [.int nd, .int (nI lc), .long (f_costOf nc mt mf wt av vl), .int bv, .ref (ad 10), .ref (ad 11), .ref (ad 12), .ref (ad 1), .ref (ad 5), .ref (ad 13), .ref (ad 14), .int (nI wc)])), (ad 10, .inl (cI, lz, .inl lh)), (ad 11, .inl (cI, lz, .inl lw)), (ad 12, .inl (cL, lz, .inr (.inl lb))), (ad 13, .inl (cI, 11, .inl wh)), (ad 14, .inl (cI, 11, .inl wv))] H := hP
      refine lv_aload_n hx hb dX2_visitLeaf_45 rfl (lv_at hl 1 rfl) ?_
      refine lv_iload_n hx hb dX2_visitLeaf_46 rfl (lv_at hl 2 rfl) ?_
      refine va_put (D := (dC, dI)) (ci := 2) (v := .int vl) (ty := .int) (C := RX2) (T := TX2) (N := 12) hx hb hts (xcons inX2) tyX2 tyX2_ok nX2 hown hK hP (xD hinj [9, 10, 11, 12, 13, 14] rfl (by decide) (by decide)) hS 0 rfl rfl 3 (by decide) hw4 (fun _ h9 => h9) rfl (by decide +kernel) rfl rfl (Nat.le_of_ble_eq_true rfl) dX2_visitLeaf_47 (fun H locs hP _ hS => ?_)
      have hP : va_P (dC, dI) vwCl [(ad 9, .inr (2, [.int nd, .int (nI lc), .long (f_costOf nc mt mf wt av vl), .int vl, .ref (ad 10), .ref (ad 11), .ref (ad 12), .ref (ad 1), .ref (ad 5), .ref (ad 13), .ref (ad 14), .int (nI wc)])), (ad 10, .inl (cI, lz, .inl lh)), (ad 11, .inl (cI, lz, .inl lw)), (ad 12, .inl (cL, lz, .inr (.inl lb))), (ad 13, .inl (cI, 11, .inl wh)), (ad 14, .inl (cI, 11, .inl wv))] H := hP
      exact W.vret hx hb hr (fun t ht hW => ⟨⟨((f_costOf nc mt mf wt av vl), vl), rfl, hF, xBi ht hP⟩, hS.F ht⟩) hS.2.2 dX2_visitLeaf_50
    · have hF := hF.trans (if_neg h2)
      refine lv_lload_n hx hb dX2_visitLeaf_31 rfl (lv_at hl 0 rfl) ?_
      refine lv_aload_n hx hb dX2_visitLeaf_32 rfl (lv_at hl 1 rfl) ?_
      refine va_get (D := (dC, dI)) (ci := 2) (v := .long bc) (C := RX2) (T := TX2) (N := 12) hx hb hts (xcons inX2) hown hK hP 0 rfl rfl 2 (by decide) hw3 (fun _ h9 => h9) rfl dX2_visitLeaf_33 ?_
      refine W.lcmp hx hb dX2_visitLeaf_36 ?_
      refine lv_if_ge (tgt := 50) hx hb dX2_visitLeaf_37 (by decide) (fun h3 => ?_) (fun h3 => ?_)
      · have hF := hF.trans (if_pos h3)
        exact W.vret hx hb hr (fun t ht hW => ⟨⟨(bc, bv), rfl, hF, xBi ht hP⟩, hS.F ht⟩) hS.2.2 dX2_visitLeaf_50
      · have hF := hF.trans (if_neg h3)
        refine lv_aload_n hx hb dX2_visitLeaf_40 rfl (lv_at hl 1 rfl) ?_
        refine lv_lload_n hx hb dX2_visitLeaf_41 rfl (lv_at hl 0 rfl) ?_
        refine va_put (D := (dC, dI)) (ci := 2) (v := .long (f_costOf nc mt mf wt av vl)) (ty := .long) (C := RX2) (T := TX2) (N := 12) hx hb hts (xcons inX2) tyX2 tyX2_ok nX2 hown hK hP (xD hinj [9, 10, 11, 12, 13, 14] rfl (by decide) (by decide)) hS 0 rfl rfl 2 (by decide) hw3 (fun _ h9 => h9) rfl (by decide +kernel) rfl rfl (Nat.le_of_ble_eq_true rfl) dX2_visitLeaf_42 (fun H locs hP _ hS => ?_)
        have hP : va_P (dC, dI) vwCl [(ad 9, .inr (2, [.int nd, .int (nI lc), .long (f_costOf nc mt mf wt av vl), .int bv, .ref (ad 10), .ref (ad 11), .ref (ad 12), .ref (ad 1), .ref (ad 5), .ref (ad 13), .ref (ad 14), .int (nI wc)])), (ad 10, .inl (cI, lz, .inl lh)), (ad 11, .inl (cI, lz, .inl lw)), (ad 12, .inl (cL, lz, .inr (.inl lb))), (ad 13, .inl (cI, 11, .inl wh)), (ad 14, .inl (cI, 11, .inl wv))] H := hP
        refine lv_aload_n hx hb dX2_visitLeaf_45 rfl (lv_at hl 1 rfl) ?_
        refine lv_iload_n hx hb dX2_visitLeaf_46 rfl (lv_at hl 2 rfl) ?_
        refine va_put (D := (dC, dI)) (ci := 2) (v := .int vl) (ty := .int) (C := RX2) (T := TX2) (N := 12) hx hb hts (xcons inX2) tyX2 tyX2_ok nX2 hown hK hP (xD hinj [9, 10, 11, 12, 13, 14] rfl (by decide) (by decide)) hS 0 rfl rfl 3 (by decide) hw4 (fun _ h9 => h9) rfl (by decide +kernel) rfl rfl (Nat.le_of_ble_eq_true rfl) dX2_visitLeaf_47 (fun H locs hP _ hS => ?_)
        have hP : va_P (dC, dI) vwCl [(ad 9, .inr (2, [.int nd, .int (nI lc), .long (f_costOf nc mt mf wt av vl), .int vl, .ref (ad 10), .ref (ad 11), .ref (ad 12), .ref (ad 1), .ref (ad 5), .ref (ad 13), .ref (ad 14), .int (nI wc)])), (ad 10, .inl (cI, lz, .inl lh)), (ad 11, .inl (cI, lz, .inl lw)), (ad 12, .inl (cL, lz, .inr (.inl lb))), (ad 13, .inl (cI, 11, .inl wh)), (ad 14, .inl (cI, 11, .inl wv))] H := hP
        exact W.vret hx hb hr (fun t ht hW => ⟨⟨((f_costOf nc mt mf wt av vl), vl), rfl, hF, xBi ht hP⟩, hS.F ht⟩) hS.2.2 dX2_visitLeaf_50
set_option maxHeartbeats 4000000 in
set_option maxRecDepth 100000 in
theorem c_branch (l : Launch) (dC : Nat → ClassId) (dI : Nat → Nat → Nat) (cI cL cZ : ClassId) (ad : Nat → Nat) (hinj : xI ad 15) (nv : Nat) (av : Int32) (nc : Nat) (mt mf wt : Nat → Int32) (lz : Nat) (nd : Int32) (lc : Nat) (bc : Int64) (bv : Int32) (lh lw : Nat → Int32) (lb : Nat → Int64) (wh wv : Nat → Int32) (wc : Nat) (hnc : nc ≤ 40) (hnv : nv ≤ 10) (hwc : wc ≤ 11) (hv vl : Int32) : Met l yX2_branch wsX2_branch ({ frames := 3, cells := 0, slots := 0, locals := 77 }) (va_Pc [.ref (ad 9), .int hv, .int vl] (fun U => va_P (dC, dI) vwCl [(ad 1, .inr (1, [.int (nI nv), .int av, .int (nI nc), .ref (ad 2), .ref (ad 3), .ref (ad 4)])), (ad 2, .inl (cI, 40, .inl mt)), (ad 3, .inl (cI, 40, .inl mf)), (ad 4, .inl (cI, 40, .inl wt)), (ad 9, .inr (2, [.int nd, .int (nI lc), .long bc, .int bv, .ref (ad 10), .ref (ad 11), .ref (ad 12), .ref (ad 1), .ref (ad 5), .ref (ad 13), .ref (ad 14), .int (nI wc)])), (ad 10, .inl (cI, lz, .inl lh)), (ad 11, .inl (cI, lz, .inl lw)), (ad 12, .inl (cL, lz, .inr (.inl lb))), (ad 13, .inl (cI, 11, .inl wh)), (ad 14, .inl (cI, 11, .inl wv))] U.heap ∧ va_K (dC, dI) vwCl [(cI, .int), (cL, .long), (cZ, .boolean)] U)) (va_Qv (fun u => f_branch nv nc mt mf wh wv wc hv vl = u) (xB (dC, dI) vwCl (fun (u : (Nat → Int32) × (Nat → Int32) × Nat) => match u with | (wh1, wv1, wc1) => [(ad 9, .inr (2, [.int nd, .int (nI lc), .long bc, .int bv, .ref (ad 10), .ref (ad 11), .ref (ad 12), .ref (ad 1), .ref (ad 5), .ref (ad 13), .ref (ad 14), .int (nI wc1)])), (ad 10, .inl (cI, lz, .inl lh)), (ad 11, .inl (cI, lz, .inl lw)), (ad 12, .inl (cL, lz, .inr (.inl lb))), (ad 13, .inl (cI, 11, .inl wh1)), (ad 14, .inl (cI, 11, .inl wv1))])) (xA ad [9, 10, 11, 12, 13, 14])) 0 0 (xA ad [9, 10, 11, 12, 13, 14]) := by
  refine Met.ofW (cc := cX2_branch) (maxL := 7) (ret := none) (by decide) rfl ?_
  intro p e s m args below meth c s₁ B hml hvv
  obtain ⟨rfl, hP0, hK⟩ := hvv
  have hx := B.exec
  have hb := B.bytes
  have hr := B.returns
  have hts := atoms_spec (ws := wsX2_branch) B.pre
  have hown : s.vm.findClass RX2 = some m.cls := findClass_of_methodNamed B.named
  have hlocks := B.notSynchronized
  have hw0 : (.fieldLink RX2 24 "WeightedClauses$Search" "formula" "LWeightedClauses$Formula;" : Cond).before _ s = true := hts _ (List.mem_cons_of_mem _ wd_148)
  have hPr : va_P (dC, dI) vwCl [(ad 1, .inr (1, [.int (nI nv), .int av, .int (nI nc), .ref (ad 2), .ref (ad 3), .ref (ad 4)])), (ad 2, .inl (cI, 40, .inl mt)), (ad 3, .inl (cI, 40, .inl mf)), (ad 4, .inl (cI, 40, .inl wt))] s.heap := hP0.sub [0, 1, 2, 3] rfl
  have hP : va_P (dC, dI) vwCl [(ad 9, .inr (2, [.int nd, .int (nI lc), .long bc, .int bv, .ref (ad 10), .ref (ad 11), .ref (ad 12), .ref (ad 1), .ref (ad 5), .ref (ad 13), .ref (ad 14), .int (nI wc)])), (ad 10, .inl (cI, lz, .inl lh)), (ad 11, .inl (cI, lz, .inl lw)), (ad 12, .inl (cL, lz, .inr (.inl lb))), (ad 13, .inl (cI, 11, .inl wh)), (ad 14, .inl (cI, 11, .inl wv))] s.heap := hP0.sub [4, 5, 6, 7, 8, 9] rfl
  have hS : va_S (xA ad [9, 10, 11, 12, 13, 14]) s.heap s.heap [] := va_S.rf
  have hl := lv_entry [.ref (ad 9), .int hv, .int vl] (n := 7) (Nat.le_of_ble_eq_true rfl)
  rw [lg_entry_eq]
  generalize (lg_sl [.ref (ad 9), .int hv, .int vl] ++ List.replicate (7 - (lg_sl [.ref (ad 9), .int hv, .int vl]).length) Slot.unset).toArray = ls at hl ⊢
  have hl : lv_has ls 7 [(0, .ref (ad 9)), (1, .int hv), (2, .int vl)] := hl
  have hF := Eq.refl (f_branch nv nc mt mf wh wv wc hv vl)
  conv at hF => rhs; unfold f_branch
  refine lv_aload_n hx hb dX2_branch_0 rfl (lv_at hl 0 rfl) ?_
  refine va_get (D := (dC, dI)) (ci := 2) (v := .ref (ad 1)) (C := RX2) (T := TX2) (N := 12) hx hb hts (xcons inX2) hown hK hP 0 rfl rfl 7 (by decide) hw0 (fun _ h9 => h9) rfl dX2_branch_1 ?_
  refine lv_iload_n hx hb dX2_branch_4 rfl (lv_at hl 1 rfl) ?_
  refine lv_iload_n hx hb dX2_branch_5 rfl (lv_at hl 2 rfl) ?_
  have hR := xP0 hPr (xnA hinj [1, 2, 3, 4] rfl (by decide)) hS
  refine xro_i (va_runV (As := [.int hv, .int vl]) (rest := []) ⟨hx, hb, hml, hown, hts⟩ (c_firstLiteral l dC dI cI cL cZ ad hinj nv av nc mt mf wt (by omega) (by omega) hv vl) (xcwV 2 hts wd_323 wd_35 wd_320 wd_321 wd_322 rfl rfl (by decide +kernel) ⟨Nat.le_of_ble_eq_true rfl, Nat.le_of_ble_eq_true rfl⟩) (xpreV (va_recv hK hR rfl (q0 := 0) rfl) hR hK) rfl rfl hl.1 rfl (lv_room (Nat.le_of_ble_eq_true rfl)) dX2_branch_6 ⟨Nat.le_of_ble_eq_true rfl, Nat.le_of_ble_eq_true rfl⟩) hS (fun H locs hk hS => ?_)
  have hP := xkeep hP hk
  refine lv_istore_n (lv' := [(3, .int (f_firstLiteral nv nc mt mf hv vl)), (0, .ref (ad 9)), (1, .int hv), (2, .int vl)]) hx hb dX2_branch_9 rfl hl (by decide) rfl (fun ls hl => ?_)
  refine lv_iload_n hx hb dX2_branch_10 rfl (lv_at hl 0 rfl) ?_
  refine lv_iconst (v := (-1)) hx hb dX2_branch_11 (by decide) ?_
  refine lv_icmp_ne (tgt := 16) hx hb dX2_branch_12 (by decide) (fun h1 => ?_) (fun h1 => ?_)
  · have hF := hF.trans (if_neg h1)
    refine lv_iconst (v := 1) hx hb dX2_branch_16 (by decide) ?_
    refine lv_iload_n hx hb dX2_branch_17 rfl (lv_at hl 0 rfl) ?_
    refine lv_iconst (v := 1) hx hb dX2_branch_18 (by decide) ?_
    refine lv_ishr hx hb dX2_branch_19 ?_
    refine lv_ishl hx hb dX2_branch_20 ?_
    refine lv_istore (lv' := [(4, .int ((1 : Int32) <<< (((f_firstLiteral nv nc mt mf hv vl) >>> (1 &&& 31)) &&& 31))), (3, .int (f_firstLiteral nv nc mt mf hv vl)), (0, .ref (ad 9)), (1, .int hv), (2, .int vl)]) hx hb dX2_branch_21 hl (by decide) rfl (fun ls hl => ?_)
    refine lv_iload_n hx hb dX2_branch_23 rfl (lv_at hl 4 rfl) ?_
    refine lv_iload hx hb dX2_branch_24 (lv_at hl 0 rfl) ?_
    refine lv_ior hx hb dX2_branch_26 ?_
    refine lv_istore (lv' := [(5, .int (vl ||| ((1 : Int32) <<< (((f_firstLiteral nv nc mt mf hv vl) >>> (1 &&& 31)) &&& 31)))), (4, .int ((1 : Int32) <<< (((f_firstLiteral nv nc mt mf hv vl) >>> (1 &&& 31)) &&& 31))), (3, .int (f_firstLiteral nv nc mt mf hv vl)), (0, .ref (ad 9)), (1, .int hv), (2, .int vl)]) hx hb dX2_branch_27 hl (by decide) rfl (fun ls hl => ?_)
    refine lv_iload_n hx hb dX2_branch_29 rfl (lv_at hl 2 rfl) ?_
    refine lv_iconst (v := 1) hx hb dX2_branch_30 (by decide) ?_
    refine lv_iand hx hb dX2_branch_31 ?_
    refine lv_if_ne (tgt := 39) hx hb dX2_branch_32 (by decide) (fun h2 => ?_) (fun h2 => ?_)
    · have hF := hF.trans (if_neg h2)
      refine lv_iconst (v := 0) hx hb dX2_branch_39 (by decide) ?_
      refine lv_istore (lv' := [(6, .int 0), (5, .int (vl ||| ((1 : Int32) <<< (((f_firstLiteral nv nc mt mf hv vl) >>> (1 &&& 31)) &&& 31)))), (4, .int ((1 : Int32) <<< (((f_firstLiteral nv nc mt mf hv vl) >>> (1 &&& 31)) &&& 31))), (3, .int (f_firstLiteral nv nc mt mf hv vl)), (0, .ref (ad 9)), (1, .int hv), (2, .int vl)]) hx hb dX2_branch_40 hl (by decide) rfl (fun ls hl => ?_)
      refine lv_aload_n hx hb dX2_branch_42 rfl (lv_at hl 4 rfl) ?_
      refine lv_iload_n hx hb dX2_branch_43 rfl (lv_at hl 5 rfl) ?_
      refine lv_iload hx hb dX2_branch_44 (lv_at hl 2 rfl) ?_
      refine lv_ior hx hb dX2_branch_46 ?_
      refine lv_iload hx hb dX2_branch_47 (lv_at hl 0 rfl) ?_
      refine lv_if_eq (tgt := 56) hx hb dX2_branch_49 (by decide) (fun h3 => ?_) (fun h3 => absurd (by decide) h3)
      refine lv_iload hx hb dX2_branch_56 (lv_at hl 1 rfl) ?_
      have hR := xP0 hPr (xnA hinj [1, 2, 3, 4] rfl (by decide)) hS
      refine xrw_v (va_runV (As := [.int (hv ||| ((1 : Int32) <<< (((f_firstLiteral nv nc mt mf hv vl) >>> (1 &&& 31)) &&& 31))), .int (vl ||| ((1 : Int32) <<< (((f_firstLiteral nv nc mt mf hv vl) >>> (1 &&& 31)) &&& 31)))]) (rest := []) ⟨hx, hb, hml, hown, hts⟩ (c_putWaiting l dC dI cI cL cZ ad hinj lz nd lc bc bv lh lw lb wh wv wc (by omega) (hv ||| ((1 : Int32) <<< (((f_firstLiteral nv nc mt mf hv vl) >>> (1 &&& 31)) &&& 31))) (vl ||| ((1 : Int32) <<< (((f_firstLiteral nv nc mt mf hv vl) >>> (1 &&& 31)) &&& 31)))) (xcwV 2 hts wd_221 wd_38 wd_218 wd_220 wd_0 rfl rfl (by decide +kernel) ⟨Nat.le_of_ble_eq_true rfl, Nat.le_of_ble_eq_true rfl⟩) (xpreV (va_recv hK hP rfl (q0 := 0) rfl) hP hK) rfl rfl hl.1 rfl (lv_room (Nat.le_of_ble_eq_true rfl)) dX2_branch_58 ⟨Nat.le_of_ble_eq_true rfl, Nat.le_of_ble_eq_true rfl⟩) hS (xAsub (by decide)) (fun u H locs h4 hB hk hS => ?_)
      obtain ⟨wh1_58, wv1_58, wc1_58⟩ := u
      have hP : va_P (dC, dI) vwCl [(ad 9, .inr (2, [.int nd, .int (nI lc), .long bc, .int bv, .ref (ad 10), .ref (ad 11), .ref (ad 12), .ref (ad 1), .ref (ad 5), .ref (ad 13), .ref (ad 14), .int (nI wc1_58)])), (ad 10, .inl (cI, lz, .inl lh)), (ad 11, .inl (cI, lz, .inl lw)), (ad 12, .inl (cL, lz, .inr (.inl lb))), (ad 13, .inl (cI, 11, .inl wh1_58)), (ad 14, .inl (cI, 11, .inl wv1_58))] H := va_P.sub hB [0, 1, 2, 3, 4, 5] rfl
      rw [h4] at hF
      try dsimp only at hF
      have hwc1 := putWaiting_ok h4 hwc
      refine lv_aload_n hx hb dX2_branch_61 rfl (lv_at hl 4 rfl) ?_
      refine lv_iload_n hx hb dX2_branch_62 rfl (lv_at hl 5 rfl) ?_
      refine lv_iload hx hb dX2_branch_63 (lv_at hl 2 rfl) ?_
      refine lv_ior hx hb dX2_branch_65 ?_
      refine lv_iload hx hb dX2_branch_66 (lv_at hl 0 rfl) ?_
      refine lv_if_eq (tgt := 76) hx hb dX2_branch_68 (by decide) (fun h5 => ?_) (fun h5 => absurd (by decide) h5)
      refine lv_iload_n hx hb dX2_branch_76 rfl (lv_at hl 6 rfl) ?_
      have hR := xP0 hPr (xnA hinj [1, 2, 3, 4] rfl (by decide)) hS
      refine xrw_v (va_runV (As := [.int (hv ||| ((1 : Int32) <<< (((f_firstLiteral nv nc mt mf hv vl) >>> (1 &&& 31)) &&& 31))), .int vl]) (rest := []) ⟨hx, hb, hml, hown, hts⟩ (c_putWaiting l dC dI cI cL cZ ad hinj lz nd lc bc bv lh lw lb wh1_58 wv1_58 wc1_58 hwc1 (hv ||| ((1 : Int32) <<< (((f_firstLiteral nv nc mt mf hv vl) >>> (1 &&& 31)) &&& 31))) vl) (xcwV 2 hts wd_221 wd_38 wd_218 wd_220 wd_0 rfl rfl (by decide +kernel) ⟨Nat.le_of_ble_eq_true rfl, Nat.le_of_ble_eq_true rfl⟩) (xpreV (va_recv hK hP rfl (q0 := 0) rfl) hP hK) rfl rfl hl.1 rfl (lv_room (Nat.le_of_ble_eq_true rfl)) dX2_branch_77 ⟨Nat.le_of_ble_eq_true rfl, Nat.le_of_ble_eq_true rfl⟩) hS (xAsub (by decide)) (fun u H locs h6 hB hk hS => ?_)
      obtain ⟨wh1_77, wv1_77, wc1_77⟩ := u
      have hP : va_P (dC, dI) vwCl [(ad 9, .inr (2, [.int nd, .int (nI lc), .long bc, .int bv, .ref (ad 10), .ref (ad 11), .ref (ad 12), .ref (ad 1), .ref (ad 5), .ref (ad 13), .ref (ad 14), .int (nI wc1_77)])), (ad 10, .inl (cI, lz, .inl lh)), (ad 11, .inl (cI, lz, .inl lw)), (ad 12, .inl (cL, lz, .inr (.inl lb))), (ad 13, .inl (cI, 11, .inl wh1_77)), (ad 14, .inl (cI, 11, .inl wv1_77))] H := va_P.sub hB [0, 1, 2, 3, 4, 5] rfl
      rw [h6] at hF
      try dsimp only at hF
      exact W.vret hx hb hr (fun t ht hW => ⟨⟨(wh1_77, wv1_77, wc1_77), rfl, hF, xBi ht hP⟩, hS.F ht⟩) hS.2.2 dX2_branch_80
    · have hF := hF.trans (if_pos h2)
      refine lv_iconst (v := 1) hx hb dX2_branch_35 (by decide) ?_
      refine lv_goto (tgt := 40) hx hb dX2_branch_36 (by decide) ?_
      refine lv_istore (lv' := [(6, .int 1), (5, .int (vl ||| ((1 : Int32) <<< (((f_firstLiteral nv nc mt mf hv vl) >>> (1 &&& 31)) &&& 31)))), (4, .int ((1 : Int32) <<< (((f_firstLiteral nv nc mt mf hv vl) >>> (1 &&& 31)) &&& 31))), (3, .int (f_firstLiteral nv nc mt mf hv vl)), (0, .ref (ad 9)), (1, .int hv), (2, .int vl)]) hx hb dX2_branch_40 hl (by decide) rfl (fun ls hl => ?_)
      refine lv_aload_n hx hb dX2_branch_42 rfl (lv_at hl 4 rfl) ?_
      refine lv_iload_n hx hb dX2_branch_43 rfl (lv_at hl 5 rfl) ?_
      refine lv_iload hx hb dX2_branch_44 (lv_at hl 2 rfl) ?_
      refine lv_ior hx hb dX2_branch_46 ?_
      refine lv_iload hx hb dX2_branch_47 (lv_at hl 0 rfl) ?_
      refine lv_if_eq (tgt := 56) hx hb dX2_branch_49 (by decide) (fun h7 => absurd h7 (by decide)) (fun h7 => ?_)
      refine lv_iload_n hx hb dX2_branch_52 rfl (lv_at hl 6 rfl) ?_
      refine lv_goto (tgt := 58) hx hb dX2_branch_53 (by decide) ?_
      have hR := xP0 hPr (xnA hinj [1, 2, 3, 4] rfl (by decide)) hS
      refine xrw_v (va_runV (As := [.int (hv ||| ((1 : Int32) <<< (((f_firstLiteral nv nc mt mf hv vl) >>> (1 &&& 31)) &&& 31))), .int vl]) (rest := []) ⟨hx, hb, hml, hown, hts⟩ (c_putWaiting l dC dI cI cL cZ ad hinj lz nd lc bc bv lh lw lb wh wv wc (by omega) (hv ||| ((1 : Int32) <<< (((f_firstLiteral nv nc mt mf hv vl) >>> (1 &&& 31)) &&& 31))) vl) (xcwV 2 hts wd_221 wd_38 wd_218 wd_220 wd_0 rfl rfl (by decide +kernel) ⟨Nat.le_of_ble_eq_true rfl, Nat.le_of_ble_eq_true rfl⟩) (xpreV (va_recv hK hP rfl (q0 := 0) rfl) hP hK) rfl rfl hl.1 rfl (lv_room (Nat.le_of_ble_eq_true rfl)) dX2_branch_58 ⟨Nat.le_of_ble_eq_true rfl, Nat.le_of_ble_eq_true rfl⟩) hS (xAsub (by decide)) (fun u H locs h8 hB hk hS => ?_)
      obtain ⟨wh1_58, wv1_58, wc1_58⟩ := u
      have hP : va_P (dC, dI) vwCl [(ad 9, .inr (2, [.int nd, .int (nI lc), .long bc, .int bv, .ref (ad 10), .ref (ad 11), .ref (ad 12), .ref (ad 1), .ref (ad 5), .ref (ad 13), .ref (ad 14), .int (nI wc1_58)])), (ad 10, .inl (cI, lz, .inl lh)), (ad 11, .inl (cI, lz, .inl lw)), (ad 12, .inl (cL, lz, .inr (.inl lb))), (ad 13, .inl (cI, 11, .inl wh1_58)), (ad 14, .inl (cI, 11, .inl wv1_58))] H := va_P.sub hB [0, 1, 2, 3, 4, 5] rfl
      rw [h8] at hF
      try dsimp only at hF
      have hwc1 := putWaiting_ok h8 hwc
      refine lv_aload_n hx hb dX2_branch_61 rfl (lv_at hl 4 rfl) ?_
      refine lv_iload_n hx hb dX2_branch_62 rfl (lv_at hl 5 rfl) ?_
      refine lv_iload hx hb dX2_branch_63 (lv_at hl 2 rfl) ?_
      refine lv_ior hx hb dX2_branch_65 ?_
      refine lv_iload hx hb dX2_branch_66 (lv_at hl 0 rfl) ?_
      refine lv_if_eq (tgt := 76) hx hb dX2_branch_68 (by decide) (fun h9 => absurd h9 (by decide)) (fun h9 => ?_)
      refine lv_iload hx hb dX2_branch_71 (lv_at hl 1 rfl) ?_
      refine lv_goto (tgt := 77) hx hb dX2_branch_73 (by decide) ?_
      have hR := xP0 hPr (xnA hinj [1, 2, 3, 4] rfl (by decide)) hS
      refine xrw_v (va_runV (As := [.int (hv ||| ((1 : Int32) <<< (((f_firstLiteral nv nc mt mf hv vl) >>> (1 &&& 31)) &&& 31))), .int (vl ||| ((1 : Int32) <<< (((f_firstLiteral nv nc mt mf hv vl) >>> (1 &&& 31)) &&& 31)))]) (rest := []) ⟨hx, hb, hml, hown, hts⟩ (c_putWaiting l dC dI cI cL cZ ad hinj lz nd lc bc bv lh lw lb wh1_58 wv1_58 wc1_58 hwc1 (hv ||| ((1 : Int32) <<< (((f_firstLiteral nv nc mt mf hv vl) >>> (1 &&& 31)) &&& 31))) (vl ||| ((1 : Int32) <<< (((f_firstLiteral nv nc mt mf hv vl) >>> (1 &&& 31)) &&& 31)))) (xcwV 2 hts wd_221 wd_38 wd_218 wd_220 wd_0 rfl rfl (by decide +kernel) ⟨Nat.le_of_ble_eq_true rfl, Nat.le_of_ble_eq_true rfl⟩) (xpreV (va_recv hK hP rfl (q0 := 0) rfl) hP hK) rfl rfl hl.1 rfl (lv_room (Nat.le_of_ble_eq_true rfl)) dX2_branch_77 ⟨Nat.le_of_ble_eq_true rfl, Nat.le_of_ble_eq_true rfl⟩) hS (xAsub (by decide)) (fun u H locs h10 hB hk hS => ?_)
      obtain ⟨wh1_77, wv1_77, wc1_77⟩ := u
      have hP : va_P (dC, dI) vwCl [(ad 9, .inr (2, [.int nd, .int (nI lc), .long bc, .int bv, .ref (ad 10), .ref (ad 11), .ref (ad 12), .ref (ad 1), .ref (ad 5), .ref (ad 13), .ref (ad 14), .int (nI wc1_77)])), (ad 10, .inl (cI, lz, .inl lh)), (ad 11, .inl (cI, lz, .inl lw)), (ad 12, .inl (cL, lz, .inr (.inl lb))), (ad 13, .inl (cI, 11, .inl wh1_77)), (ad 14, .inl (cI, 11, .inl wv1_77))] H := va_P.sub hB [0, 1, 2, 3, 4, 5] rfl
      rw [h10] at hF
      try dsimp only at hF
      exact W.vret hx hb hr (fun t ht hW => ⟨⟨(wh1_77, wv1_77, wc1_77), rfl, hF, xBi ht hP⟩, hS.F ht⟩) hS.2.2 dX2_branch_80
  · have hF := hF.trans (if_pos h1)
    exact W.vret hx hb hr (fun t ht hW => ⟨⟨(wh, wv, wc), rfl, hF, xBi ht hP⟩, hS.F ht⟩) hS.2.2 dX2_branch_15
