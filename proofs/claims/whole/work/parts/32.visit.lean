def f_visit (nv : Nat) (av : Int32) (nc : Nat) (mt mf wt : Nat → Int32) (lz : Nat) (ss : (Nat → Int64)) (sc : Nat) (avl : Int64) (gh : Int32) (gv : Int32) (sv : (Nat → Int32)) (sr : (Nat → Nat)) (st : Nat) (nd : Int32) (lc : Nat) (bc : Int64) (bv : Int32) (lh : (Nat → Int32)) (lw : (Nat → Int32)) (lb : (Nat → Int64)) (wh : (Nat → Int32)) (wv : (Nat → Int32)) (wc : Nat) (hv vl : Int32) : (Nat → Int64) × Nat × Int64 × Int32 × Int32 × (Nat → Int32) × (Nat → Nat) × Nat × Int32 × Nat × Int64 × Int32 × (Nat → Int32) × (Nat → Int32) × (Nat → Int64) × (Nat → Int32) × (Nat → Int32) × Nat :=
  if hv = av then
    match (f_visitLeaf av nc mt mf wt bc bv vl) with
    | (bc1_23, bv1_23) =>
      (ss, sc, avl, gh, gv, sv, sr, st, (nd + 1), lc, bc1_23, bv1_23, lh, lw, lb, wh, wv, wc)
  else
    match (f_boundOf nc mt mf wt ss sc avl gh gv sv sr st hv vl) with
    | (r_36, ss1_36, sc1_36, avl1_36, gh1_36, gv1_36, sv1_36, sr1_36, st1_36) =>
      if (f_isGivenUp bc r_36) = 0 then
        match (f_branch nv nc mt mf wh wv wc hv vl) with
        | (wh1_57, wv1_57, wc1_57) =>
          (ss1_36, sc1_36, avl1_36, gh1_36, gv1_36, sv1_36, sr1_36, st1_36, (nd + 1), lc, bc, bv, lh, lw, lb, wh1_57, wv1_57, wc1_57)
      else
        match (f_putIntoLog lz lc bc lh lw lb hv vl) with
        | (lc1_48, lh1_48, lw1_48, lb1_48) =>
          (ss1_36, sc1_36, avl1_36, gh1_36, gv1_36, sv1_36, sr1_36, st1_36, (nd + 1), lc1_48, bc, bv, lh1_48, lw1_48, lb1_48, wh, wv, wc)
set_option maxHeartbeats 4000000 in
set_option maxRecDepth 100000 in
theorem c_visit (l : Launch) (dC : Nat → ClassId) (dI : Nat → Nat → Nat) (cI cL cZ : ClassId) (ad : Nat → Nat) (hinj : xI ad 15) (nv : Nat) (av : Int32) (nc : Nat) (mt mf wt : Nat → Int32) (ss : Nat → Int64) (sc : Nat) (avl : Int64) (gh gv : Int32) (sv : Nat → Int32) (sr : Nat → Nat) (st : Nat) (lz : Nat) (nd : Int32) (lc : Nat) (bc : Int64) (bv : Int32) (lh lw : Nat → Int32) (lb : Nat → Int64) (wh wv : Nat → Int32) (wc : Nat) (hnc : nc ≤ 40) (hnv : nv ≤ 10) (hlz : lz ≤ 512) (hlc : lc ≤ lz) (hwc : wc ≤ 11) (hv vl : Int32) : Met l yX2_visit wsX2_visit ({ frames := 4, cells := 0, slots := 0, locals := 103 }) (va_Pc [.ref (ad 9), .int hv, .int vl] (fun U => va_P (dC, dI) vwCl [(ad 1, .inr (1, [.int (nI nv), .int av, .int (nI nc), .ref (ad 2), .ref (ad 3), .ref (ad 4)])), (ad 2, .inl (cI, 40, .inl mt)), (ad 3, .inl (cI, 40, .inl mf)), (ad 4, .inl (cI, 40, .inl wt)), (ad 5, .inr (0, [.ref (ad 1), .ref (ad 6), .int (nI sc), .long avl, .int gh, .int gv, .ref (ad 7), .ref (ad 8), .int (nI st)])), (ad 6, .inl (cL, 40, .inr (.inl ss))), (ad 7, .inl (cI, 10, .inl sv)), (ad 8, .inl (cI, 10, .inl (xnI sr))), (ad 9, .inr (2, [.int nd, .int (nI lc), .long bc, .int bv, .ref (ad 10), .ref (ad 11), .ref (ad 12), .ref (ad 1), .ref (ad 5), .ref (ad 13), .ref (ad 14), .int (nI wc)])), (ad 10, .inl (cI, lz, .inl lh)), (ad 11, .inl (cI, lz, .inl lw)), (ad 12, .inl (cL, lz, .inr (.inl lb))), (ad 13, .inl (cI, 11, .inl wh)), (ad 14, .inl (cI, 11, .inl wv))] U.heap ∧ va_K (dC, dI) vwCl [(cI, .int), (cL, .long), (cZ, .boolean)] U)) (va_Qv (fun u => f_visit nv av nc mt mf wt lz ss sc avl gh gv sv sr st nd lc bc bv lh lw lb wh wv wc hv vl = u) (xB (dC, dI) vwCl (fun (u : (Nat → Int64) × Nat × Int64 × Int32 × Int32 × (Nat → Int32) × (Nat → Nat) × Nat × Int32 × Nat × Int64 × Int32 × (Nat → Int32) × (Nat → Int32) × (Nat → Int64) × (Nat → Int32) × (Nat → Int32) × Nat) => match u with | (ss1, sc1, avl1, gh1, gv1, sv1, sr1, st1, nd1, lc1, bc1, bv1, lh1, lw1, lb1, wh1, wv1, wc1) => [(ad 5, .inr (0, [.ref (ad 1), .ref (ad 6), .int (nI sc1), .long avl1, .int gh1, .int gv1, .ref (ad 7), .ref (ad 8), .int (nI st1)])), (ad 6, .inl (cL, 40, .inr (.inl ss1))), (ad 7, .inl (cI, 10, .inl sv1)), (ad 8, .inl (cI, 10, .inl (xnI sr1))), (ad 9, .inr (2, [.int nd1, .int (nI lc1), .long bc1, .int bv1, .ref (ad 10), .ref (ad 11), .ref (ad 12), .ref (ad 1), .ref (ad 5), .ref (ad 13), .ref (ad 14), .int (nI wc1)])), (ad 10, .inl (cI, lz, .inl lh1)), (ad 11, .inl (cI, lz, .inl lw1)), (ad 12, .inl (cL, lz, .inr (.inl lb1))), (ad 13, .inl (cI, 11, .inl wh1)), (ad 14, .inl (cI, 11, .inl wv1))])) (xA ad [5, 6, 7, 8, 9, 10, 11, 12, 13, 14])) 0 0 (xA ad [5, 6, 7, 8, 9, 10, 11, 12, 13, 14]) := by
  refine Met.ofW (cc := cX2_visit) (maxL := 3) (ret := none) (by decide) rfl ?_
  intro p e s m args below meth c s₁ B hml hvv
  obtain ⟨rfl, hP0, hK⟩ := hvv
  have hx := B.exec
  have hb := B.bytes
  have hr := B.returns
  have hts := atoms_spec (ws := wsX2_visit) B.pre
  have hown : s.vm.findClass RX2 = some m.cls := findClass_of_methodNamed B.named
  have hlocks := B.notSynchronized
  have hw0 : (.fieldLink RX2 48 "WeightedClauses$Search" "nodeCount" "I" : Cond).before _ s = true := hts _ (List.mem_cons_of_mem _ wd_134)
  have hw1 : (.fieldLink RX2 24 "WeightedClauses$Search" "formula" "LWeightedClauses$Formula;" : Cond).before _ s = true := hts _ (List.mem_cons_of_mem _ wd_148)
  have hw2 : (.fieldLink RX2 70 "WeightedClauses$Formula" "allVariables" "I" : Cond).before _ s = true := hts _ (List.mem_cons_of_mem _ wd_70)
  have hw3 : (.fieldLink RX2 28 "WeightedClauses$Search" "bounds" "LWeightedClauses$Bounds;" : Cond).before _ s = true := hts _ (List.mem_cons_of_mem _ wd_149)
  have hPr : va_P (dC, dI) vwCl [(ad 1, .inr (1, [.int (nI nv), .int av, .int (nI nc), .ref (ad 2), .ref (ad 3), .ref (ad 4)])), (ad 2, .inl (cI, 40, .inl mt)), (ad 3, .inl (cI, 40, .inl mf)), (ad 4, .inl (cI, 40, .inl wt))] s.heap := hP0.sub [0, 1, 2, 3] rfl
  have hP : va_P (dC, dI) vwCl [(ad 5, .inr (0, [.ref (ad 1), .ref (ad 6), .int (nI sc), .long avl, .int gh, .int gv, .ref (ad 7), .ref (ad 8), .int (nI st)])), (ad 6, .inl (cL, 40, .inr (.inl ss))), (ad 7, .inl (cI, 10, .inl sv)), (ad 8, .inl (cI, 10, .inl (xnI sr))), (ad 9, .inr (2, [.int nd, .int (nI lc), .long bc, .int bv, .ref (ad 10), .ref (ad 11), .ref (ad 12), .ref (ad 1), .ref (ad 5), .ref (ad 13), .ref (ad 14), .int (nI wc)])), (ad 10, .inl (cI, lz, .inl lh)), (ad 11, .inl (cI, lz, .inl lw)), (ad 12, .inl (cL, lz, .inr (.inl lb))), (ad 13, .inl (cI, 11, .inl wh)), (ad 14, .inl (cI, 11, .inl wv))] s.heap := hP0.sub [4, 5, 6, 7, 8, 9, 10, 11, 12, 13] rfl
  have hS : va_S (xA ad [5, 6, 7, 8, 9, 10, 11, 12, 13, 14]) s.heap s.heap [] := va_S.rf
  have hl := lv_entry [.ref (ad 9), .int hv, .int vl] (n := 3) (Nat.le_of_ble_eq_true rfl)
  rw [lg_entry_eq]
  generalize (lg_sl [.ref (ad 9), .int hv, .int vl] ++ List.replicate (3 - (lg_sl [.ref (ad 9), .int hv, .int vl]).length) Slot.unset).toArray = ls at hl ⊢
  have hl : lv_has ls 3 [(0, .ref (ad 9)), (1, .int hv), (2, .int vl)] := hl
  have hF := Eq.refl (f_visit nv av nc mt mf wt lz ss sc avl gh gv sv sr st nd lc bc bv lh lw lb wh wv wc hv vl)
  conv at hF => rhs; unfold f_visit
  refine lv_aload_n hx hb dX2_visit_0 rfl (lv_at hl 0 rfl) ?_
  refine lv_dup hx hb dX2_visit_1 rfl ?_
  refine va_get (D := (dC, dI)) (ci := 2) (v := .int nd) (C := RX2) (T := TX2) (N := 12) hx hb hts (xcons inX2) hown hK hP 4 rfl rfl 0 (by decide) hw0 (fun _ h9 => h9) rfl dX2_visit_2 ?_
  refine lv_iconst (v := 1) hx hb dX2_visit_5 (by decide) ?_
  refine lv_iadd hx hb dX2_visit_6 ?_
  refine va_put (D := (dC, dI)) (ci := 2) (v := .int (nd + 1)) (ty := .int) (C := RX2) (T := TX2) (N := 12) hx hb hts (xcons inX2) tyX2 tyX2_ok nX2 hown hK hP (xD hinj [5, 6, 7, 8, 9, 10, 11, 12, 13, 14] rfl (by decide) (by decide)) hS 4 rfl rfl 0 (by decide) hw0 (fun _ h9 => h9) rfl (by decide +kernel) rfl rfl (Nat.le_of_ble_eq_true rfl) dX2_visit_7 (fun H locs hP _ hS => ?_)
  have hP : va_P (dC, dI) vwCl [(ad 5, .inr (0, [.ref (ad 1), .ref (ad 6), .int (nI sc), .long avl, .int gh, .int gv, .ref (ad 7), .ref (ad 8), .int (nI st)])), (ad 6, .inl (cL, 40, .inr (.inl ss))), (ad 7, .inl (cI, 10, .inl sv)), (ad 8, .inl (cI, 10, .inl (xnI sr))), (ad 9, .inr (2, [.int (nd + 1), .int (nI lc), .long bc, .int bv, .ref (ad 10), .ref (ad 11), .ref (ad 12), .ref (ad 1), .ref (ad 5), .ref (ad 13), .ref (ad 14), .int (nI wc)])), (ad 10, .inl (cI, lz, .inl lh)), (ad 11, .inl (cI, lz, .inl lw)), (ad 12, .inl (cL, lz, .inr (.inl lb))), (ad 13, .inl (cI, 11, .inl wh)), (ad 14, .inl (cI, 11, .inl wv))] H := hP
  refine lv_iload_n hx hb dX2_visit_10 rfl (lv_at hl 1 rfl) ?_
  refine lv_aload_n hx hb dX2_visit_11 rfl (lv_at hl 0 rfl) ?_
  refine va_get (D := (dC, dI)) (ci := 2) (v := .ref (ad 1)) (C := RX2) (T := TX2) (N := 12) hx hb hts (xcons inX2) hown hK hP 4 rfl rfl 7 (by decide) hw1 (fun _ h9 => h9) rfl dX2_visit_12 ?_
  have hR := xP0 hPr (xnA hinj [1, 2, 3, 4] rfl (by decide)) hS
  refine va_get (D := (dC, dI)) (ci := 1) (v := .int av) (C := RX1) (T := TX1) (N := 6) hx hb hts (xcons inX1) hown hK hR 0 rfl rfl 1 (by decide) hw2 (fun _ h9 => h9) rfl dX2_visit_15 ?_
  refine lv_icmp_ne (tgt := 29) hx hb dX2_visit_18 (by decide) (fun h1 => ?_) (fun h1 => ?_)
  · have hF := hF.trans (if_neg h1)
    refine lv_aload_n hx hb dX2_visit_29 rfl (lv_at hl 0 rfl) ?_
    refine lv_aload_n hx hb dX2_visit_30 rfl (lv_at hl 0 rfl) ?_
    refine va_get (D := (dC, dI)) (ci := 2) (v := .ref (ad 5)) (C := RX2) (T := TX2) (N := 12) hx hb hts (xcons inX2) hown hK hP 4 rfl rfl 8 (by decide) hw3 (fun _ h9 => h9) rfl dX2_visit_31 ?_
    refine lv_iload_n hx hb dX2_visit_34 rfl (lv_at hl 1 rfl) ?_
    refine lv_iload_n hx hb dX2_visit_35 rfl (lv_at hl 2 rfl) ?_
    refine xrw_l (va_runV (As := [.int hv, .int vl]) (rest := [.ref (ad 9)]) ⟨hx, hb, hml, hown, hts⟩ (c_boundOf l dC dI cI cL cZ ad hinj nv av nc mt mf wt ss sc avl gh gv sv sr st (by omega) hv vl) (xcwV 2 hts wd_247 wd_37 wd_244 wd_245 wd_246 rfl rfl (by decide +kernel) ⟨Nat.le_of_ble_eq_true rfl, Nat.le_of_ble_eq_true rfl⟩) (xpreV (va_recv hK hP rfl (q0 := 0) rfl) ((hR.app hP).sub [0, 1, 2, 3, 4, 5, 6, 7] rfl) hK) rfl rfl hl.1 rfl (lv_room (Nat.le_of_ble_eq_true rfl)) dX2_visit_36 ⟨Nat.le_of_ble_eq_true rfl, Nat.le_of_ble_eq_true rfl⟩) hS (xAsub (by decide)) (fun r_36 u H locs h2 hB hk hS => ?_)
    obtain ⟨ss1_36, sc1_36, avl1_36, gh1_36, gv1_36, sv1_36, sr1_36, st1_36⟩ := u
    have hP : va_P (dC, dI) vwCl [(ad 5, .inr (0, [.ref (ad 1), .ref (ad 6), .int (nI sc1_36), .long avl1_36, .int gh1_36, .int gv1_36, .ref (ad 7), .ref (ad 8), .int (nI st1_36)])), (ad 6, .inl (cL, 40, .inr (.inl ss1_36))), (ad 7, .inl (cI, 10, .inl sv1_36)), (ad 8, .inl (cI, 10, .inl (xnI sr1_36))), (ad 9, .inr (2, [.int (nd + 1), .int (nI lc), .long bc, .int bv, .ref (ad 10), .ref (ad 11), .ref (ad 12), .ref (ad 1), .ref (ad 5), .ref (ad 13), .ref (ad 14), .int (nI wc)])), (ad 10, .inl (cI, lz, .inl lh)), (ad 11, .inl (cI, lz, .inl lw)), (ad 12, .inl (cL, lz, .inr (.inl lb))), (ad 13, .inl (cI, 11, .inl wh)), (ad 14, .inl (cI, 11, .inl wv))] H := ((xkeepA hP hk [4, 5, 6, 7, 8, 9] rfl (xnA hinj [9, 10, 11, 12, 13, 14] rfl (by decide))).app hB).sub [6, 7, 8, 9, 0, 1, 2, 3, 4, 5] rfl
    rw [h2] at hF
    try dsimp only at hF
    have hR := xP0 hPr (xnA hinj [1, 2, 3, 4] rfl (by decide)) hS
    refine xro_i (va_runV (As := [.long r_36]) (rest := []) ⟨hx, hb, hml, hown, hts⟩ (c_isGivenUp l dC dI cI cL cZ ad hinj lz (nd + 1) lc bc bv lh lw lb wh wv wc r_36) (xcwV 1 hts wd_311 wd_38 wd_308 wd_310 wd_9 rfl rfl (by decide +kernel) ⟨Nat.le_of_ble_eq_true rfl, Nat.le_of_ble_eq_true rfl⟩) (xpreV (va_recv hK hP rfl (q0 := 4) rfl) (hP.sub [4, 5, 6, 7, 8, 9] rfl) hK) rfl rfl hl.1 rfl (lv_room (Nat.le_of_ble_eq_true rfl)) dX2_visit_39 ⟨Nat.le_of_ble_eq_true rfl, Nat.le_of_ble_eq_true rfl⟩) hS (fun H locs hk hS => ?_)
    have hP := xkeep hP hk
    refine lv_if_eq (tgt := 54) hx hb dX2_visit_42 (by decide) (fun h3 => ?_) (fun h3 => ?_)
    · have hF := hF.trans (if_pos h3)
      refine lv_aload_n hx hb dX2_visit_54 rfl (lv_at hl 0 rfl) ?_
      refine lv_iload_n hx hb dX2_visit_55 rfl (lv_at hl 1 rfl) ?_
      refine lv_iload_n hx hb dX2_visit_56 rfl (lv_at hl 2 rfl) ?_
      have hR := xP0 hPr (xnA hinj [1, 2, 3, 4] rfl (by decide)) hS
      refine xrw_v (va_runV (As := [.int hv, .int vl]) (rest := []) ⟨hx, hb, hml, hown, hts⟩ (c_branch l dC dI cI cL cZ ad hinj nv av nc mt mf wt lz (nd + 1) lc bc bv lh lw lb wh wv wc (by omega) (by omega) (by omega) hv vl) (xcwV 2 hts wd_319 wd_38 wd_316 wd_318 wd_11 rfl rfl (by decide +kernel) ⟨Nat.le_of_ble_eq_true rfl, Nat.le_of_ble_eq_true rfl⟩) (xpreV (va_recv hK hP rfl (q0 := 4) rfl) ((hR.app hP).sub [0, 1, 2, 3, 8, 9, 10, 11, 12, 13] rfl) hK) rfl rfl hl.1 rfl (lv_room (Nat.le_of_ble_eq_true rfl)) dX2_visit_57 ⟨Nat.le_of_ble_eq_true rfl, Nat.le_of_ble_eq_true rfl⟩) hS (xAsub (by decide)) (fun u H locs h4 hB hk hS => ?_)
      obtain ⟨wh1_57, wv1_57, wc1_57⟩ := u
      have hP : va_P (dC, dI) vwCl [(ad 5, .inr (0, [.ref (ad 1), .ref (ad 6), .int (nI sc1_36), .long avl1_36, .int gh1_36, .int gv1_36, .ref (ad 7), .ref (ad 8), .int (nI st1_36)])), (ad 6, .inl (cL, 40, .inr (.inl ss1_36))), (ad 7, .inl (cI, 10, .inl sv1_36)), (ad 8, .inl (cI, 10, .inl (xnI sr1_36))), (ad 9, .inr (2, [.int (nd + 1), .int (nI lc), .long bc, .int bv, .ref (ad 10), .ref (ad 11), .ref (ad 12), .ref (ad 1), .ref (ad 5), .ref (ad 13), .ref (ad 14), .int (nI wc1_57)])), (ad 10, .inl (cI, lz, .inl lh)), (ad 11, .inl (cI, lz, .inl lw)), (ad 12, .inl (cL, lz, .inr (.inl lb))), (ad 13, .inl (cI, 11, .inl wh1_57)), (ad 14, .inl (cI, 11, .inl wv1_57))] H := ((xkeepA hP hk [0, 1, 2, 3] rfl (xnA hinj [5, 6, 7, 8] rfl (by decide))).app hB).sub [0, 1, 2, 3, 4, 5, 6, 7, 8, 9] rfl
      rw [h4] at hF
      try dsimp only at hF
      exact W.vret hx hb hr (fun t ht hW => ⟨⟨(ss1_36, sc1_36, avl1_36, gh1_36, gv1_36, sv1_36, sr1_36, st1_36, (nd + 1), lc, bc, bv, lh, lw, lb, wh1_57, wv1_57, wc1_57), rfl, hF, xBi ht hP⟩, hS.F ht⟩) hS.2.2 dX2_visit_60
    · have hF := hF.trans (if_neg h3)
      refine lv_aload_n hx hb dX2_visit_45 rfl (lv_at hl 0 rfl) ?_
      refine lv_iload_n hx hb dX2_visit_46 rfl (lv_at hl 1 rfl) ?_
      refine lv_iload_n hx hb dX2_visit_47 rfl (lv_at hl 2 rfl) ?_
      have hR := xP0 hPr (xnA hinj [1, 2, 3, 4] rfl (by decide)) hS
      refine xrw_v (va_runV (As := [.int hv, .int vl]) (rest := []) ⟨hx, hb, hml, hown, hts⟩ (c_putIntoLog l dC dI cI cL cZ ad hinj lz (nd + 1) lc bc bv lh lw lb wh wv wc (by omega) (by omega) hv vl) (xcwV 2 hts wd_315 wd_38 wd_312 wd_314 wd_10 rfl rfl (by decide +kernel) ⟨Nat.le_of_ble_eq_true rfl, Nat.le_of_ble_eq_true rfl⟩) (xpreV (va_recv hK hP rfl (q0 := 4) rfl) (hP.sub [4, 5, 6, 7, 8, 9] rfl) hK) rfl rfl hl.1 rfl (lv_room (Nat.le_of_ble_eq_true rfl)) dX2_visit_48 ⟨Nat.le_of_ble_eq_true rfl, Nat.le_of_ble_eq_true rfl⟩) hS (xAsub (by decide)) (fun u H locs h5 hB hk hS => ?_)
      obtain ⟨lc1_48, lh1_48, lw1_48, lb1_48⟩ := u
      have hP : va_P (dC, dI) vwCl [(ad 5, .inr (0, [.ref (ad 1), .ref (ad 6), .int (nI sc1_36), .long avl1_36, .int gh1_36, .int gv1_36, .ref (ad 7), .ref (ad 8), .int (nI st1_36)])), (ad 6, .inl (cL, 40, .inr (.inl ss1_36))), (ad 7, .inl (cI, 10, .inl sv1_36)), (ad 8, .inl (cI, 10, .inl (xnI sr1_36))), (ad 9, .inr (2, [.int (nd + 1), .int (nI lc1_48), .long bc, .int bv, .ref (ad 10), .ref (ad 11), .ref (ad 12), .ref (ad 1), .ref (ad 5), .ref (ad 13), .ref (ad 14), .int (nI wc)])), (ad 10, .inl (cI, lz, .inl lh1_48)), (ad 11, .inl (cI, lz, .inl lw1_48)), (ad 12, .inl (cL, lz, .inr (.inl lb1_48))), (ad 13, .inl (cI, 11, .inl wh)), (ad 14, .inl (cI, 11, .inl wv))] H := ((xkeepA hP hk [0, 1, 2, 3] rfl (xnA hinj [5, 6, 7, 8] rfl (by decide))).app hB).sub [0, 1, 2, 3, 4, 5, 6, 7, 8, 9] rfl
      rw [h5] at hF
      try dsimp only at hF
      refine lv_goto (tgt := 60) hx hb dX2_visit_51 (by decide) ?_
      exact W.vret hx hb hr (fun t ht hW => ⟨⟨(ss1_36, sc1_36, avl1_36, gh1_36, gv1_36, sv1_36, sr1_36, st1_36, (nd + 1), lc1_48, bc, bv, lh1_48, lw1_48, lb1_48, wh, wv, wc), rfl, hF, xBi ht hP⟩, hS.F ht⟩) hS.2.2 dX2_visit_60
  · have hF := hF.trans (if_pos h1)
    refine lv_aload_n hx hb dX2_visit_21 rfl (lv_at hl 0 rfl) ?_
    refine lv_iload_n hx hb dX2_visit_22 rfl (lv_at hl 2 rfl) ?_
    refine xrw_v (va_runV (As := [.int vl]) (rest := []) ⟨hx, hb, hml, hown, hts⟩ (c_visitLeaf l dC dI cI cL cZ ad hinj nv av nc mt mf wt lz (nd + 1) lc bc bv lh lw lb wh wv wc (by omega) vl) (xcwV 1 hts wd_229 wd_38 wd_226 wd_228 wd_2 rfl rfl (by decide +kernel) ⟨Nat.le_of_ble_eq_true rfl, Nat.le_of_ble_eq_true rfl⟩) (xpreV (va_recv hK hP rfl (q0 := 4) rfl) ((hR.app hP).sub [0, 1, 2, 3, 8, 9, 10, 11, 12, 13] rfl) hK) rfl rfl hl.1 rfl (lv_room (Nat.le_of_ble_eq_true rfl)) dX2_visit_23 ⟨Nat.le_of_ble_eq_true rfl, Nat.le_of_ble_eq_true rfl⟩) hS (xAsub (by decide)) (fun u H locs h6 hB hk hS => ?_)
    obtain ⟨bc1_23, bv1_23⟩ := u
    have hP : va_P (dC, dI) vwCl [(ad 5, .inr (0, [.ref (ad 1), .ref (ad 6), .int (nI sc), .long avl, .int gh, .int gv, .ref (ad 7), .ref (ad 8), .int (nI st)])), (ad 6, .inl (cL, 40, .inr (.inl ss))), (ad 7, .inl (cI, 10, .inl sv)), (ad 8, .inl (cI, 10, .inl (xnI sr))), (ad 9, .inr (2, [.int (nd + 1), .int (nI lc), .long bc1_23, .int bv1_23, .ref (ad 10), .ref (ad 11), .ref (ad 12), .ref (ad 1), .ref (ad 5), .ref (ad 13), .ref (ad 14), .int (nI wc)])), (ad 10, .inl (cI, lz, .inl lh)), (ad 11, .inl (cI, lz, .inl lw)), (ad 12, .inl (cL, lz, .inr (.inl lb))), (ad 13, .inl (cI, 11, .inl wh)), (ad 14, .inl (cI, 11, .inl wv))] H := ((xkeepA hP hk [0, 1, 2, 3] rfl (xnA hinj [5, 6, 7, 8] rfl (by decide))).app hB).sub [0, 1, 2, 3, 4, 5, 6, 7, 8, 9] rfl
    rw [h6] at hF
    try dsimp only at hF
    refine lv_goto (tgt := 60) hx hb dX2_visit_26 (by decide) ?_
    exact W.vret hx hb hr (fun t ht hW => ⟨⟨(ss, sc, avl, gh, gv, sv, sr, st, (nd + 1), lc, bc1_23, bv1_23, lh, lw, lb, wh, wv, wc), rfl, hF, xBi ht hP⟩, hS.F ht⟩) hS.2.2 dX2_visit_60
