def m_node (nv nc : Nat) (mt mf wt : Nat → Int32) (hp : Int32) (bo : Int64) (su : Nat) (ss : (Nat → Int64)) (av : (Nat → Int32)) (re : (Nat → Int32)) (gh : Int32) (gv : Int32) (fo : Int32) (bv : Int32) (bc : Int64) (nd : Int32) (lo : Nat) (lh : (Nat → Int32)) (lw : (Nat → Int32)) (lb : (Nat → Int64)) (wa : Nat) (wh : (Nat → Int32)) (wv : (Nat → Int32)) (hv vl : Int32) : Option (Int32 × Int64 × Nat × (Nat → Int64) × (Nat → Int32) × (Nat → Int32) × Int32 × Int32 × Int32 × Int32 × Int64 × Int32 × Nat × (Nat → Int32) × (Nat → Int32) × (Nat → Int64) × Nat × (Nat → Int32) × (Nat → Int32)) :=
  if hv = (((1 : Int32) <<< ((nI nv) &&& 31)) - 1) then
    if (m_breaks nc mt mf wt hv vl) = 0 then
      if fo = 0 then
        some (hp, bo, su, ss, av, re, gh, gv, 1, vl, (m_costOf nc mt mf wt hv vl), (nd + 1), lo, lh, lw, lb, wa, wh, wv)
      else
        if 0 ≤ (lg_cmp (m_costOf nc mt mf wt hv vl) bc) then
          some (hp, bo, su, ss, av, re, gh, gv, fo, bv, bc, (nd + 1), lo, lh, lw, lb, wa, wh, wv)
        else
          some (hp, bo, su, ss, av, re, gh, gv, 1, vl, (m_costOf nc mt mf wt hv vl), (nd + 1), lo, lh, lw, lb, wa, wh, wv)
    else
      some (hp, bo, su, ss, av, re, gh, gv, fo, bv, bc, (nd + 1), lo, lh, lw, lb, wa, wh, wv)
  else
    match (m_reckon nv nc mt mf wt hp bo su ss av re gh gv hv vl) with
    | some (hp1_73, bo1_73, su1_73, ss1_73, av1_73, re1_73, gh1_73, gv1_73) =>
      if hp1_73 = 0 then
        if fo = 0 then
          if wa < 23 then
            match (m_line wh wv wa (hv ||| ((1 : Int32) <<< (((m_firstOf nv nc mt mf hv vl) / 2) &&& 31))) (if ((m_firstOf nv nc mt mf hv vl) - (m_firstOf nv nc mt mf hv vl) / 2 * 2) = 0 then vl else (vl ||| ((1 : Int32) <<< (((m_firstOf nv nc mt mf hv vl) / 2) &&& 31))))) with
            | (wh1_192, wv1_192, wa1_192) =>
              match (m_line wh1_192 wv1_192 wa1_192 (hv ||| ((1 : Int32) <<< (((m_firstOf nv nc mt mf hv vl) / 2) &&& 31))) (if ((m_firstOf nv nc mt mf hv vl) - (m_firstOf nv nc mt mf hv vl) / 2 * 2) = 0 then (vl ||| ((1 : Int32) <<< (((m_firstOf nv nc mt mf hv vl) / 2) &&& 31))) else vl)) with
              | (wh1_214, wv1_214, wa1_214) =>
                some (hp1_73, bo1_73, su1_73, ss1_73, av1_73, re1_73, gh1_73, gv1_73, fo, bv, bc, (nd + 1), lo, lh, lw, lb, wa1_214, wh1_214, wv1_214)
          else
            none
        else
          if 0 < (lg_cmp bc bo1_73) then
            if wa < 23 then
              match (m_line wh wv wa (hv ||| ((1 : Int32) <<< (((m_firstOf nv nc mt mf hv vl) / 2) &&& 31))) (if ((m_firstOf nv nc mt mf hv vl) - (m_firstOf nv nc mt mf hv vl) / 2 * 2) = 0 then vl else (vl ||| ((1 : Int32) <<< (((m_firstOf nv nc mt mf hv vl) / 2) &&& 31))))) with
              | (wh1_192, wv1_192, wa1_192) =>
                match (m_line wh1_192 wv1_192 wa1_192 (hv ||| ((1 : Int32) <<< (((m_firstOf nv nc mt mf hv vl) / 2) &&& 31))) (if ((m_firstOf nv nc mt mf hv vl) - (m_firstOf nv nc mt mf hv vl) / 2 * 2) = 0 then (vl ||| ((1 : Int32) <<< (((m_firstOf nv nc mt mf hv vl) / 2) &&& 31))) else vl)) with
                | (wh1_214, wv1_214, wa1_214) =>
                  some (hp1_73, bo1_73, su1_73, ss1_73, av1_73, re1_73, gh1_73, gv1_73, fo, bv, bc, (nd + 1), lo, lh, lw, lb, wa1_214, wh1_214, wv1_214)
            else
              none
          else
            if lo < 1024 then
              some (hp1_73, bo1_73, su1_73, ss1_73, av1_73, re1_73, gh1_73, gv1_73, fo, bv, bc, (nd + 1), (lo + 1), (upd lh lo hv), (upd lw lo vl), (vp_updL lb lo ((if fo = 0 then (-1) else bc) : Int64)), wa, wh, wv)
            else
              none
      else
        if lo < 1024 then
          some (hp1_73, bo1_73, su1_73, ss1_73, av1_73, re1_73, gh1_73, gv1_73, fo, bv, bc, (nd + 1), (lo + 1), (upd lh lo hv), (upd lw lo vl), (vp_updL lb lo ((if fo = 0 then (-1) else bc) : Int64)), wa, wh, wv)
        else
          none
    | none => none
set_option maxHeartbeats 4000000 in
set_option maxRecDepth 100000 in
theorem k_node (l : Launch) (dC : Nat → ClassId) (dI : Nat → Nat → Nat) (cI cL cZ : ClassId) (ad : Nat → Nat) (hinj : xI ad 12) (co : Int32) (nv : Nat) (nc : Nat) (mt : (Nat → Int32)) (mf : (Nat → Int32)) (wt : (Nat → Int32)) (hp : Int32) (bo : Int64) (su : Nat) (ss : (Nat → Int64)) (av : (Nat → Int32)) (re : (Nat → Int32)) (gh : Int32) (gv : Int32) (fo : Int32) (bv : Int32) (bc : Int64) (nd : Int32) (lo : Nat) (lh : (Nat → Int32)) (lw : (Nat → Int32)) (lb : (Nat → Int64)) (wa : Nat) (wh : (Nat → Int32)) (wv : (Nat → Int32)) (hnc : nc ≤ 40) (hnv : nv ≤ 10) (hv vl : Int32) (hsome : ∃ z, m_node nv nc mt mf wt hp bo su ss av re gh gv fo bv bc nd lo lh lw lb wa wh wv hv vl = some z) : Met l yX4_node wsX4_node ({ frames := 5, cells := 0, slots := 0, locals := 121 }) (va_Pc [.ref (ad 0), .int hv, .int vl] (fun U => va_P (dC, dI) vwCl [(ad 0, .inr (4, [.int co, .int (nI nv), .int (nI nc), .ref (ad 1), .ref (ad 2), .ref (ad 3), .int hp, .long bo, .int (nI su), .ref (ad 4), .ref (ad 5), .ref (ad 6), .int gh, .int gv, .int fo, .int bv, .long bc, .int nd, .int (nI lo), .ref (ad 7), .ref (ad 8), .ref (ad 9), .int (nI wa), .ref (ad 10), .ref (ad 11)])), (ad 1, .inl (cI, 40, .inl mt)), (ad 2, .inl (cI, 40, .inl mf)), (ad 3, .inl (cI, 40, .inl wt)), (ad 4, .inl (cL, 40, .inr (.inl ss))), (ad 5, .inl (cZ, 40, .inl av)), (ad 6, .inl (cI, 10, .inl re)), (ad 7, .inl (cI, 1024, .inl lh)), (ad 8, .inl (cI, 1024, .inl lw)), (ad 9, .inl (cL, 1024, .inr (.inl lb))), (ad 10, .inl (cI, 24, .inl wh)), (ad 11, .inl (cI, 24, .inl wv))] U.heap ∧ va_K (dC, dI) vwCl [(cI, .int), (cL, .long), (cZ, .boolean)] U)) (va_Qv (fun u => m_node nv nc mt mf wt hp bo su ss av re gh gv fo bv bc nd lo lh lw lb wa wh wv hv vl = some u) (xB (dC, dI) vwCl (fun (u : Int32 × Int64 × Nat × (Nat → Int64) × (Nat → Int32) × (Nat → Int32) × Int32 × Int32 × Int32 × Int32 × Int64 × Int32 × Nat × (Nat → Int32) × (Nat → Int32) × (Nat → Int64) × Nat × (Nat → Int32) × (Nat → Int32)) => match u with | (hp1, bo1, su1, ss1, av1, re1, gh1, gv1, fo1, bv1, bc1, nd1, lo1, lh1, lw1, lb1, wa1, wh1, wv1) => [(ad 0, .inr (4, [.int co, .int (nI nv), .int (nI nc), .ref (ad 1), .ref (ad 2), .ref (ad 3), .int hp1, .long bo1, .int (nI su1), .ref (ad 4), .ref (ad 5), .ref (ad 6), .int gh1, .int gv1, .int fo1, .int bv1, .long bc1, .int nd1, .int (nI lo1), .ref (ad 7), .ref (ad 8), .ref (ad 9), .int (nI wa1), .ref (ad 10), .ref (ad 11)])), (ad 1, .inl (cI, 40, .inl mt)), (ad 2, .inl (cI, 40, .inl mf)), (ad 3, .inl (cI, 40, .inl wt)), (ad 4, .inl (cL, 40, .inr (.inl ss1))), (ad 5, .inl (cZ, 40, .inl av1)), (ad 6, .inl (cI, 10, .inl re1)), (ad 7, .inl (cI, 1024, .inl lh1)), (ad 8, .inl (cI, 1024, .inl lw1)), (ad 9, .inl (cL, 1024, .inr (.inl lb1))), (ad 10, .inl (cI, 24, .inl wh1)), (ad 11, .inl (cI, 24, .inl wv1))])) (xA ad [0, 1, 2, 3, 4, 5, 6, 7, 8, 9, 10, 11])) 0 0 (xA ad [0, 1, 2, 3, 4, 5, 6, 7, 8, 9, 10, 11]) := by
  refine Met.ofW (cc := cX4_node) (maxL := 5) (ret := none) (by decide) rfl ?_
  intro p e s m args below meth c s₁ B hml hvv
  obtain ⟨rfl, hP0, hK⟩ := hvv
  have hx := B.exec
  have hb := B.bytes
  have hr := B.returns
  have hts := atoms_spec (ws := wsX4_node) B.pre
  have hown : s.vm.findClass RX4 = some m.cls := findClass_of_methodNamed B.named
  have hlocks := B.notSynchronized
  have hw0 : (.fieldLink RX4 56 "WeightedClausesModel" "nodes" "I" : Cond).before _ s = true := hts _ (List.mem_cons_of_mem _ wd_547)
  have hw1 : (.fieldLink RX4 45 "WeightedClausesModel" "variables" "I" : Cond).before _ s = true := hts _ (List.mem_cons_of_mem _ wd_531)
  have hw2 : (.fieldLink RX4 120 "WeightedClausesModel" "hopeless" "Z" : Cond).before _ s = true := hts _ (List.mem_cons_of_mem _ wd_536)
  have hw3 : (.fieldLink RX4 30 "WeightedClausesModel" "logHave" "[I" : Cond).before _ s = true := hts _ (List.mem_cons_of_mem _ wd_549)
  have hw4 : (.fieldLink RX4 59 "WeightedClausesModel" "logs" "I" : Cond).before _ s = true := hts _ (List.mem_cons_of_mem _ wd_548)
  have hw5 : (.fieldLink RX4 33 "WeightedClausesModel" "logValues" "[I" : Cond).before _ s = true := hts _ (List.mem_cons_of_mem _ wd_550)
  have hw6 : (.fieldLink RX4 36 "WeightedClausesModel" "logBest" "[J" : Cond).before _ s = true := hts _ (List.mem_cons_of_mem _ wd_551)
  have hw7 : (.fieldLink RX4 52 "WeightedClausesModel" "found" "Z" : Cond).before _ s = true := hts _ (List.mem_cons_of_mem _ wd_544)
  have hw8 : (.constantLong RX4 150 (-1) : Cond).before _ s = true := hts _ (List.mem_cons_of_mem _ wd_723)
  have hw9 : (.fieldLink RX4 144 "WeightedClausesModel" "bestCost" "J" : Cond).before _ s = true := hts _ (List.mem_cons_of_mem _ wd_546)
  have hw10 : (.fieldLink RX4 123 "WeightedClausesModel" "bound" "J" : Cond).before _ s = true := hts _ (List.mem_cons_of_mem _ wd_537)
  have hw11 : (.fieldLink RX4 147 "WeightedClausesModel" "bestValues" "I" : Cond).before _ s = true := hts _ (List.mem_cons_of_mem _ wd_545)
  have hP : va_P (dC, dI) vwCl [(ad 0, .inr (4, [.int co, .int (nI nv), .int (nI nc), .ref (ad 1), .ref (ad 2), .ref (ad 3), .int hp, .long bo, .int (nI su), .ref (ad 4), .ref (ad 5), .ref (ad 6), .int gh, .int gv, .int fo, .int bv, .long bc, .int nd, .int (nI lo), .ref (ad 7), .ref (ad 8), .ref (ad 9), .int (nI wa), .ref (ad 10), .ref (ad 11)])), (ad 1, .inl (cI, 40, .inl mt)), (ad 2, .inl (cI, 40, .inl mf)), (ad 3, .inl (cI, 40, .inl wt)), (ad 4, .inl (cL, 40, .inr (.inl ss))), (ad 5, .inl (cZ, 40, .inl av)), (ad 6, .inl (cI, 10, .inl re)), (ad 7, .inl (cI, 1024, .inl lh)), (ad 8, .inl (cI, 1024, .inl lw)), (ad 9, .inl (cL, 1024, .inr (.inl lb))), (ad 10, .inl (cI, 24, .inl wh)), (ad 11, .inl (cI, 24, .inl wv))] s.heap := hP0.sub [0, 1, 2, 3, 4, 5, 6, 7, 8, 9, 10, 11] rfl
  have hS : va_S (xA ad [0, 1, 2, 3, 4, 5, 6, 7, 8, 9, 10, 11]) s.heap s.heap [] := va_S.rf
  have hl := lv_entry [.ref (ad 0), .int hv, .int vl] (n := 5) (Nat.le_of_ble_eq_true rfl)
  rw [lg_entry_eq]
  generalize (lg_sl [.ref (ad 0), .int hv, .int vl] ++ List.replicate (5 - (lg_sl [.ref (ad 0), .int hv, .int vl]).length) Slot.unset).toArray = ls at hl ⊢
  have hl : lv_has ls 5 [(0, .ref (ad 0)), (1, .int hv), (2, .int vl)] := hl
  have hF := Eq.refl (m_node nv nc mt mf wt hp bo su ss av re gh gv fo bv bc nd lo lh lw lb wa wh wv hv vl)
  conv at hF => rhs; unfold m_node
  refine lv_aload_n hx hb dX4_node_0 rfl (lv_at hl 0 rfl) ?_
  refine lv_dup hx hb dX4_node_1 rfl ?_
  refine va_get (D := (dC, dI)) (ci := 4) (v := .int nd) (C := RX4) (T := TX4) (N := 25) hx hb hts (xcons inX4) hown hK hP 0 rfl rfl 17 (by decide) hw0 (fun _ h9 => h9) rfl dX4_node_2 ?_
  refine lv_iconst (v := 1) hx hb dX4_node_5 (by decide) ?_
  refine lv_iadd hx hb dX4_node_6 ?_
  refine va_put (D := (dC, dI)) (ci := 4) (v := .int (nd + 1)) (ty := .int) (C := RX4) (T := TX4) (N := 25) hx hb hts (xcons inX4) tyX4 tyX4_ok nX4 hown hK hP (xD hinj [0, 1, 2, 3, 4, 5, 6, 7, 8, 9, 10, 11] rfl (by decide) (by decide)) hS 0 rfl rfl 17 (by decide) hw0 (fun _ h9 => h9) rfl (by decide +kernel) rfl rfl (Nat.le_of_ble_eq_true rfl) dX4_node_7 (fun H locs hP _ hS => ?_)
  have hP : va_P (dC, dI) vwCl [(ad 0, .inr (4, [.int co, .int (nI nv), .int (nI nc), .ref (ad 1), .ref (ad 2), .ref (ad 3), .int hp, .long bo, .int (nI su), .ref (ad 4), .ref (ad 5), .ref (ad 6), .int gh, .int gv, .int fo, .int bv, .long bc, .int (nd + 1), .int (nI lo), .ref (ad 7), .ref (ad 8), .ref (ad 9), .int (nI wa), .ref (ad 10), .ref (ad 11)])), (ad 1, .inl (cI, 40, .inl mt)), (ad 2, .inl (cI, 40, .inl mf)), (ad 3, .inl (cI, 40, .inl wt)), (ad 4, .inl (cL, 40, .inr (.inl ss))), (ad 5, .inl (cZ, 40, .inl av)), (ad 6, .inl (cI, 10, .inl re)), (ad 7, .inl (cI, 1024, .inl lh)), (ad 8, .inl (cI, 1024, .inl lw)), (ad 9, .inl (cL, 1024, .inr (.inl lb))), (ad 10, .inl (cI, 24, .inl wh)), (ad 11, .inl (cI, 24, .inl wv))] H := hP
  refine lv_iload_n hx hb dX4_node_10 rfl (lv_at hl 1 rfl) ?_
  refine lv_iconst (v := 1) hx hb dX4_node_11 (by decide) ?_
  refine lv_aload_n hx hb dX4_node_12 rfl (lv_at hl 0 rfl) ?_
  refine va_get (D := (dC, dI)) (ci := 4) (v := .int (nI nv)) (C := RX4) (T := TX4) (N := 25) hx hb hts (xcons inX4) hown hK hP 0 rfl rfl 1 (by decide) hw1 (fun _ h9 => h9) rfl dX4_node_13 ?_
  refine lv_ishl hx hb dX4_node_16 ?_
  refine lv_iconst (v := 1) hx hb dX4_node_17 (by decide) ?_
  refine lv_isub hx hb dX4_node_18 ?_
  refine lv_icmp_ne (tgt := 70) hx hb dX4_node_19 (by decide) (fun h1 => ?_) (fun h1 => ?_)
  · have hF := hF.trans (if_neg h1)
    refine lv_aload_n hx hb dX4_node_70 rfl (lv_at hl 0 rfl) ?_
    refine lv_iload_n hx hb dX4_node_71 rfl (lv_at hl 1 rfl) ?_
    refine lv_iload_n hx hb dX4_node_72 rfl (lv_at hl 2 rfl) ?_
    have hs73 : ∃ z, (m_reckon nv nc mt mf wt hp bo su ss av re gh gv hv vl) = some z := by
      cases hq : (m_reckon nv nc mt mf wt hp bo su ss av re gh gv hv vl) with
      | none => rw [hq] at hF; obtain ⟨z, hz⟩ := hsome; rw [hz] at hF; cases hF
      | some z => exact ⟨z, rfl⟩
    refine xrw_v (va_runV (As := [.int hv, .int vl]) (rest := []) ⟨hx, hb, hml, hown, hts⟩ (k_reckon l dC dI cI cL cZ ad hinj co nv nc mt mf wt hp bo su ss av re gh gv fo bv bc (nd + 1) lo lh lw lb wa wh wv (by omega) (by omega) hv vl hs73) (xcwV 2 hts wd_678 wd_39 wd_675 wd_677 wd_24 rfl rfl (by decide +kernel) ⟨Nat.le_of_ble_eq_true rfl, Nat.le_of_ble_eq_true rfl⟩) (xpreV (va_recv hK hP rfl (q0 := 0) rfl) hP hK) rfl rfl hl.1 rfl (lv_room (Nat.le_of_ble_eq_true rfl)) dX4_node_73 ⟨Nat.le_of_ble_eq_true rfl, Nat.le_of_ble_eq_true rfl⟩) hS (xAsub (by decide)) (fun u H locs h2 hB hk hS => ?_)
    obtain ⟨hp1_73, bo1_73, su1_73, ss1_73, av1_73, re1_73, gh1_73, gv1_73⟩ := u
    have hP : va_P (dC, dI) vwCl [(ad 0, .inr (4, [.int co, .int (nI nv), .int (nI nc), .ref (ad 1), .ref (ad 2), .ref (ad 3), .int hp1_73, .long bo1_73, .int (nI su1_73), .ref (ad 4), .ref (ad 5), .ref (ad 6), .int gh1_73, .int gv1_73, .int fo, .int bv, .long bc, .int (nd + 1), .int (nI lo), .ref (ad 7), .ref (ad 8), .ref (ad 9), .int (nI wa), .ref (ad 10), .ref (ad 11)])), (ad 1, .inl (cI, 40, .inl mt)), (ad 2, .inl (cI, 40, .inl mf)), (ad 3, .inl (cI, 40, .inl wt)), (ad 4, .inl (cL, 40, .inr (.inl ss1_73))), (ad 5, .inl (cZ, 40, .inl av1_73)), (ad 6, .inl (cI, 10, .inl re1_73)), (ad 7, .inl (cI, 1024, .inl lh)), (ad 8, .inl (cI, 1024, .inl lw)), (ad 9, .inl (cL, 1024, .inr (.inl lb))), (ad 10, .inl (cI, 24, .inl wh)), (ad 11, .inl (cI, 24, .inl wv))] H := va_P.sub hB [0, 1, 2, 3, 4, 5, 6, 7, 8, 9, 10, 11] rfl
    rw [h2] at hF
    try dsimp only at hF
    refine lv_aload_n hx hb dX4_node_76 rfl (lv_at hl 0 rfl) ?_
    refine va_get (D := (dC, dI)) (ci := 4) (v := .int hp1_73) (C := RX4) (T := TX4) (N := 25) hx hb hts (xcons inX4) hown hK hP 0 rfl rfl 6 (by decide) hw2 (fun _ h9 => h9) rfl dX4_node_77 ?_
    refine lv_if_ne (tgt := 102) hx hb dX4_node_80 (by decide) (fun h3 => ?_) (fun h3 => ?_)
    · have hF := hF.trans (if_neg h3)
      by_cases h4 : lo < 1024
      case neg =>
        have hF := hF.trans (if_neg h4)
        obtain ⟨z, hz⟩ := hsome
        rw [hz] at hF
        cases hF
      have hF := hF.trans (if_pos h4)
      refine lv_aload_n hx hb dX4_node_102 rfl (lv_at hl 0 rfl) ?_
      refine va_get (D := (dC, dI)) (ci := 4) (v := .ref (ad 7)) (C := RX4) (T := TX4) (N := 25) hx hb hts (xcons inX4) hown hK hP 0 rfl rfl 19 (by decide) hw3 (fun _ h9 => h9) rfl dX4_node_103 ?_
      refine lv_aload_n hx hb dX4_node_106 rfl (lv_at hl 0 rfl) ?_
      refine va_get (D := (dC, dI)) (ci := 4) (v := .int (nI lo)) (C := RX4) (T := TX4) (N := 25) hx hb hts (xcons inX4) hown hK hP 0 rfl rfl 18 (by decide) hw4 (fun _ h9 => h9) rfl dX4_node_107 ?_
      refine lv_iload_n hx hb dX4_node_110 rfl (lv_at hl 1 rfl) ?_
      refine xr_iast hx hb hK hP (xD hinj [0, 1, 2, 3, 4, 5, 6, 7, 8, 9, 10, 11] rfl (by decide) (by decide)) hS 7 0 rfl rfl lo (by omega) (by omega) dX4_node_111 (fun H locs hP hS => ?_)
      have hP : va_P (dC, dI) vwCl [(ad 0, .inr (4, [.int co, .int (nI nv), .int (nI nc), .ref (ad 1), .ref (ad 2), .ref (ad 3), .int hp1_73, .long bo1_73, .int (nI su1_73), .ref (ad 4), .ref (ad 5), .ref (ad 6), .int gh1_73, .int gv1_73, .int fo, .int bv, .long bc, .int (nd + 1), .int (nI lo), .ref (ad 7), .ref (ad 8), .ref (ad 9), .int (nI wa), .ref (ad 10), .ref (ad 11)])), (ad 1, .inl (cI, 40, .inl mt)), (ad 2, .inl (cI, 40, .inl mf)), (ad 3, .inl (cI, 40, .inl wt)), (ad 4, .inl (cL, 40, .inr (.inl ss1_73))), (ad 5, .inl (cZ, 40, .inl av1_73)), (ad 6, .inl (cI, 10, .inl re1_73)), (ad 7, .inl (cI, 1024, .inl (upd lh lo hv))), (ad 8, .inl (cI, 1024, .inl lw)), (ad 9, .inl (cL, 1024, .inr (.inl lb))), (ad 10, .inl (cI, 24, .inl wh)), (ad 11, .inl (cI, 24, .inl wv))] H := hP
      refine lv_aload_n hx hb dX4_node_112 rfl (lv_at hl 0 rfl) ?_
      refine va_get (D := (dC, dI)) (ci := 4) (v := .ref (ad 8)) (C := RX4) (T := TX4) (N := 25) hx hb hts (xcons inX4) hown hK hP 0 rfl rfl 20 (by decide) hw5 (fun _ h9 => h9) rfl dX4_node_113 ?_
      refine lv_aload_n hx hb dX4_node_116 rfl (lv_at hl 0 rfl) ?_
      refine va_get (D := (dC, dI)) (ci := 4) (v := .int (nI lo)) (C := RX4) (T := TX4) (N := 25) hx hb hts (xcons inX4) hown hK hP 0 rfl rfl 18 (by decide) hw4 (fun _ h9 => h9) rfl dX4_node_117 ?_
      refine lv_iload_n hx hb dX4_node_120 rfl (lv_at hl 2 rfl) ?_
      refine xr_iast hx hb hK hP (xD hinj [0, 1, 2, 3, 4, 5, 6, 7, 8, 9, 10, 11] rfl (by decide) (by decide)) hS 8 0 rfl rfl lo (by omega) (by omega) dX4_node_121 (fun H locs hP hS => ?_)
      have hP : va_P (dC, dI) vwCl [(ad 0, .inr (4, [.int co, .int (nI nv), .int (nI nc), .ref (ad 1), .ref (ad 2), .ref (ad 3), .int hp1_73, .long bo1_73, .int (nI su1_73), .ref (ad 4), .ref (ad 5), .ref (ad 6), .int gh1_73, .int gv1_73, .int fo, .int bv, .long bc, .int (nd + 1), .int (nI lo), .ref (ad 7), .ref (ad 8), .ref (ad 9), .int (nI wa), .ref (ad 10), .ref (ad 11)])), (ad 1, .inl (cI, 40, .inl mt)), (ad 2, .inl (cI, 40, .inl mf)), (ad 3, .inl (cI, 40, .inl wt)), (ad 4, .inl (cL, 40, .inr (.inl ss1_73))), (ad 5, .inl (cZ, 40, .inl av1_73)), (ad 6, .inl (cI, 10, .inl re1_73)), (ad 7, .inl (cI, 1024, .inl (upd lh lo hv))), (ad 8, .inl (cI, 1024, .inl (upd lw lo vl))), (ad 9, .inl (cL, 1024, .inr (.inl lb))), (ad 10, .inl (cI, 24, .inl wh)), (ad 11, .inl (cI, 24, .inl wv))] H := hP
      refine lv_aload_n hx hb dX4_node_122 rfl (lv_at hl 0 rfl) ?_
      refine va_get (D := (dC, dI)) (ci := 4) (v := .ref (ad 9)) (C := RX4) (T := TX4) (N := 25) hx hb hts (xcons inX4) hown hK hP 0 rfl rfl 21 (by decide) hw6 (fun _ h9 => h9) rfl dX4_node_123 ?_
      refine lv_aload_n hx hb dX4_node_126 rfl (lv_at hl 0 rfl) ?_
      refine va_get (D := (dC, dI)) (ci := 4) (v := .int (nI lo)) (C := RX4) (T := TX4) (N := 25) hx hb hts (xcons inX4) hown hK hP 0 rfl rfl 18 (by decide) hw4 (fun _ h9 => h9) rfl dX4_node_127 ?_
      refine lv_aload_n hx hb dX4_node_130 rfl (lv_at hl 0 rfl) ?_
      refine va_get (D := (dC, dI)) (ci := 4) (v := .int fo) (C := RX4) (T := TX4) (N := 25) hx hb hts (xcons inX4) hown hK hP 0 rfl rfl 14 (by decide) hw7 (fun _ h9 => h9) rfl dX4_node_131 ?_
      have hJ134 : ∀ (H : Heap) (locs : List Loc), va_P (dC, dI) vwCl [(ad 0, .inr (4, [.int co, .int (nI nv), .int (nI nc), .ref (ad 1), .ref (ad 2), .ref (ad 3), .int hp1_73, .long bo1_73, .int (nI su1_73), .ref (ad 4), .ref (ad 5), .ref (ad 6), .int gh1_73, .int gv1_73, .int fo, .int bv, .long bc, .int (nd + 1), .int (nI lo), .ref (ad 7), .ref (ad 8), .ref (ad 9), .int (nI wa), .ref (ad 10), .ref (ad 11)])), (ad 1, .inl (cI, 40, .inl mt)), (ad 2, .inl (cI, 40, .inl mf)), (ad 3, .inl (cI, 40, .inl wt)), (ad 4, .inl (cL, 40, .inr (.inl ss1_73))), (ad 5, .inl (cZ, 40, .inl av1_73)), (ad 6, .inl (cI, 10, .inl re1_73)), (ad 7, .inl (cI, 1024, .inl (upd lh lo hv))), (ad 8, .inl (cI, 1024, .inl (upd lw lo vl))), (ad 9, .inl (cL, 1024, .inr (.inl lb))), (ad 10, .inl (cI, 24, .inl wh)), (ad 11, .inl (cI, 24, .inl wv))] H → va_S (xA ad [0, 1, 2, 3, 4, 5, 6, 7, 8, 9, 10, 11]) s.heap H locs → W p l e (headSpec wsX4_node ({ frames := 5, cells := 0, slots := 0, locals := 121 })).room s m [.ref (ad 0), .int hv, .int vl].toArray below meth c H locs 0 0 (MQ below (va_Qv (fun u => m_node nv nc mt mf wt hp bo su ss av re gh gv fo bv bc nd lo lh lw lb wa wh wv hv vl = some u) (xB (dC, dI) vwCl (fun (u : Int32 × Int64 × Nat × (Nat → Int64) × (Nat → Int32) × (Nat → Int32) × Int32 × Int32 × Int32 × Int32 × Int64 × Int32 × Nat × (Nat → Int32) × (Nat → Int32) × (Nat → Int64) × Nat × (Nat → Int32) × (Nat → Int32)) => match u with | (hp1, bo1, su1, ss1, av1, re1, gh1, gv1, fo1, bv1, bc1, nd1, lo1, lh1, lw1, lb1, wa1, wh1, wv1) => [(ad 0, .inr (4, [.int co, .int (nI nv), .int (nI nc), .ref (ad 1), .ref (ad 2), .ref (ad 3), .int hp1, .long bo1, .int (nI su1), .ref (ad 4), .ref (ad 5), .ref (ad 6), .int gh1, .int gv1, .int fo1, .int bv1, .long bc1, .int nd1, .int (nI lo1), .ref (ad 7), .ref (ad 8), .ref (ad 9), .int (nI wa1), .ref (ad 10), .ref (ad 11)])), (ad 1, .inl (cI, 40, .inl mt)), (ad 2, .inl (cI, 40, .inl mf)), (ad 3, .inl (cI, 40, .inl wt)), (ad 4, .inl (cL, 40, .inr (.inl ss1))), (ad 5, .inl (cZ, 40, .inl av1)), (ad 6, .inl (cI, 10, .inl re1)), (ad 7, .inl (cI, 1024, .inl lh1)), (ad 8, .inl (cI, 1024, .inl lw1)), (ad 9, .inl (cL, 1024, .inr (.inl lb1))), (ad 10, .inl (cI, 24, .inl wh1)), (ad 11, .inl (cI, 24, .inl wv1))])) (xA ad [0, 1, 2, 3, 4, 5, 6, 7, 8, 9, 10, 11])) [.ref (ad 0), .int hv, .int vl].toArray s 0 0 (xA ad [0, 1, 2, 3, 4, 5, 6, 7, 8, 9, 10, 11])) (F0 m 147 ls [.long ((if fo = 0 then (-1) else bc) : Int64), .int (nI lo), .ref (ad 9)]) := by
        intro H locs hP hS
        refine xr_last hx hb hK hP (xD hinj [0, 1, 2, 3, 4, 5, 6, 7, 8, 9, 10, 11] rfl (by decide) (by decide)) hS 9 1 rfl rfl lo (by omega) (by omega) dX4_node_147 (fun H locs hP hS => ?_)
        have hP : va_P (dC, dI) vwCl [(ad 0, .inr (4, [.int co, .int (nI nv), .int (nI nc), .ref (ad 1), .ref (ad 2), .ref (ad 3), .int hp1_73, .long bo1_73, .int (nI su1_73), .ref (ad 4), .ref (ad 5), .ref (ad 6), .int gh1_73, .int gv1_73, .int fo, .int bv, .long bc, .int (nd + 1), .int (nI lo), .ref (ad 7), .ref (ad 8), .ref (ad 9), .int (nI wa), .ref (ad 10), .ref (ad 11)])), (ad 1, .inl (cI, 40, .inl mt)), (ad 2, .inl (cI, 40, .inl mf)), (ad 3, .inl (cI, 40, .inl wt)), (ad 4, .inl (cL, 40, .inr (.inl ss1_73))), (ad 5, .inl (cZ, 40, .inl av1_73)), (ad 6, .inl (cI, 10, .inl re1_73)), (ad 7, .inl (cI, 1024, .inl (upd lh lo hv))), (ad 8, .inl (cI, 1024, .inl (upd lw lo vl))), (ad 9, .inl (cL, 1024, .inr (.inl (vp_updL lb lo ((if fo = 0 then (-1) else bc) : Int64))))), (ad 10, .inl (cI, 24, .inl wh)), (ad 11, .inl (cI, 24, .inl wv))] H := hP
        refine lv_aload_n hx hb dX4_node_148 rfl (lv_at hl 0 rfl) ?_
        refine lv_dup hx hb dX4_node_149 rfl ?_
        refine va_get (D := (dC, dI)) (ci := 4) (v := .int (nI lo)) (C := RX4) (T := TX4) (N := 25) hx hb hts (xcons inX4) hown hK hP 0 rfl rfl 18 (by decide) hw4 (fun _ h9 => h9) rfl dX4_node_150 ?_
        refine lv_iconst (v := 1) hx hb dX4_node_153 (by decide) ?_
        refine xr_add1 hx hb dX4_node_154 ?_
        refine va_put (D := (dC, dI)) (ci := 4) (v := .int (nI (lo + 1))) (ty := .int) (C := RX4) (T := TX4) (N := 25) hx hb hts (xcons inX4) tyX4 tyX4_ok nX4 hown hK hP (xD hinj [0, 1, 2, 3, 4, 5, 6, 7, 8, 9, 10, 11] rfl (by decide) (by decide)) hS 0 rfl rfl 18 (by decide) hw4 (fun _ h9 => h9) rfl (by decide +kernel) rfl rfl (Nat.le_of_ble_eq_true rfl) dX4_node_155 (fun H locs hP _ hS => ?_)
        have hP : va_P (dC, dI) vwCl [(ad 0, .inr (4, [.int co, .int (nI nv), .int (nI nc), .ref (ad 1), .ref (ad 2), .ref (ad 3), .int hp1_73, .long bo1_73, .int (nI su1_73), .ref (ad 4), .ref (ad 5), .ref (ad 6), .int gh1_73, .int gv1_73, .int fo, .int bv, .long bc, .int (nd + 1), .int (nI (lo + 1)), .ref (ad 7), .ref (ad 8), .ref (ad 9), .int (nI wa), .ref (ad 10), .ref (ad 11)])), (ad 1, .inl (cI, 40, .inl mt)), (ad 2, .inl (cI, 40, .inl mf)), (ad 3, .inl (cI, 40, .inl wt)), (ad 4, .inl (cL, 40, .inr (.inl ss1_73))), (ad 5, .inl (cZ, 40, .inl av1_73)), (ad 6, .inl (cI, 10, .inl re1_73)), (ad 7, .inl (cI, 1024, .inl (upd lh lo hv))), (ad 8, .inl (cI, 1024, .inl (upd lw lo vl))), (ad 9, .inl (cL, 1024, .inr (.inl (vp_updL lb lo ((if fo = 0 then (-1) else bc) : Int64))))), (ad 10, .inl (cI, 24, .inl wh)), (ad 11, .inl (cI, 24, .inl wv))] H := hP
        exact W.vret hx hb hr (fun t ht hW => ⟨⟨(hp1_73, bo1_73, su1_73, ss1_73, av1_73, re1_73, gh1_73, gv1_73, fo, bv, bc, (nd + 1), (lo + 1), (upd lh lo hv), (upd lw lo vl), (vp_updL lb lo ((if fo = 0 then (-1) else bc) : Int64)), wa, wh, wv), rfl, hF, xBi ht hP⟩, hS.F ht⟩) hS.2.2 dX4_node_158
      refine lv_if_eq (tgt := 144) hx hb dX4_node_134 (by decide) (fun h5 => ?_) (fun h5 => ?_)
      ·
        refine lv_ldc2 hx hb hown hw8 dX4_node_144 ?_
        have hJ9 := hJ134 _ _ hP hS
        have hv9 : ((if fo = 0 then (-1) else bc) : Int64) = (-1) := if_pos h5
        rw [hv9] at hJ9
        exact hJ9
      ·
        refine lv_aload_n hx hb dX4_node_137 rfl (lv_at hl 0 rfl) ?_
        refine va_get (D := (dC, dI)) (ci := 4) (v := .long bc) (C := RX4) (T := TX4) (N := 25) hx hb hts (xcons inX4) hown hK hP 0 rfl rfl 16 (by decide) hw9 (fun _ h9 => h9) rfl dX4_node_138 ?_
        refine lv_goto (tgt := 147) hx hb dX4_node_141 (by decide) ?_
        have hJ9 := hJ134 _ _ hP hS
        have hv9 : ((if fo = 0 then (-1) else bc) : Int64) = bc := if_neg h5
        rw [hv9] at hJ9
        exact hJ9
    · have hF := hF.trans (if_pos h3)
      refine lv_aload_n hx hb dX4_node_83 rfl (lv_at hl 0 rfl) ?_
      refine va_get (D := (dC, dI)) (ci := 4) (v := .int fo) (C := RX4) (T := TX4) (N := 25) hx hb hts (xcons inX4) hown hK hP 0 rfl rfl 14 (by decide) hw7 (fun _ h9 => h9) rfl dX4_node_84 ?_
      refine lv_if_eq (tgt := 159) hx hb dX4_node_87 (by decide) (fun h6 => ?_) (fun h6 => ?_)
      · have hF := hF.trans (if_pos h6)
        by_cases h7 : wa < 23
        case neg =>
          have hF := hF.trans (if_neg h7)
          obtain ⟨z, hz⟩ := hsome
          rw [hz] at hF
          cases hF
        have hF := hF.trans (if_pos h7)
        refine lv_aload_n hx hb dX4_node_159 rfl (lv_at hl 0 rfl) ?_
        refine lv_iload_n hx hb dX4_node_160 rfl (lv_at hl 1 rfl) ?_
        refine lv_iload_n hx hb dX4_node_161 rfl (lv_at hl 2 rfl) ?_
        refine xro_i (va_runV (As := [.int hv, .int vl]) (rest := []) ⟨hx, hb, hml, hown, hts⟩ (k_firstOf l dC dI cI cL cZ ad hinj co nv nc mt mf wt hp1_73 bo1_73 su1_73 ss1_73 av1_73 re1_73 gh1_73 gv1_73 fo bv bc (nd + 1) lo lh lw lb wa wh wv (by omega) (by omega) hv vl) (xcwV 2 hts wd_710 wd_39 wd_707 wd_709 wd_30 rfl rfl (by decide +kernel) ⟨Nat.le_of_ble_eq_true rfl, Nat.le_of_ble_eq_true rfl⟩) (xpreV (va_recv hK hP rfl (q0 := 0) rfl) hP hK) rfl rfl hl.1 rfl (lv_room (Nat.le_of_ble_eq_true rfl)) dX4_node_162 ⟨Nat.le_of_ble_eq_true rfl, Nat.le_of_ble_eq_true rfl⟩) hS (fun H locs hk hS => ?_)
        have hP := xkeep hP hk
        refine lv_istore_n (lv' := [(3, .int (m_firstOf nv nc mt mf hv vl)), (0, .ref (ad 0)), (1, .int hv), (2, .int vl)]) hx hb dX4_node_165 rfl hl (by decide) rfl (fun ls hl => ?_)
        refine lv_iconst (v := 1) hx hb dX4_node_166 (by decide) ?_
        refine lv_iload_n hx hb dX4_node_167 rfl (lv_at hl 0 rfl) ?_
        refine lv_iconst (v := 2) hx hb dX4_node_168 (by decide) ?_
        refine lv_idiv hx hb dX4_node_169 (by decide) ?_
        refine lv_ishl hx hb dX4_node_170 ?_
        refine lv_istore (lv' := [(4, .int ((1 : Int32) <<< (((m_firstOf nv nc mt mf hv vl) / 2) &&& 31))), (3, .int (m_firstOf nv nc mt mf hv vl)), (0, .ref (ad 0)), (1, .int hv), (2, .int vl)]) hx hb dX4_node_171 hl (by decide) rfl (fun ls hl => ?_)
        refine lv_aload_n hx hb dX4_node_173 rfl (lv_at hl 2 rfl) ?_
        refine lv_iload_n hx hb dX4_node_174 rfl (lv_at hl 3 rfl) ?_
        refine lv_iload hx hb dX4_node_175 (lv_at hl 0 rfl) ?_
        refine lv_ior hx hb dX4_node_177 ?_
        refine lv_iload_n hx hb dX4_node_178 rfl (lv_at hl 1 rfl) ?_
        refine lv_iconst (v := 2) hx hb dX4_node_179 (by decide) ?_
        refine lv_irem hx hb dX4_node_180 (by decide) ?_
        have hJ181 : ∀ (H : Heap) (locs : List Loc), va_P (dC, dI) vwCl [(ad 0, .inr (4, [.int co, .int (nI nv), .int (nI nc), .ref (ad 1), .ref (ad 2), .ref (ad 3), .int hp1_73, .long bo1_73, .int (nI su1_73), .ref (ad 4), .ref (ad 5), .ref (ad 6), .int gh1_73, .int gv1_73, .int fo, .int bv, .long bc, .int (nd + 1), .int (nI lo), .ref (ad 7), .ref (ad 8), .ref (ad 9), .int (nI wa), .ref (ad 10), .ref (ad 11)])), (ad 1, .inl (cI, 40, .inl mt)), (ad 2, .inl (cI, 40, .inl mf)), (ad 3, .inl (cI, 40, .inl wt)), (ad 4, .inl (cL, 40, .inr (.inl ss1_73))), (ad 5, .inl (cZ, 40, .inl av1_73)), (ad 6, .inl (cI, 10, .inl re1_73)), (ad 7, .inl (cI, 1024, .inl lh)), (ad 8, .inl (cI, 1024, .inl lw)), (ad 9, .inl (cL, 1024, .inr (.inl lb))), (ad 10, .inl (cI, 24, .inl wh)), (ad 11, .inl (cI, 24, .inl wv))] H → va_S (xA ad [0, 1, 2, 3, 4, 5, 6, 7, 8, 9, 10, 11]) s.heap H locs → W p l e (headSpec wsX4_node ({ frames := 5, cells := 0, slots := 0, locals := 121 })).room s m [.ref (ad 0), .int hv, .int vl].toArray below meth c H locs 0 0 (MQ below (va_Qv (fun u => m_node nv nc mt mf wt hp bo su ss av re gh gv fo bv bc nd lo lh lw lb wa wh wv hv vl = some u) (xB (dC, dI) vwCl (fun (u : Int32 × Int64 × Nat × (Nat → Int64) × (Nat → Int32) × (Nat → Int32) × Int32 × Int32 × Int32 × Int32 × Int64 × Int32 × Nat × (Nat → Int32) × (Nat → Int32) × (Nat → Int64) × Nat × (Nat → Int32) × (Nat → Int32)) => match u with | (hp1, bo1, su1, ss1, av1, re1, gh1, gv1, fo1, bv1, bc1, nd1, lo1, lh1, lw1, lb1, wa1, wh1, wv1) => [(ad 0, .inr (4, [.int co, .int (nI nv), .int (nI nc), .ref (ad 1), .ref (ad 2), .ref (ad 3), .int hp1, .long bo1, .int (nI su1), .ref (ad 4), .ref (ad 5), .ref (ad 6), .int gh1, .int gv1, .int fo1, .int bv1, .long bc1, .int nd1, .int (nI lo1), .ref (ad 7), .ref (ad 8), .ref (ad 9), .int (nI wa1), .ref (ad 10), .ref (ad 11)])), (ad 1, .inl (cI, 40, .inl mt)), (ad 2, .inl (cI, 40, .inl mf)), (ad 3, .inl (cI, 40, .inl wt)), (ad 4, .inl (cL, 40, .inr (.inl ss1))), (ad 5, .inl (cZ, 40, .inl av1)), (ad 6, .inl (cI, 10, .inl re1)), (ad 7, .inl (cI, 1024, .inl lh1)), (ad 8, .inl (cI, 1024, .inl lw1)), (ad 9, .inl (cL, 1024, .inr (.inl lb1))), (ad 10, .inl (cI, 24, .inl wh1)), (ad 11, .inl (cI, 24, .inl wv1))])) (xA ad [0, 1, 2, 3, 4, 5, 6, 7, 8, 9, 10, 11])) [.ref (ad 0), .int hv, .int vl].toArray s 0 0 (xA ad [0, 1, 2, 3, 4, 5, 6, 7, 8, 9, 10, 11])) (F0 m 192 ls [.int (if ((m_firstOf nv nc mt mf hv vl) - (m_firstOf nv nc mt mf hv vl) / 2 * 2) = 0 then vl else (vl ||| ((1 : Int32) <<< (((m_firstOf nv nc mt mf hv vl) / 2) &&& 31)))), .int (hv ||| ((1 : Int32) <<< (((m_firstOf nv nc mt mf hv vl) / 2) &&& 31))), .ref (ad 0)]) := by
          intro H locs hP hS
          refine xrw_v (va_runV (As := [.int (hv ||| ((1 : Int32) <<< (((m_firstOf nv nc mt mf hv vl) / 2) &&& 31))), .int (if ((m_firstOf nv nc mt mf hv vl) - (m_firstOf nv nc mt mf hv vl) / 2 * 2) = 0 then vl else (vl ||| ((1 : Int32) <<< (((m_firstOf nv nc mt mf hv vl) / 2) &&& 31))))]) (rest := []) ⟨hx, hb, hml, hown, hts⟩ (k_line l dC dI cI cL cZ ad hinj co nv nc mt mf wt hp1_73 bo1_73 su1_73 ss1_73 av1_73 re1_73 gh1_73 gv1_73 fo bv bc (nd + 1) lo lh lw lb wa wh wv (by omega) (hv ||| ((1 : Int32) <<< (((m_firstOf nv nc mt mf hv vl) / 2) &&& 31))) (if ((m_firstOf nv nc mt mf hv vl) - (m_firstOf nv nc mt mf hv vl) / 2 * 2) = 0 then vl else (vl ||| ((1 : Int32) <<< (((m_firstOf nv nc mt mf hv vl) / 2) &&& 31))))) (xcwV 2 hts wd_718 wd_39 wd_715 wd_717 wd_31 rfl rfl (by decide +kernel) ⟨Nat.le_of_ble_eq_true rfl, Nat.le_of_ble_eq_true rfl⟩) (xpreV (va_recv hK hP rfl (q0 := 0) rfl) hP hK) rfl rfl hl.1 rfl (lv_room (Nat.le_of_ble_eq_true rfl)) dX4_node_192 ⟨Nat.le_of_ble_eq_true rfl, Nat.le_of_ble_eq_true rfl⟩) hS (xAsub (by decide)) (fun u H locs h8 hB hk hS => ?_)
          obtain ⟨wh1_192, wv1_192, wa1_192⟩ := u
          have hP : va_P (dC, dI) vwCl [(ad 0, .inr (4, [.int co, .int (nI nv), .int (nI nc), .ref (ad 1), .ref (ad 2), .ref (ad 3), .int hp1_73, .long bo1_73, .int (nI su1_73), .ref (ad 4), .ref (ad 5), .ref (ad 6), .int gh1_73, .int gv1_73, .int fo, .int bv, .long bc, .int (nd + 1), .int (nI lo), .ref (ad 7), .ref (ad 8), .ref (ad 9), .int (nI wa1_192), .ref (ad 10), .ref (ad 11)])), (ad 1, .inl (cI, 40, .inl mt)), (ad 2, .inl (cI, 40, .inl mf)), (ad 3, .inl (cI, 40, .inl wt)), (ad 4, .inl (cL, 40, .inr (.inl ss1_73))), (ad 5, .inl (cZ, 40, .inl av1_73)), (ad 6, .inl (cI, 10, .inl re1_73)), (ad 7, .inl (cI, 1024, .inl lh)), (ad 8, .inl (cI, 1024, .inl lw)), (ad 9, .inl (cL, 1024, .inr (.inl lb))), (ad 10, .inl (cI, 24, .inl wh1_192)), (ad 11, .inl (cI, 24, .inl wv1_192))] H := va_P.sub hB [0, 1, 2, 3, 4, 5, 6, 7, 8, 9, 10, 11] rfl
          rw [h8] at hF
          try dsimp only at hF
          have hwa1 := line_wa h8
          refine lv_aload_n hx hb dX4_node_195 rfl (lv_at hl 2 rfl) ?_
          refine lv_iload_n hx hb dX4_node_196 rfl (lv_at hl 3 rfl) ?_
          refine lv_iload hx hb dX4_node_197 (lv_at hl 0 rfl) ?_
          refine lv_ior hx hb dX4_node_199 ?_
          refine lv_iload_n hx hb dX4_node_200 rfl (lv_at hl 1 rfl) ?_
          refine lv_iconst (v := 2) hx hb dX4_node_201 (by decide) ?_
          refine lv_irem hx hb dX4_node_202 (by decide) ?_
          have hJ203 : ∀ (H : Heap) (locs : List Loc), va_P (dC, dI) vwCl [(ad 0, .inr (4, [.int co, .int (nI nv), .int (nI nc), .ref (ad 1), .ref (ad 2), .ref (ad 3), .int hp1_73, .long bo1_73, .int (nI su1_73), .ref (ad 4), .ref (ad 5), .ref (ad 6), .int gh1_73, .int gv1_73, .int fo, .int bv, .long bc, .int (nd + 1), .int (nI lo), .ref (ad 7), .ref (ad 8), .ref (ad 9), .int (nI wa1_192), .ref (ad 10), .ref (ad 11)])), (ad 1, .inl (cI, 40, .inl mt)), (ad 2, .inl (cI, 40, .inl mf)), (ad 3, .inl (cI, 40, .inl wt)), (ad 4, .inl (cL, 40, .inr (.inl ss1_73))), (ad 5, .inl (cZ, 40, .inl av1_73)), (ad 6, .inl (cI, 10, .inl re1_73)), (ad 7, .inl (cI, 1024, .inl lh)), (ad 8, .inl (cI, 1024, .inl lw)), (ad 9, .inl (cL, 1024, .inr (.inl lb))), (ad 10, .inl (cI, 24, .inl wh1_192)), (ad 11, .inl (cI, 24, .inl wv1_192))] H → va_S (xA ad [0, 1, 2, 3, 4, 5, 6, 7, 8, 9, 10, 11]) s.heap H locs → W p l e (headSpec wsX4_node ({ frames := 5, cells := 0, slots := 0, locals := 121 })).room s m [.ref (ad 0), .int hv, .int vl].toArray below meth c H locs 0 0 (MQ below (va_Qv (fun u => m_node nv nc mt mf wt hp bo su ss av re gh gv fo bv bc nd lo lh lw lb wa wh wv hv vl = some u) (xB (dC, dI) vwCl (fun (u : Int32 × Int64 × Nat × (Nat → Int64) × (Nat → Int32) × (Nat → Int32) × Int32 × Int32 × Int32 × Int32 × Int64 × Int32 × Nat × (Nat → Int32) × (Nat → Int32) × (Nat → Int64) × Nat × (Nat → Int32) × (Nat → Int32)) => match u with | (hp1, bo1, su1, ss1, av1, re1, gh1, gv1, fo1, bv1, bc1, nd1, lo1, lh1, lw1, lb1, wa1, wh1, wv1) => [(ad 0, .inr (4, [.int co, .int (nI nv), .int (nI nc), .ref (ad 1), .ref (ad 2), .ref (ad 3), .int hp1, .long bo1, .int (nI su1), .ref (ad 4), .ref (ad 5), .ref (ad 6), .int gh1, .int gv1, .int fo1, .int bv1, .long bc1, .int nd1, .int (nI lo1), .ref (ad 7), .ref (ad 8), .ref (ad 9), .int (nI wa1), .ref (ad 10), .ref (ad 11)])), (ad 1, .inl (cI, 40, .inl mt)), (ad 2, .inl (cI, 40, .inl mf)), (ad 3, .inl (cI, 40, .inl wt)), (ad 4, .inl (cL, 40, .inr (.inl ss1))), (ad 5, .inl (cZ, 40, .inl av1)), (ad 6, .inl (cI, 10, .inl re1)), (ad 7, .inl (cI, 1024, .inl lh1)), (ad 8, .inl (cI, 1024, .inl lw1)), (ad 9, .inl (cL, 1024, .inr (.inl lb1))), (ad 10, .inl (cI, 24, .inl wh1)), (ad 11, .inl (cI, 24, .inl wv1))])) (xA ad [0, 1, 2, 3, 4, 5, 6, 7, 8, 9, 10, 11])) [.ref (ad 0), .int hv, .int vl].toArray s 0 0 (xA ad [0, 1, 2, 3, 4, 5, 6, 7, 8, 9, 10, 11])) (F0 m 214 ls [.int (if ((m_firstOf nv nc mt mf hv vl) - (m_firstOf nv nc mt mf hv vl) / 2 * 2) = 0 then (vl ||| ((1 : Int32) <<< (((m_firstOf nv nc mt mf hv vl) / 2) &&& 31))) else vl), .int (hv ||| ((1 : Int32) <<< (((m_firstOf nv nc mt mf hv vl) / 2) &&& 31))), .ref (ad 0)]) := by
            intro H locs hP hS
            refine xrw_v (va_runV (As := [.int (hv ||| ((1 : Int32) <<< (((m_firstOf nv nc mt mf hv vl) / 2) &&& 31))), .int (if ((m_firstOf nv nc mt mf hv vl) - (m_firstOf nv nc mt mf hv vl) / 2 * 2) = 0 then (vl ||| ((1 : Int32) <<< (((m_firstOf nv nc mt mf hv vl) / 2) &&& 31))) else vl)]) (rest := []) ⟨hx, hb, hml, hown, hts⟩ (k_line l dC dI cI cL cZ ad hinj co nv nc mt mf wt hp1_73 bo1_73 su1_73 ss1_73 av1_73 re1_73 gh1_73 gv1_73 fo bv bc (nd + 1) lo lh lw lb wa1_192 wh1_192 wv1_192 (by omega) (hv ||| ((1 : Int32) <<< (((m_firstOf nv nc mt mf hv vl) / 2) &&& 31))) (if ((m_firstOf nv nc mt mf hv vl) - (m_firstOf nv nc mt mf hv vl) / 2 * 2) = 0 then (vl ||| ((1 : Int32) <<< (((m_firstOf nv nc mt mf hv vl) / 2) &&& 31))) else vl)) (xcwV 2 hts wd_718 wd_39 wd_715 wd_717 wd_31 rfl rfl (by decide +kernel) ⟨Nat.le_of_ble_eq_true rfl, Nat.le_of_ble_eq_true rfl⟩) (xpreV (va_recv hK hP rfl (q0 := 0) rfl) hP hK) rfl rfl hl.1 rfl (lv_room (Nat.le_of_ble_eq_true rfl)) dX4_node_214 ⟨Nat.le_of_ble_eq_true rfl, Nat.le_of_ble_eq_true rfl⟩) hS (xAsub (by decide)) (fun u H locs h9 hB hk hS => ?_)
            obtain ⟨wh1_214, wv1_214, wa1_214⟩ := u
            have hP : va_P (dC, dI) vwCl [(ad 0, .inr (4, [.int co, .int (nI nv), .int (nI nc), .ref (ad 1), .ref (ad 2), .ref (ad 3), .int hp1_73, .long bo1_73, .int (nI su1_73), .ref (ad 4), .ref (ad 5), .ref (ad 6), .int gh1_73, .int gv1_73, .int fo, .int bv, .long bc, .int (nd + 1), .int (nI lo), .ref (ad 7), .ref (ad 8), .ref (ad 9), .int (nI wa1_214), .ref (ad 10), .ref (ad 11)])), (ad 1, .inl (cI, 40, .inl mt)), (ad 2, .inl (cI, 40, .inl mf)), (ad 3, .inl (cI, 40, .inl wt)), (ad 4, .inl (cL, 40, .inr (.inl ss1_73))), (ad 5, .inl (cZ, 40, .inl av1_73)), (ad 6, .inl (cI, 10, .inl re1_73)), (ad 7, .inl (cI, 1024, .inl lh)), (ad 8, .inl (cI, 1024, .inl lw)), (ad 9, .inl (cL, 1024, .inr (.inl lb))), (ad 10, .inl (cI, 24, .inl wh1_214)), (ad 11, .inl (cI, 24, .inl wv1_214))] H := va_P.sub hB [0, 1, 2, 3, 4, 5, 6, 7, 8, 9, 10, 11] rfl
            rw [h9] at hF
            try dsimp only at hF
            exact W.vret hx hb hr (fun t ht hW => ⟨⟨(hp1_73, bo1_73, su1_73, ss1_73, av1_73, re1_73, gh1_73, gv1_73, fo, bv, bc, (nd + 1), lo, lh, lw, lb, wa1_214, wh1_214, wv1_214), rfl, hF, xBi ht hP⟩, hS.F ht⟩) hS.2.2 dX4_node_217
          refine lv_if_ne (tgt := 213) hx hb dX4_node_203 (by decide) (fun h10 => ?_) (fun h10 => ?_)
          ·
            refine lv_iload_n hx hb dX4_node_213 rfl (lv_at hl 4 rfl) ?_
            have hJ9 := hJ203 _ _ hP hS
            have hv9 : (if ((m_firstOf nv nc mt mf hv vl) - (m_firstOf nv nc mt mf hv vl) / 2 * 2) = 0 then (vl ||| ((1 : Int32) <<< (((m_firstOf nv nc mt mf hv vl) / 2) &&& 31))) else vl) = vl := if_neg h10
            rw [hv9] at hJ9
            exact hJ9
          ·
            refine lv_iload_n hx hb dX4_node_206 rfl (lv_at hl 4 rfl) ?_
            refine lv_iload hx hb dX4_node_207 (lv_at hl 0 rfl) ?_
            refine lv_ior hx hb dX4_node_209 ?_
            refine lv_goto (tgt := 214) hx hb dX4_node_210 (by decide) ?_
            have hJ9 := hJ203 _ _ hP hS
            have hv9 : (if ((m_firstOf nv nc mt mf hv vl) - (m_firstOf nv nc mt mf hv vl) / 2 * 2) = 0 then (vl ||| ((1 : Int32) <<< (((m_firstOf nv nc mt mf hv vl) / 2) &&& 31))) else vl) = (vl ||| ((1 : Int32) <<< (((m_firstOf nv nc mt mf hv vl) / 2) &&& 31))) := if_pos h10
            rw [hv9] at hJ9
            exact hJ9
        refine lv_if_ne (tgt := 188) hx hb dX4_node_181 (by decide) (fun h11 => ?_) (fun h11 => ?_)
        ·
          refine lv_iload_n hx hb dX4_node_188 rfl (lv_at hl 4 rfl) ?_
          refine lv_iload hx hb dX4_node_189 (lv_at hl 0 rfl) ?_
          refine lv_ior hx hb dX4_node_191 ?_
          have hJ9 := hJ181 _ _ hP hS
          have hv9 : (if ((m_firstOf nv nc mt mf hv vl) - (m_firstOf nv nc mt mf hv vl) / 2 * 2) = 0 then vl else (vl ||| ((1 : Int32) <<< (((m_firstOf nv nc mt mf hv vl) / 2) &&& 31)))) = (vl ||| ((1 : Int32) <<< (((m_firstOf nv nc mt mf hv vl) / 2) &&& 31))) := if_neg h11
          rw [hv9] at hJ9
          exact hJ9
        ·
          refine lv_iload_n hx hb dX4_node_184 rfl (lv_at hl 4 rfl) ?_
          refine lv_goto (tgt := 192) hx hb dX4_node_185 (by decide) ?_
          have hJ9 := hJ181 _ _ hP hS
          have hv9 : (if ((m_firstOf nv nc mt mf hv vl) - (m_firstOf nv nc mt mf hv vl) / 2 * 2) = 0 then vl else (vl ||| ((1 : Int32) <<< (((m_firstOf nv nc mt mf hv vl) / 2) &&& 31)))) = vl := if_pos h11
          rw [hv9] at hJ9
          exact hJ9
      · have hF := hF.trans (if_neg h6)
        refine lv_aload_n hx hb dX4_node_90 rfl (lv_at hl 0 rfl) ?_
        refine va_get (D := (dC, dI)) (ci := 4) (v := .long bc) (C := RX4) (T := TX4) (N := 25) hx hb hts (xcons inX4) hown hK hP 0 rfl rfl 16 (by decide) hw9 (fun _ h9 => h9) rfl dX4_node_91 ?_
        refine lv_aload_n hx hb dX4_node_94 rfl (lv_at hl 0 rfl) ?_
        refine va_get (D := (dC, dI)) (ci := 4) (v := .long bo1_73) (C := RX4) (T := TX4) (N := 25) hx hb hts (xcons inX4) hown hK hP 0 rfl rfl 7 (by decide) hw10 (fun _ h9 => h9) rfl dX4_node_95 ?_
        refine W.lcmp hx hb dX4_node_98 ?_
        refine lv_if_gt (tgt := 159) hx hb dX4_node_99 (by decide) (fun h12 => ?_) (fun h12 => ?_)
        · have hF := hF.trans (if_pos h12)
          by_cases h13 : wa < 23
          case neg =>
            have hF := hF.trans (if_neg h13)
            obtain ⟨z, hz⟩ := hsome
            rw [hz] at hF
            cases hF
          have hF := hF.trans (if_pos h13)
          refine lv_aload_n hx hb dX4_node_159 rfl (lv_at hl 0 rfl) ?_
          refine lv_iload_n hx hb dX4_node_160 rfl (lv_at hl 1 rfl) ?_
          refine lv_iload_n hx hb dX4_node_161 rfl (lv_at hl 2 rfl) ?_
          refine xro_i (va_runV (As := [.int hv, .int vl]) (rest := []) ⟨hx, hb, hml, hown, hts⟩ (k_firstOf l dC dI cI cL cZ ad hinj co nv nc mt mf wt hp1_73 bo1_73 su1_73 ss1_73 av1_73 re1_73 gh1_73 gv1_73 fo bv bc (nd + 1) lo lh lw lb wa wh wv (by omega) (by omega) hv vl) (xcwV 2 hts wd_710 wd_39 wd_707 wd_709 wd_30 rfl rfl (by decide +kernel) ⟨Nat.le_of_ble_eq_true rfl, Nat.le_of_ble_eq_true rfl⟩) (xpreV (va_recv hK hP rfl (q0 := 0) rfl) hP hK) rfl rfl hl.1 rfl (lv_room (Nat.le_of_ble_eq_true rfl)) dX4_node_162 ⟨Nat.le_of_ble_eq_true rfl, Nat.le_of_ble_eq_true rfl⟩) hS (fun H locs hk hS => ?_)
          have hP := xkeep hP hk
          refine lv_istore_n (lv' := [(3, .int (m_firstOf nv nc mt mf hv vl)), (0, .ref (ad 0)), (1, .int hv), (2, .int vl)]) hx hb dX4_node_165 rfl hl (by decide) rfl (fun ls hl => ?_)
          refine lv_iconst (v := 1) hx hb dX4_node_166 (by decide) ?_
          refine lv_iload_n hx hb dX4_node_167 rfl (lv_at hl 0 rfl) ?_
          refine lv_iconst (v := 2) hx hb dX4_node_168 (by decide) ?_
          refine lv_idiv hx hb dX4_node_169 (by decide) ?_
          refine lv_ishl hx hb dX4_node_170 ?_
          refine lv_istore (lv' := [(4, .int ((1 : Int32) <<< (((m_firstOf nv nc mt mf hv vl) / 2) &&& 31))), (3, .int (m_firstOf nv nc mt mf hv vl)), (0, .ref (ad 0)), (1, .int hv), (2, .int vl)]) hx hb dX4_node_171 hl (by decide) rfl (fun ls hl => ?_)
          refine lv_aload_n hx hb dX4_node_173 rfl (lv_at hl 2 rfl) ?_
          refine lv_iload_n hx hb dX4_node_174 rfl (lv_at hl 3 rfl) ?_
          refine lv_iload hx hb dX4_node_175 (lv_at hl 0 rfl) ?_
          refine lv_ior hx hb dX4_node_177 ?_
          refine lv_iload_n hx hb dX4_node_178 rfl (lv_at hl 1 rfl) ?_
          refine lv_iconst (v := 2) hx hb dX4_node_179 (by decide) ?_
          refine lv_irem hx hb dX4_node_180 (by decide) ?_
          have hJ181 : ∀ (H : Heap) (locs : List Loc), va_P (dC, dI) vwCl [(ad 0, .inr (4, [.int co, .int (nI nv), .int (nI nc), .ref (ad 1), .ref (ad 2), .ref (ad 3), .int hp1_73, .long bo1_73, .int (nI su1_73), .ref (ad 4), .ref (ad 5), .ref (ad 6), .int gh1_73, .int gv1_73, .int fo, .int bv, .long bc, .int (nd + 1), .int (nI lo), .ref (ad 7), .ref (ad 8), .ref (ad 9), .int (nI wa), .ref (ad 10), .ref (ad 11)])), (ad 1, .inl (cI, 40, .inl mt)), (ad 2, .inl (cI, 40, .inl mf)), (ad 3, .inl (cI, 40, .inl wt)), (ad 4, .inl (cL, 40, .inr (.inl ss1_73))), (ad 5, .inl (cZ, 40, .inl av1_73)), (ad 6, .inl (cI, 10, .inl re1_73)), (ad 7, .inl (cI, 1024, .inl lh)), (ad 8, .inl (cI, 1024, .inl lw)), (ad 9, .inl (cL, 1024, .inr (.inl lb))), (ad 10, .inl (cI, 24, .inl wh)), (ad 11, .inl (cI, 24, .inl wv))] H → va_S (xA ad [0, 1, 2, 3, 4, 5, 6, 7, 8, 9, 10, 11]) s.heap H locs → W p l e (headSpec wsX4_node ({ frames := 5, cells := 0, slots := 0, locals := 121 })).room s m [.ref (ad 0), .int hv, .int vl].toArray below meth c H locs 0 0 (MQ below (va_Qv (fun u => m_node nv nc mt mf wt hp bo su ss av re gh gv fo bv bc nd lo lh lw lb wa wh wv hv vl = some u) (xB (dC, dI) vwCl (fun (u : Int32 × Int64 × Nat × (Nat → Int64) × (Nat → Int32) × (Nat → Int32) × Int32 × Int32 × Int32 × Int32 × Int64 × Int32 × Nat × (Nat → Int32) × (Nat → Int32) × (Nat → Int64) × Nat × (Nat → Int32) × (Nat → Int32)) => match u with | (hp1, bo1, su1, ss1, av1, re1, gh1, gv1, fo1, bv1, bc1, nd1, lo1, lh1, lw1, lb1, wa1, wh1, wv1) => [(ad 0, .inr (4, [.int co, .int (nI nv), .int (nI nc), .ref (ad 1), .ref (ad 2), .ref (ad 3), .int hp1, .long bo1, .int (nI su1), .ref (ad 4), .ref (ad 5), .ref (ad 6), .int gh1, .int gv1, .int fo1, .int bv1, .long bc1, .int nd1, .int (nI lo1), .ref (ad 7), .ref (ad 8), .ref (ad 9), .int (nI wa1), .ref (ad 10), .ref (ad 11)])), (ad 1, .inl (cI, 40, .inl mt)), (ad 2, .inl (cI, 40, .inl mf)), (ad 3, .inl (cI, 40, .inl wt)), (ad 4, .inl (cL, 40, .inr (.inl ss1))), (ad 5, .inl (cZ, 40, .inl av1)), (ad 6, .inl (cI, 10, .inl re1)), (ad 7, .inl (cI, 1024, .inl lh1)), (ad 8, .inl (cI, 1024, .inl lw1)), (ad 9, .inl (cL, 1024, .inr (.inl lb1))), (ad 10, .inl (cI, 24, .inl wh1)), (ad 11, .inl (cI, 24, .inl wv1))])) (xA ad [0, 1, 2, 3, 4, 5, 6, 7, 8, 9, 10, 11])) [.ref (ad 0), .int hv, .int vl].toArray s 0 0 (xA ad [0, 1, 2, 3, 4, 5, 6, 7, 8, 9, 10, 11])) (F0 m 192 ls [.int (if ((m_firstOf nv nc mt mf hv vl) - (m_firstOf nv nc mt mf hv vl) / 2 * 2) = 0 then vl else (vl ||| ((1 : Int32) <<< (((m_firstOf nv nc mt mf hv vl) / 2) &&& 31)))), .int (hv ||| ((1 : Int32) <<< (((m_firstOf nv nc mt mf hv vl) / 2) &&& 31))), .ref (ad 0)]) := by
            intro H locs hP hS
            refine xrw_v (va_runV (As := [.int (hv ||| ((1 : Int32) <<< (((m_firstOf nv nc mt mf hv vl) / 2) &&& 31))), .int (if ((m_firstOf nv nc mt mf hv vl) - (m_firstOf nv nc mt mf hv vl) / 2 * 2) = 0 then vl else (vl ||| ((1 : Int32) <<< (((m_firstOf nv nc mt mf hv vl) / 2) &&& 31))))]) (rest := []) ⟨hx, hb, hml, hown, hts⟩ (k_line l dC dI cI cL cZ ad hinj co nv nc mt mf wt hp1_73 bo1_73 su1_73 ss1_73 av1_73 re1_73 gh1_73 gv1_73 fo bv bc (nd + 1) lo lh lw lb wa wh wv (by omega) (hv ||| ((1 : Int32) <<< (((m_firstOf nv nc mt mf hv vl) / 2) &&& 31))) (if ((m_firstOf nv nc mt mf hv vl) - (m_firstOf nv nc mt mf hv vl) / 2 * 2) = 0 then vl else (vl ||| ((1 : Int32) <<< (((m_firstOf nv nc mt mf hv vl) / 2) &&& 31))))) (xcwV 2 hts wd_718 wd_39 wd_715 wd_717 wd_31 rfl rfl (by decide +kernel) ⟨Nat.le_of_ble_eq_true rfl, Nat.le_of_ble_eq_true rfl⟩) (xpreV (va_recv hK hP rfl (q0 := 0) rfl) hP hK) rfl rfl hl.1 rfl (lv_room (Nat.le_of_ble_eq_true rfl)) dX4_node_192 ⟨Nat.le_of_ble_eq_true rfl, Nat.le_of_ble_eq_true rfl⟩) hS (xAsub (by decide)) (fun u H locs h14 hB hk hS => ?_)
            obtain ⟨wh1_192, wv1_192, wa1_192⟩ := u
            have hP : va_P (dC, dI) vwCl [(ad 0, .inr (4, [.int co, .int (nI nv), .int (nI nc), .ref (ad 1), .ref (ad 2), .ref (ad 3), .int hp1_73, .long bo1_73, .int (nI su1_73), .ref (ad 4), .ref (ad 5), .ref (ad 6), .int gh1_73, .int gv1_73, .int fo, .int bv, .long bc, .int (nd + 1), .int (nI lo), .ref (ad 7), .ref (ad 8), .ref (ad 9), .int (nI wa1_192), .ref (ad 10), .ref (ad 11)])), (ad 1, .inl (cI, 40, .inl mt)), (ad 2, .inl (cI, 40, .inl mf)), (ad 3, .inl (cI, 40, .inl wt)), (ad 4, .inl (cL, 40, .inr (.inl ss1_73))), (ad 5, .inl (cZ, 40, .inl av1_73)), (ad 6, .inl (cI, 10, .inl re1_73)), (ad 7, .inl (cI, 1024, .inl lh)), (ad 8, .inl (cI, 1024, .inl lw)), (ad 9, .inl (cL, 1024, .inr (.inl lb))), (ad 10, .inl (cI, 24, .inl wh1_192)), (ad 11, .inl (cI, 24, .inl wv1_192))] H := va_P.sub hB [0, 1, 2, 3, 4, 5, 6, 7, 8, 9, 10, 11] rfl
            rw [h14] at hF
            try dsimp only at hF
            have hwa1 := line_wa h14
            refine lv_aload_n hx hb dX4_node_195 rfl (lv_at hl 2 rfl) ?_
            refine lv_iload_n hx hb dX4_node_196 rfl (lv_at hl 3 rfl) ?_
            refine lv_iload hx hb dX4_node_197 (lv_at hl 0 rfl) ?_
            refine lv_ior hx hb dX4_node_199 ?_
            refine lv_iload_n hx hb dX4_node_200 rfl (lv_at hl 1 rfl) ?_
            refine lv_iconst (v := 2) hx hb dX4_node_201 (by decide) ?_
            refine lv_irem hx hb dX4_node_202 (by decide) ?_
            have hJ203 : ∀ (H : Heap) (locs : List Loc), va_P (dC, dI) vwCl [(ad 0, .inr (4, [.int co, .int (nI nv), .int (nI nc), .ref (ad 1), .ref (ad 2), .ref (ad 3), .int hp1_73, .long bo1_73, .int (nI su1_73), .ref (ad 4), .ref (ad 5), .ref (ad 6), .int gh1_73, .int gv1_73, .int fo, .int bv, .long bc, .int (nd + 1), .int (nI lo), .ref (ad 7), .ref (ad 8), .ref (ad 9), .int (nI wa1_192), .ref (ad 10), .ref (ad 11)])), (ad 1, .inl (cI, 40, .inl mt)), (ad 2, .inl (cI, 40, .inl mf)), (ad 3, .inl (cI, 40, .inl wt)), (ad 4, .inl (cL, 40, .inr (.inl ss1_73))), (ad 5, .inl (cZ, 40, .inl av1_73)), (ad 6, .inl (cI, 10, .inl re1_73)), (ad 7, .inl (cI, 1024, .inl lh)), (ad 8, .inl (cI, 1024, .inl lw)), (ad 9, .inl (cL, 1024, .inr (.inl lb))), (ad 10, .inl (cI, 24, .inl wh1_192)), (ad 11, .inl (cI, 24, .inl wv1_192))] H → va_S (xA ad [0, 1, 2, 3, 4, 5, 6, 7, 8, 9, 10, 11]) s.heap H locs → W p l e (headSpec wsX4_node ({ frames := 5, cells := 0, slots := 0, locals := 121 })).room s m [.ref (ad 0), .int hv, .int vl].toArray below meth c H locs 0 0 (MQ below (va_Qv (fun u => m_node nv nc mt mf wt hp bo su ss av re gh gv fo bv bc nd lo lh lw lb wa wh wv hv vl = some u) (xB (dC, dI) vwCl (fun (u : Int32 × Int64 × Nat × (Nat → Int64) × (Nat → Int32) × (Nat → Int32) × Int32 × Int32 × Int32 × Int32 × Int64 × Int32 × Nat × (Nat → Int32) × (Nat → Int32) × (Nat → Int64) × Nat × (Nat → Int32) × (Nat → Int32)) => match u with | (hp1, bo1, su1, ss1, av1, re1, gh1, gv1, fo1, bv1, bc1, nd1, lo1, lh1, lw1, lb1, wa1, wh1, wv1) => [(ad 0, .inr (4, [.int co, .int (nI nv), .int (nI nc), .ref (ad 1), .ref (ad 2), .ref (ad 3), .int hp1, .long bo1, .int (nI su1), .ref (ad 4), .ref (ad 5), .ref (ad 6), .int gh1, .int gv1, .int fo1, .int bv1, .long bc1, .int nd1, .int (nI lo1), .ref (ad 7), .ref (ad 8), .ref (ad 9), .int (nI wa1), .ref (ad 10), .ref (ad 11)])), (ad 1, .inl (cI, 40, .inl mt)), (ad 2, .inl (cI, 40, .inl mf)), (ad 3, .inl (cI, 40, .inl wt)), (ad 4, .inl (cL, 40, .inr (.inl ss1))), (ad 5, .inl (cZ, 40, .inl av1)), (ad 6, .inl (cI, 10, .inl re1)), (ad 7, .inl (cI, 1024, .inl lh1)), (ad 8, .inl (cI, 1024, .inl lw1)), (ad 9, .inl (cL, 1024, .inr (.inl lb1))), (ad 10, .inl (cI, 24, .inl wh1)), (ad 11, .inl (cI, 24, .inl wv1))])) (xA ad [0, 1, 2, 3, 4, 5, 6, 7, 8, 9, 10, 11])) [.ref (ad 0), .int hv, .int vl].toArray s 0 0 (xA ad [0, 1, 2, 3, 4, 5, 6, 7, 8, 9, 10, 11])) (F0 m 214 ls [.int (if ((m_firstOf nv nc mt mf hv vl) - (m_firstOf nv nc mt mf hv vl) / 2 * 2) = 0 then (vl ||| ((1 : Int32) <<< (((m_firstOf nv nc mt mf hv vl) / 2) &&& 31))) else vl), .int (hv ||| ((1 : Int32) <<< (((m_firstOf nv nc mt mf hv vl) / 2) &&& 31))), .ref (ad 0)]) := by
              intro H locs hP hS
              refine xrw_v (va_runV (As := [.int (hv ||| ((1 : Int32) <<< (((m_firstOf nv nc mt mf hv vl) / 2) &&& 31))), .int (if ((m_firstOf nv nc mt mf hv vl) - (m_firstOf nv nc mt mf hv vl) / 2 * 2) = 0 then (vl ||| ((1 : Int32) <<< (((m_firstOf nv nc mt mf hv vl) / 2) &&& 31))) else vl)]) (rest := []) ⟨hx, hb, hml, hown, hts⟩ (k_line l dC dI cI cL cZ ad hinj co nv nc mt mf wt hp1_73 bo1_73 su1_73 ss1_73 av1_73 re1_73 gh1_73 gv1_73 fo bv bc (nd + 1) lo lh lw lb wa1_192 wh1_192 wv1_192 (by omega) (hv ||| ((1 : Int32) <<< (((m_firstOf nv nc mt mf hv vl) / 2) &&& 31))) (if ((m_firstOf nv nc mt mf hv vl) - (m_firstOf nv nc mt mf hv vl) / 2 * 2) = 0 then (vl ||| ((1 : Int32) <<< (((m_firstOf nv nc mt mf hv vl) / 2) &&& 31))) else vl)) (xcwV 2 hts wd_718 wd_39 wd_715 wd_717 wd_31 rfl rfl (by decide +kernel) ⟨Nat.le_of_ble_eq_true rfl, Nat.le_of_ble_eq_true rfl⟩) (xpreV (va_recv hK hP rfl (q0 := 0) rfl) hP hK) rfl rfl hl.1 rfl (lv_room (Nat.le_of_ble_eq_true rfl)) dX4_node_214 ⟨Nat.le_of_ble_eq_true rfl, Nat.le_of_ble_eq_true rfl⟩) hS (xAsub (by decide)) (fun u H locs h15 hB hk hS => ?_)
              obtain ⟨wh1_214, wv1_214, wa1_214⟩ := u
              have hP : va_P (dC, dI) vwCl [(ad 0, .inr (4, [.int co, .int (nI nv), .int (nI nc), .ref (ad 1), .ref (ad 2), .ref (ad 3), .int hp1_73, .long bo1_73, .int (nI su1_73), .ref (ad 4), .ref (ad 5), .ref (ad 6), .int gh1_73, .int gv1_73, .int fo, .int bv, .long bc, .int (nd + 1), .int (nI lo), .ref (ad 7), .ref (ad 8), .ref (ad 9), .int (nI wa1_214), .ref (ad 10), .ref (ad 11)])), (ad 1, .inl (cI, 40, .inl mt)), (ad 2, .inl (cI, 40, .inl mf)), (ad 3, .inl (cI, 40, .inl wt)), (ad 4, .inl (cL, 40, .inr (.inl ss1_73))), (ad 5, .inl (cZ, 40, .inl av1_73)), (ad 6, .inl (cI, 10, .inl re1_73)), (ad 7, .inl (cI, 1024, .inl lh)), (ad 8, .inl (cI, 1024, .inl lw)), (ad 9, .inl (cL, 1024, .inr (.inl lb))), (ad 10, .inl (cI, 24, .inl wh1_214)), (ad 11, .inl (cI, 24, .inl wv1_214))] H := va_P.sub hB [0, 1, 2, 3, 4, 5, 6, 7, 8, 9, 10, 11] rfl
              rw [h15] at hF
              try dsimp only at hF
              exact W.vret hx hb hr (fun t ht hW => ⟨⟨(hp1_73, bo1_73, su1_73, ss1_73, av1_73, re1_73, gh1_73, gv1_73, fo, bv, bc, (nd + 1), lo, lh, lw, lb, wa1_214, wh1_214, wv1_214), rfl, hF, xBi ht hP⟩, hS.F ht⟩) hS.2.2 dX4_node_217
            refine lv_if_ne (tgt := 213) hx hb dX4_node_203 (by decide) (fun h16 => ?_) (fun h16 => ?_)
            ·
              refine lv_iload_n hx hb dX4_node_213 rfl (lv_at hl 4 rfl) ?_
              have hJ9 := hJ203 _ _ hP hS
              have hv9 : (if ((m_firstOf nv nc mt mf hv vl) - (m_firstOf nv nc mt mf hv vl) / 2 * 2) = 0 then (vl ||| ((1 : Int32) <<< (((m_firstOf nv nc mt mf hv vl) / 2) &&& 31))) else vl) = vl := if_neg h16
              rw [hv9] at hJ9
              exact hJ9
            ·
              refine lv_iload_n hx hb dX4_node_206 rfl (lv_at hl 4 rfl) ?_
              refine lv_iload hx hb dX4_node_207 (lv_at hl 0 rfl) ?_
              refine lv_ior hx hb dX4_node_209 ?_
              refine lv_goto (tgt := 214) hx hb dX4_node_210 (by decide) ?_
              have hJ9 := hJ203 _ _ hP hS
              have hv9 : (if ((m_firstOf nv nc mt mf hv vl) - (m_firstOf nv nc mt mf hv vl) / 2 * 2) = 0 then (vl ||| ((1 : Int32) <<< (((m_firstOf nv nc mt mf hv vl) / 2) &&& 31))) else vl) = (vl ||| ((1 : Int32) <<< (((m_firstOf nv nc mt mf hv vl) / 2) &&& 31))) := if_pos h16
              rw [hv9] at hJ9
              exact hJ9
          refine lv_if_ne (tgt := 188) hx hb dX4_node_181 (by decide) (fun h17 => ?_) (fun h17 => ?_)
          ·
            refine lv_iload_n hx hb dX4_node_188 rfl (lv_at hl 4 rfl) ?_
            refine lv_iload hx hb dX4_node_189 (lv_at hl 0 rfl) ?_
            refine lv_ior hx hb dX4_node_191 ?_
            have hJ9 := hJ181 _ _ hP hS
            have hv9 : (if ((m_firstOf nv nc mt mf hv vl) - (m_firstOf nv nc mt mf hv vl) / 2 * 2) = 0 then vl else (vl ||| ((1 : Int32) <<< (((m_firstOf nv nc mt mf hv vl) / 2) &&& 31)))) = (vl ||| ((1 : Int32) <<< (((m_firstOf nv nc mt mf hv vl) / 2) &&& 31))) := if_neg h17
            rw [hv9] at hJ9
            exact hJ9
          ·
            refine lv_iload_n hx hb dX4_node_184 rfl (lv_at hl 4 rfl) ?_
            refine lv_goto (tgt := 192) hx hb dX4_node_185 (by decide) ?_
            have hJ9 := hJ181 _ _ hP hS
            have hv9 : (if ((m_firstOf nv nc mt mf hv vl) - (m_firstOf nv nc mt mf hv vl) / 2 * 2) = 0 then vl else (vl ||| ((1 : Int32) <<< (((m_firstOf nv nc mt mf hv vl) / 2) &&& 31)))) = vl := if_pos h17
            rw [hv9] at hJ9
            exact hJ9
        · have hF := hF.trans (if_neg h12)
          by_cases h18 : lo < 1024
          case neg =>
            have hF := hF.trans (if_neg h18)
            obtain ⟨z, hz⟩ := hsome
            rw [hz] at hF
            cases hF
          have hF := hF.trans (if_pos h18)
          refine lv_aload_n hx hb dX4_node_102 rfl (lv_at hl 0 rfl) ?_
          refine va_get (D := (dC, dI)) (ci := 4) (v := .ref (ad 7)) (C := RX4) (T := TX4) (N := 25) hx hb hts (xcons inX4) hown hK hP 0 rfl rfl 19 (by decide) hw3 (fun _ h9 => h9) rfl dX4_node_103 ?_
          refine lv_aload_n hx hb dX4_node_106 rfl (lv_at hl 0 rfl) ?_
          refine va_get (D := (dC, dI)) (ci := 4) (v := .int (nI lo)) (C := RX4) (T := TX4) (N := 25) hx hb hts (xcons inX4) hown hK hP 0 rfl rfl 18 (by decide) hw4 (fun _ h9 => h9) rfl dX4_node_107 ?_
          refine lv_iload_n hx hb dX4_node_110 rfl (lv_at hl 1 rfl) ?_
          refine xr_iast hx hb hK hP (xD hinj [0, 1, 2, 3, 4, 5, 6, 7, 8, 9, 10, 11] rfl (by decide) (by decide)) hS 7 0 rfl rfl lo (by omega) (by omega) dX4_node_111 (fun H locs hP hS => ?_)
          have hP : va_P (dC, dI) vwCl [(ad 0, .inr (4, [.int co, .int (nI nv), .int (nI nc), .ref (ad 1), .ref (ad 2), .ref (ad 3), .int hp1_73, .long bo1_73, .int (nI su1_73), .ref (ad 4), .ref (ad 5), .ref (ad 6), .int gh1_73, .int gv1_73, .int fo, .int bv, .long bc, .int (nd + 1), .int (nI lo), .ref (ad 7), .ref (ad 8), .ref (ad 9), .int (nI wa), .ref (ad 10), .ref (ad 11)])), (ad 1, .inl (cI, 40, .inl mt)), (ad 2, .inl (cI, 40, .inl mf)), (ad 3, .inl (cI, 40, .inl wt)), (ad 4, .inl (cL, 40, .inr (.inl ss1_73))), (ad 5, .inl (cZ, 40, .inl av1_73)), (ad 6, .inl (cI, 10, .inl re1_73)), (ad 7, .inl (cI, 1024, .inl (upd lh lo hv))), (ad 8, .inl (cI, 1024, .inl lw)), (ad 9, .inl (cL, 1024, .inr (.inl lb))), (ad 10, .inl (cI, 24, .inl wh)), (ad 11, .inl (cI, 24, .inl wv))] H := hP
          refine lv_aload_n hx hb dX4_node_112 rfl (lv_at hl 0 rfl) ?_
          refine va_get (D := (dC, dI)) (ci := 4) (v := .ref (ad 8)) (C := RX4) (T := TX4) (N := 25) hx hb hts (xcons inX4) hown hK hP 0 rfl rfl 20 (by decide) hw5 (fun _ h9 => h9) rfl dX4_node_113 ?_
          refine lv_aload_n hx hb dX4_node_116 rfl (lv_at hl 0 rfl) ?_
          refine va_get (D := (dC, dI)) (ci := 4) (v := .int (nI lo)) (C := RX4) (T := TX4) (N := 25) hx hb hts (xcons inX4) hown hK hP 0 rfl rfl 18 (by decide) hw4 (fun _ h9 => h9) rfl dX4_node_117 ?_
          refine lv_iload_n hx hb dX4_node_120 rfl (lv_at hl 2 rfl) ?_
          refine xr_iast hx hb hK hP (xD hinj [0, 1, 2, 3, 4, 5, 6, 7, 8, 9, 10, 11] rfl (by decide) (by decide)) hS 8 0 rfl rfl lo (by omega) (by omega) dX4_node_121 (fun H locs hP hS => ?_)
          have hP : va_P (dC, dI) vwCl [(ad 0, .inr (4, [.int co, .int (nI nv), .int (nI nc), .ref (ad 1), .ref (ad 2), .ref (ad 3), .int hp1_73, .long bo1_73, .int (nI su1_73), .ref (ad 4), .ref (ad 5), .ref (ad 6), .int gh1_73, .int gv1_73, .int fo, .int bv, .long bc, .int (nd + 1), .int (nI lo), .ref (ad 7), .ref (ad 8), .ref (ad 9), .int (nI wa), .ref (ad 10), .ref (ad 11)])), (ad 1, .inl (cI, 40, .inl mt)), (ad 2, .inl (cI, 40, .inl mf)), (ad 3, .inl (cI, 40, .inl wt)), (ad 4, .inl (cL, 40, .inr (.inl ss1_73))), (ad 5, .inl (cZ, 40, .inl av1_73)), (ad 6, .inl (cI, 10, .inl re1_73)), (ad 7, .inl (cI, 1024, .inl (upd lh lo hv))), (ad 8, .inl (cI, 1024, .inl (upd lw lo vl))), (ad 9, .inl (cL, 1024, .inr (.inl lb))), (ad 10, .inl (cI, 24, .inl wh)), (ad 11, .inl (cI, 24, .inl wv))] H := hP
          refine lv_aload_n hx hb dX4_node_122 rfl (lv_at hl 0 rfl) ?_
          refine va_get (D := (dC, dI)) (ci := 4) (v := .ref (ad 9)) (C := RX4) (T := TX4) (N := 25) hx hb hts (xcons inX4) hown hK hP 0 rfl rfl 21 (by decide) hw6 (fun _ h9 => h9) rfl dX4_node_123 ?_
          refine lv_aload_n hx hb dX4_node_126 rfl (lv_at hl 0 rfl) ?_
          refine va_get (D := (dC, dI)) (ci := 4) (v := .int (nI lo)) (C := RX4) (T := TX4) (N := 25) hx hb hts (xcons inX4) hown hK hP 0 rfl rfl 18 (by decide) hw4 (fun _ h9 => h9) rfl dX4_node_127 ?_
          refine lv_aload_n hx hb dX4_node_130 rfl (lv_at hl 0 rfl) ?_
          refine va_get (D := (dC, dI)) (ci := 4) (v := .int fo) (C := RX4) (T := TX4) (N := 25) hx hb hts (xcons inX4) hown hK hP 0 rfl rfl 14 (by decide) hw7 (fun _ h9 => h9) rfl dX4_node_131 ?_
          have hJ134 : ∀ (H : Heap) (locs : List Loc), va_P (dC, dI) vwCl [(ad 0, .inr (4, [.int co, .int (nI nv), .int (nI nc), .ref (ad 1), .ref (ad 2), .ref (ad 3), .int hp1_73, .long bo1_73, .int (nI su1_73), .ref (ad 4), .ref (ad 5), .ref (ad 6), .int gh1_73, .int gv1_73, .int fo, .int bv, .long bc, .int (nd + 1), .int (nI lo), .ref (ad 7), .ref (ad 8), .ref (ad 9), .int (nI wa), .ref (ad 10), .ref (ad 11)])), (ad 1, .inl (cI, 40, .inl mt)), (ad 2, .inl (cI, 40, .inl mf)), (ad 3, .inl (cI, 40, .inl wt)), (ad 4, .inl (cL, 40, .inr (.inl ss1_73))), (ad 5, .inl (cZ, 40, .inl av1_73)), (ad 6, .inl (cI, 10, .inl re1_73)), (ad 7, .inl (cI, 1024, .inl (upd lh lo hv))), (ad 8, .inl (cI, 1024, .inl (upd lw lo vl))), (ad 9, .inl (cL, 1024, .inr (.inl lb))), (ad 10, .inl (cI, 24, .inl wh)), (ad 11, .inl (cI, 24, .inl wv))] H → va_S (xA ad [0, 1, 2, 3, 4, 5, 6, 7, 8, 9, 10, 11]) s.heap H locs → W p l e (headSpec wsX4_node ({ frames := 5, cells := 0, slots := 0, locals := 121 })).room s m [.ref (ad 0), .int hv, .int vl].toArray below meth c H locs 0 0 (MQ below (va_Qv (fun u => m_node nv nc mt mf wt hp bo su ss av re gh gv fo bv bc nd lo lh lw lb wa wh wv hv vl = some u) (xB (dC, dI) vwCl (fun (u : Int32 × Int64 × Nat × (Nat → Int64) × (Nat → Int32) × (Nat → Int32) × Int32 × Int32 × Int32 × Int32 × Int64 × Int32 × Nat × (Nat → Int32) × (Nat → Int32) × (Nat → Int64) × Nat × (Nat → Int32) × (Nat → Int32)) => match u with | (hp1, bo1, su1, ss1, av1, re1, gh1, gv1, fo1, bv1, bc1, nd1, lo1, lh1, lw1, lb1, wa1, wh1, wv1) => [(ad 0, .inr (4, [.int co, .int (nI nv), .int (nI nc), .ref (ad 1), .ref (ad 2), .ref (ad 3), .int hp1, .long bo1, .int (nI su1), .ref (ad 4), .ref (ad 5), .ref (ad 6), .int gh1, .int gv1, .int fo1, .int bv1, .long bc1, .int nd1, .int (nI lo1), .ref (ad 7), .ref (ad 8), .ref (ad 9), .int (nI wa1), .ref (ad 10), .ref (ad 11)])), (ad 1, .inl (cI, 40, .inl mt)), (ad 2, .inl (cI, 40, .inl mf)), (ad 3, .inl (cI, 40, .inl wt)), (ad 4, .inl (cL, 40, .inr (.inl ss1))), (ad 5, .inl (cZ, 40, .inl av1)), (ad 6, .inl (cI, 10, .inl re1)), (ad 7, .inl (cI, 1024, .inl lh1)), (ad 8, .inl (cI, 1024, .inl lw1)), (ad 9, .inl (cL, 1024, .inr (.inl lb1))), (ad 10, .inl (cI, 24, .inl wh1)), (ad 11, .inl (cI, 24, .inl wv1))])) (xA ad [0, 1, 2, 3, 4, 5, 6, 7, 8, 9, 10, 11])) [.ref (ad 0), .int hv, .int vl].toArray s 0 0 (xA ad [0, 1, 2, 3, 4, 5, 6, 7, 8, 9, 10, 11])) (F0 m 147 ls [.long ((if fo = 0 then (-1) else bc) : Int64), .int (nI lo), .ref (ad 9)]) := by
            intro H locs hP hS
            refine xr_last hx hb hK hP (xD hinj [0, 1, 2, 3, 4, 5, 6, 7, 8, 9, 10, 11] rfl (by decide) (by decide)) hS 9 1 rfl rfl lo (by omega) (by omega) dX4_node_147 (fun H locs hP hS => ?_)
            have hP : va_P (dC, dI) vwCl [(ad 0, .inr (4, [.int co, .int (nI nv), .int (nI nc), .ref (ad 1), .ref (ad 2), .ref (ad 3), .int hp1_73, .long bo1_73, .int (nI su1_73), .ref (ad 4), .ref (ad 5), .ref (ad 6), .int gh1_73, .int gv1_73, .int fo, .int bv, .long bc, .int (nd + 1), .int (nI lo), .ref (ad 7), .ref (ad 8), .ref (ad 9), .int (nI wa), .ref (ad 10), .ref (ad 11)])), (ad 1, .inl (cI, 40, .inl mt)), (ad 2, .inl (cI, 40, .inl mf)), (ad 3, .inl (cI, 40, .inl wt)), (ad 4, .inl (cL, 40, .inr (.inl ss1_73))), (ad 5, .inl (cZ, 40, .inl av1_73)), (ad 6, .inl (cI, 10, .inl re1_73)), (ad 7, .inl (cI, 1024, .inl (upd lh lo hv))), (ad 8, .inl (cI, 1024, .inl (upd lw lo vl))), (ad 9, .inl (cL, 1024, .inr (.inl (vp_updL lb lo ((if fo = 0 then (-1) else bc) : Int64))))), (ad 10, .inl (cI, 24, .inl wh)), (ad 11, .inl (cI, 24, .inl wv))] H := hP
            refine lv_aload_n hx hb dX4_node_148 rfl (lv_at hl 0 rfl) ?_
            refine lv_dup hx hb dX4_node_149 rfl ?_
            refine va_get (D := (dC, dI)) (ci := 4) (v := .int (nI lo)) (C := RX4) (T := TX4) (N := 25) hx hb hts (xcons inX4) hown hK hP 0 rfl rfl 18 (by decide) hw4 (fun _ h9 => h9) rfl dX4_node_150 ?_
            refine lv_iconst (v := 1) hx hb dX4_node_153 (by decide) ?_
            refine xr_add1 hx hb dX4_node_154 ?_
            refine va_put (D := (dC, dI)) (ci := 4) (v := .int (nI (lo + 1))) (ty := .int) (C := RX4) (T := TX4) (N := 25) hx hb hts (xcons inX4) tyX4 tyX4_ok nX4 hown hK hP (xD hinj [0, 1, 2, 3, 4, 5, 6, 7, 8, 9, 10, 11] rfl (by decide) (by decide)) hS 0 rfl rfl 18 (by decide) hw4 (fun _ h9 => h9) rfl (by decide +kernel) rfl rfl (Nat.le_of_ble_eq_true rfl) dX4_node_155 (fun H locs hP _ hS => ?_)
            have hP : va_P (dC, dI) vwCl [(ad 0, .inr (4, [.int co, .int (nI nv), .int (nI nc), .ref (ad 1), .ref (ad 2), .ref (ad 3), .int hp1_73, .long bo1_73, .int (nI su1_73), .ref (ad 4), .ref (ad 5), .ref (ad 6), .int gh1_73, .int gv1_73, .int fo, .int bv, .long bc, .int (nd + 1), .int (nI (lo + 1)), .ref (ad 7), .ref (ad 8), .ref (ad 9), .int (nI wa), .ref (ad 10), .ref (ad 11)])), (ad 1, .inl (cI, 40, .inl mt)), (ad 2, .inl (cI, 40, .inl mf)), (ad 3, .inl (cI, 40, .inl wt)), (ad 4, .inl (cL, 40, .inr (.inl ss1_73))), (ad 5, .inl (cZ, 40, .inl av1_73)), (ad 6, .inl (cI, 10, .inl re1_73)), (ad 7, .inl (cI, 1024, .inl (upd lh lo hv))), (ad 8, .inl (cI, 1024, .inl (upd lw lo vl))), (ad 9, .inl (cL, 1024, .inr (.inl (vp_updL lb lo ((if fo = 0 then (-1) else bc) : Int64))))), (ad 10, .inl (cI, 24, .inl wh)), (ad 11, .inl (cI, 24, .inl wv))] H := hP
            exact W.vret hx hb hr (fun t ht hW => ⟨⟨(hp1_73, bo1_73, su1_73, ss1_73, av1_73, re1_73, gh1_73, gv1_73, fo, bv, bc, (nd + 1), (lo + 1), (upd lh lo hv), (upd lw lo vl), (vp_updL lb lo ((if fo = 0 then (-1) else bc) : Int64)), wa, wh, wv), rfl, hF, xBi ht hP⟩, hS.F ht⟩) hS.2.2 dX4_node_158
          refine lv_if_eq (tgt := 144) hx hb dX4_node_134 (by decide) (fun h19 => ?_) (fun h19 => ?_)
          ·
            refine lv_ldc2 hx hb hown hw8 dX4_node_144 ?_
            have hJ9 := hJ134 _ _ hP hS
            have hv9 : ((if fo = 0 then (-1) else bc) : Int64) = (-1) := if_pos h19
            rw [hv9] at hJ9
            exact hJ9
          ·
            refine lv_aload_n hx hb dX4_node_137 rfl (lv_at hl 0 rfl) ?_
            refine va_get (D := (dC, dI)) (ci := 4) (v := .long bc) (C := RX4) (T := TX4) (N := 25) hx hb hts (xcons inX4) hown hK hP 0 rfl rfl 16 (by decide) hw9 (fun _ h9 => h9) rfl dX4_node_138 ?_
            refine lv_goto (tgt := 147) hx hb dX4_node_141 (by decide) ?_
            have hJ9 := hJ134 _ _ hP hS
            have hv9 : ((if fo = 0 then (-1) else bc) : Int64) = bc := if_neg h19
            rw [hv9] at hJ9
            exact hJ9
  · have hF := hF.trans (if_pos h1)
    refine lv_aload_n hx hb dX4_node_22 rfl (lv_at hl 0 rfl) ?_
    refine lv_iload_n hx hb dX4_node_23 rfl (lv_at hl 1 rfl) ?_
    refine lv_iload_n hx hb dX4_node_24 rfl (lv_at hl 2 rfl) ?_
    refine xro_l (va_runV (As := [.int hv, .int vl]) (rest := []) ⟨hx, hb, hml, hown, hts⟩ (k_costOf l dC dI cI cL cZ ad hinj co nv nc mt mf wt hp bo su ss av re gh gv fo bv bc (nd + 1) lo lh lw lb wa wh wv (by omega) (by omega) hv vl) (xcwV 2 hts wd_670 wd_39 wd_667 wd_669 wd_23 rfl rfl (by decide +kernel) ⟨Nat.le_of_ble_eq_true rfl, Nat.le_of_ble_eq_true rfl⟩) (xpreV (va_recv hK hP rfl (q0 := 0) rfl) hP hK) rfl rfl hl.1 rfl (lv_room (Nat.le_of_ble_eq_true rfl)) dX4_node_25 ⟨Nat.le_of_ble_eq_true rfl, Nat.le_of_ble_eq_true rfl⟩) hS (fun H locs hk hS => ?_)
    have hP := xkeep hP hk
    refine lv_lstore_n (lv' := [(3, .long (m_costOf nc mt mf wt hv vl)), (0, .ref (ad 0)), (1, .int hv), (2, .int vl)]) hx hb dX4_node_28 rfl hl (by decide) rfl (fun ls hl => ?_)
    refine lv_aload_n hx hb dX4_node_29 rfl (lv_at hl 1 rfl) ?_
    refine lv_iload_n hx hb dX4_node_30 rfl (lv_at hl 2 rfl) ?_
    refine lv_iload_n hx hb dX4_node_31 rfl (lv_at hl 3 rfl) ?_
    refine xro_i (va_runV (As := [.int hv, .int vl]) (rest := []) ⟨hx, hb, hml, hown, hts⟩ (k_breaks l dC dI cI cL cZ ad hinj co nv nc mt mf wt hp bo su ss av re gh gv fo bv bc (nd + 1) lo lh lw lb wa wh wv (by omega) (by omega) hv vl) (xcwV 2 hts wd_657 wd_39 wd_654 wd_656 wd_20 rfl rfl (by decide +kernel) ⟨Nat.le_of_ble_eq_true rfl, Nat.le_of_ble_eq_true rfl⟩) (xpreV (va_recv hK hP rfl (q0 := 0) rfl) hP hK) rfl rfl hl.1 rfl (lv_room (Nat.le_of_ble_eq_true rfl)) dX4_node_32 ⟨Nat.le_of_ble_eq_true rfl, Nat.le_of_ble_eq_true rfl⟩) hS (fun H locs hk hS => ?_)
    have hP := xkeep hP hk
    refine lv_if_ne (tgt := 69) hx hb dX4_node_35 (by decide) (fun h20 => ?_) (fun h20 => ?_)
    · have hF := hF.trans (if_neg h20)
      exact W.vret hx hb hr (fun t ht hW => ⟨⟨(hp, bo, su, ss, av, re, gh, gv, fo, bv, bc, (nd + 1), lo, lh, lw, lb, wa, wh, wv), rfl, hF, xBi ht hP⟩, hS.F ht⟩) hS.2.2 dX4_node_69
    · have hF := hF.trans (if_pos h20)
      refine lv_aload_n hx hb dX4_node_38 rfl (lv_at hl 1 rfl) ?_
      refine va_get (D := (dC, dI)) (ci := 4) (v := .int fo) (C := RX4) (T := TX4) (N := 25) hx hb hts (xcons inX4) hown hK hP 0 rfl rfl 14 (by decide) hw7 (fun _ h9 => h9) rfl dX4_node_39 ?_
      refine lv_if_eq (tgt := 54) hx hb dX4_node_42 (by decide) (fun h21 => ?_) (fun h21 => ?_)
      · have hF := hF.trans (if_pos h21)
        refine lv_aload_n hx hb dX4_node_54 rfl (lv_at hl 1 rfl) ?_
        refine lv_iconst (v := 1) hx hb dX4_node_55 (by decide) ?_
        refine va_put (D := (dC, dI)) (ci := 4) (v := .int 1) (ty := .boolean) (C := RX4) (T := TX4) (N := 25) hx hb hts (xcons inX4) tyX4 tyX4_ok nX4 hown hK hP (xD hinj [0, 1, 2, 3, 4, 5, 6, 7, 8, 9, 10, 11] rfl (by decide) (by decide)) hS 0 rfl rfl 14 (by decide) hw7 (fun _ h9 => h9) rfl (by decide +kernel) rfl rfl (Nat.le_of_ble_eq_true rfl) dX4_node_56 (fun H locs hP _ hS => ?_)
        have hP : va_P (dC, dI) vwCl [(ad 0, .inr (4, [.int co, .int (nI nv), .int (nI nc), .ref (ad 1), .ref (ad 2), .ref (ad 3), .int hp, .long bo, .int (nI su), .ref (ad 4), .ref (ad 5), .ref (ad 6), .int gh, .int gv, .int 1, .int bv, .long bc, .int (nd + 1), .int (nI lo), .ref (ad 7), .ref (ad 8), .ref (ad 9), .int (nI wa), .ref (ad 10), .ref (ad 11)])), (ad 1, .inl (cI, 40, .inl mt)), (ad 2, .inl (cI, 40, .inl mf)), (ad 3, .inl (cI, 40, .inl wt)), (ad 4, .inl (cL, 40, .inr (.inl ss))), (ad 5, .inl (cZ, 40, .inl av)), (ad 6, .inl (cI, 10, .inl re)), (ad 7, .inl (cI, 1024, .inl lh)), (ad 8, .inl (cI, 1024, .inl lw)), (ad 9, .inl (cL, 1024, .inr (.inl lb))), (ad 10, .inl (cI, 24, .inl wh)), (ad 11, .inl (cI, 24, .inl wv))] H := hP
        refine lv_aload_n hx hb dX4_node_59 rfl (lv_at hl 1 rfl) ?_
        refine lv_lload_n hx hb dX4_node_60 rfl (lv_at hl 0 rfl) ?_
        refine va_put (D := (dC, dI)) (ci := 4) (v := .long (m_costOf nc mt mf wt hv vl)) (ty := .long) (C := RX4) (T := TX4) (N := 25) hx hb hts (xcons inX4) tyX4 tyX4_ok nX4 hown hK hP (xD hinj [0, 1, 2, 3, 4, 5, 6, 7, 8, 9, 10, 11] rfl (by decide) (by decide)) hS 0 rfl rfl 16 (by decide) hw9 (fun _ h9 => h9) rfl (by decide +kernel) rfl rfl (Nat.le_of_ble_eq_true rfl) dX4_node_61 (fun H locs hP _ hS => ?_)
        have hP : va_P (dC, dI) vwCl [(ad 0, .inr (4, [.int co, .int (nI nv), .int (nI nc), .ref (ad 1), .ref (ad 2), .ref (ad 3), .int hp, .long bo, .int (nI su), .ref (ad 4), .ref (ad 5), .ref (ad 6), .int gh, .int gv, .int 1, .int bv, .long (m_costOf nc mt mf wt hv vl), .int (nd + 1), .int (nI lo), .ref (ad 7), .ref (ad 8), .ref (ad 9), .int (nI wa), .ref (ad 10), .ref (ad 11)])), (ad 1, .inl (cI, 40, .inl mt)), (ad 2, .inl (cI, 40, .inl mf)), (ad 3, .inl (cI, 40, .inl wt)), (ad 4, .inl (cL, 40, .inr (.inl ss))), (ad 5, .inl (cZ, 40, .inl av)), (ad 6, .inl (cI, 10, .inl re)), (ad 7, .inl (cI, 1024, .inl lh)), (ad 8, .inl (cI, 1024, .inl lw)), (ad 9, .inl (cL, 1024, .inr (.inl lb))), (ad 10, .inl (cI, 24, .inl wh)), (ad 11, .inl (cI, 24, .inl wv))] H := hP
        refine lv_aload_n hx hb dX4_node_64 rfl (lv_at hl 1 rfl) ?_
        refine lv_iload_n hx hb dX4_node_65 rfl (lv_at hl 3 rfl) ?_
        refine va_put (D := (dC, dI)) (ci := 4) (v := .int vl) (ty := .int) (C := RX4) (T := TX4) (N := 25) hx hb hts (xcons inX4) tyX4 tyX4_ok nX4 hown hK hP (xD hinj [0, 1, 2, 3, 4, 5, 6, 7, 8, 9, 10, 11] rfl (by decide) (by decide)) hS 0 rfl rfl 15 (by decide) hw11 (fun _ h9 => h9) rfl (by decide +kernel) rfl rfl (Nat.le_of_ble_eq_true rfl) dX4_node_66 (fun H locs hP _ hS => ?_)
        have hP : va_P (dC, dI) vwCl [(ad 0, .inr (4, [.int co, .int (nI nv), .int (nI nc), .ref (ad 1), .ref (ad 2), .ref (ad 3), .int hp, .long bo, .int (nI su), .ref (ad 4), .ref (ad 5), .ref (ad 6), .int gh, .int gv, .int 1, .int vl, .long (m_costOf nc mt mf wt hv vl), .int (nd + 1), .int (nI lo), .ref (ad 7), .ref (ad 8), .ref (ad 9), .int (nI wa), .ref (ad 10), .ref (ad 11)])), (ad 1, .inl (cI, 40, .inl mt)), (ad 2, .inl (cI, 40, .inl mf)), (ad 3, .inl (cI, 40, .inl wt)), (ad 4, .inl (cL, 40, .inr (.inl ss))), (ad 5, .inl (cZ, 40, .inl av)), (ad 6, .inl (cI, 10, .inl re)), (ad 7, .inl (cI, 1024, .inl lh)), (ad 8, .inl (cI, 1024, .inl lw)), (ad 9, .inl (cL, 1024, .inr (.inl lb))), (ad 10, .inl (cI, 24, .inl wh)), (ad 11, .inl (cI, 24, .inl wv))] H := hP
        exact W.vret hx hb hr (fun t ht hW => ⟨⟨(hp, bo, su, ss, av, re, gh, gv, 1, vl, (m_costOf nc mt mf wt hv vl), (nd + 1), lo, lh, lw, lb, wa, wh, wv), rfl, hF, xBi ht hP⟩, hS.F ht⟩) hS.2.2 dX4_node_69
      · have hF := hF.trans (if_neg h21)
        refine lv_lload_n hx hb dX4_node_45 rfl (lv_at hl 0 rfl) ?_
        refine lv_aload_n hx hb dX4_node_46 rfl (lv_at hl 1 rfl) ?_
        refine va_get (D := (dC, dI)) (ci := 4) (v := .long bc) (C := RX4) (T := TX4) (N := 25) hx hb hts (xcons inX4) hown hK hP 0 rfl rfl 16 (by decide) hw9 (fun _ h9 => h9) rfl dX4_node_47 ?_
        refine W.lcmp hx hb dX4_node_50 ?_
        refine lv_if_ge (tgt := 69) hx hb dX4_node_51 (by decide) (fun h22 => ?_) (fun h22 => ?_)
        · have hF := hF.trans (if_pos h22)
          exact W.vret hx hb hr (fun t ht hW => ⟨⟨(hp, bo, su, ss, av, re, gh, gv, fo, bv, bc, (nd + 1), lo, lh, lw, lb, wa, wh, wv), rfl, hF, xBi ht hP⟩, hS.F ht⟩) hS.2.2 dX4_node_69
        · have hF := hF.trans (if_neg h22)
          refine lv_aload_n hx hb dX4_node_54 rfl (lv_at hl 1 rfl) ?_
          refine lv_iconst (v := 1) hx hb dX4_node_55 (by decide) ?_
          refine va_put (D := (dC, dI)) (ci := 4) (v := .int 1) (ty := .boolean) (C := RX4) (T := TX4) (N := 25) hx hb hts (xcons inX4) tyX4 tyX4_ok nX4 hown hK hP (xD hinj [0, 1, 2, 3, 4, 5, 6, 7, 8, 9, 10, 11] rfl (by decide) (by decide)) hS 0 rfl rfl 14 (by decide) hw7 (fun _ h9 => h9) rfl (by decide +kernel) rfl rfl (Nat.le_of_ble_eq_true rfl) dX4_node_56 (fun H locs hP _ hS => ?_)
          have hP : va_P (dC, dI) vwCl [(ad 0, .inr (4, [.int co, .int (nI nv), .int (nI nc), .ref (ad 1), .ref (ad 2), .ref (ad 3), .int hp, .long bo, .int (nI su), .ref (ad 4), .ref (ad 5), .ref (ad 6), .int gh, .int gv, .int 1, .int bv, .long bc, .int (nd + 1), .int (nI lo), .ref (ad 7), .ref (ad 8), .ref (ad 9), .int (nI wa), .ref (ad 10), .ref (ad 11)])), (ad 1, .inl (cI, 40, .inl mt)), (ad 2, .inl (cI, 40, .inl mf)), (ad 3, .inl (cI, 40, .inl wt)), (ad 4, .inl (cL, 40, .inr (.inl ss))), (ad 5, .inl (cZ, 40, .inl av)), (ad 6, .inl (cI, 10, .inl re)), (ad 7, .inl (cI, 1024, .inl lh)), (ad 8, .inl (cI, 1024, .inl lw)), (ad 9, .inl (cL, 1024, .inr (.inl lb))), (ad 10, .inl (cI, 24, .inl wh)), (ad 11, .inl (cI, 24, .inl wv))] H := hP
          refine lv_aload_n hx hb dX4_node_59 rfl (lv_at hl 1 rfl) ?_
          refine lv_lload_n hx hb dX4_node_60 rfl (lv_at hl 0 rfl) ?_
          refine va_put (D := (dC, dI)) (ci := 4) (v := .long (m_costOf nc mt mf wt hv vl)) (ty := .long) (C := RX4) (T := TX4) (N := 25) hx hb hts (xcons inX4) tyX4 tyX4_ok nX4 hown hK hP (xD hinj [0, 1, 2, 3, 4, 5, 6, 7, 8, 9, 10, 11] rfl (by decide) (by decide)) hS 0 rfl rfl 16 (by decide) hw9 (fun _ h9 => h9) rfl (by decide +kernel) rfl rfl (Nat.le_of_ble_eq_true rfl) dX4_node_61 (fun H locs hP _ hS => ?_)
          have hP : va_P (dC, dI) vwCl [(ad 0, .inr (4, [.int co, .int (nI nv), .int (nI nc), .ref (ad 1), .ref (ad 2), .ref (ad 3), .int hp, .long bo, .int (nI su), .ref (ad 4), .ref (ad 5), .ref (ad 6), .int gh, .int gv, .int 1, .int bv, .long (m_costOf nc mt mf wt hv vl), .int (nd + 1), .int (nI lo), .ref (ad 7), .ref (ad 8), .ref (ad 9), .int (nI wa), .ref (ad 10), .ref (ad 11)])), (ad 1, .inl (cI, 40, .inl mt)), (ad 2, .inl (cI, 40, .inl mf)), (ad 3, .inl (cI, 40, .inl wt)), (ad 4, .inl (cL, 40, .inr (.inl ss))), (ad 5, .inl (cZ, 40, .inl av)), (ad 6, .inl (cI, 10, .inl re)), (ad 7, .inl (cI, 1024, .inl lh)), (ad 8, .inl (cI, 1024, .inl lw)), (ad 9, .inl (cL, 1024, .inr (.inl lb))), (ad 10, .inl (cI, 24, .inl wh)), (ad 11, .inl (cI, 24, .inl wv))] H := hP
          refine lv_aload_n hx hb dX4_node_64 rfl (lv_at hl 1 rfl) ?_
          refine lv_iload_n hx hb dX4_node_65 rfl (lv_at hl 3 rfl) ?_
          refine va_put (D := (dC, dI)) (ci := 4) (v := .int vl) (ty := .int) (C := RX4) (T := TX4) (N := 25) hx hb hts (xcons inX4) tyX4 tyX4_ok nX4 hown hK hP (xD hinj [0, 1, 2, 3, 4, 5, 6, 7, 8, 9, 10, 11] rfl (by decide) (by decide)) hS 0 rfl rfl 15 (by decide) hw11 (fun _ h9 => h9) rfl (by decide +kernel) rfl rfl (Nat.le_of_ble_eq_true rfl) dX4_node_66 (fun H locs hP _ hS => ?_)
          have hP : va_P (dC, dI) vwCl [(ad 0, .inr (4, [.int co, .int (nI nv), .int (nI nc), .ref (ad 1), .ref (ad 2), .ref (ad 3), .int hp, .long bo, .int (nI su), .ref (ad 4), .ref (ad 5), .ref (ad 6), .int gh, .int gv, .int 1, .int vl, .long (m_costOf nc mt mf wt hv vl), .int (nd + 1), .int (nI lo), .ref (ad 7), .ref (ad 8), .ref (ad 9), .int (nI wa), .ref (ad 10), .ref (ad 11)])), (ad 1, .inl (cI, 40, .inl mt)), (ad 2, .inl (cI, 40, .inl mf)), (ad 3, .inl (cI, 40, .inl wt)), (ad 4, .inl (cL, 40, .inr (.inl ss))), (ad 5, .inl (cZ, 40, .inl av)), (ad 6, .inl (cI, 10, .inl re)), (ad 7, .inl (cI, 1024, .inl lh)), (ad 8, .inl (cI, 1024, .inl lw)), (ad 9, .inl (cL, 1024, .inr (.inl lb))), (ad 10, .inl (cI, 24, .inl wh)), (ad 11, .inl (cI, 24, .inl wv))] H := hP
          exact W.vret hx hb hr (fun t ht hW => ⟨⟨(hp, bo, su, ss, av, re, gh, gv, 1, vl, (m_costOf nc mt mf wt hv vl), (nd + 1), lo, lh, lw, lb, wa, wh, wv), rfl, hF, xBi ht hP⟩, hS.F ht⟩) hS.2.2 dX4_node_69
