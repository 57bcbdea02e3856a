set_option maxHeartbeats 8000000 in
set_option maxRecDepth 100000 in
theorem lw_case_8 {p : Program} {l : Launch} {e : Env} {s : State} {m : MethodId} {below : List Frame} {meth : Method} {c : Code} {b L : Nat} {xs : Nat → Int32} {dC : Nat → ClassId} {dI : Nat → Nat → Nat} {cI cL cZ : ClassId} {ad : Nat → Nat} {nv lz : Nat} {Q : State → Prop} (CC : xLC p l s m meth c b L xs dC dI cI cL cZ ad nv lz) {i : Nat} (hi : i + 6 ≤ L) {cells slots : Nat} (hcc : cells + 1 ≤ 601024) (hss : slots + 6 ≤ 7293000) {H : Heap} {locs : List Loc} {ls : Array Slot} (hLaw : xLaw dC dI cI cL cZ ad nv lz H) (hS : va_S (fun q => s.heap.size ≤ q) s.heap H locs) (hl : lv_has ls 8 [(0, .ref b), (1, .ref (ad 0)), (2, .ref (ad 16)), (3, .ref (ad 15)), (4, .int (nI i))]) (hnx : ∀ (H : Heap) (locs : List Loc) (ls : Array Slot), xLaw dC dI cI cL cZ ad nv lz H → va_S (fun q => s.heap.size ≤ q) s.heap H locs → lv_has ls 8 [(0, .ref b), (1, .ref (ad 0)), (2, .ref (ad 16)), (3, .ref (ad 15)), (4, .int (nI i))] → W p l e room_1 s m #[Value.ref b] below meth c H locs (cells + 1) (slots + 6) Q (F0 m 744 ls [])) : W p l e room_1 s m #[Value.ref b] below meth c H locs cells slots Q (F0 m 548 ls []) := by
  obtain ⟨hx, hb, hr, hml, hown, hts, hX, hbl, hL, hlt, hE, hN, hK, hinj, had, hz, hlz⟩ := CC
  obtain ⟨nc, mt, mf, wt, ss, sc, avl, gh, gv, sv, sr, st, nd, lc, bc, bv, lh, lw, lb, wh, wv, wc, of, co, hp, bo, su, sm, am, re, ghM, gvM, fo, bvM, bcM, lo, lhM, lwM, lbM, wa, whM, wvM, hP, hWF, hSR, hlc, hwc⟩ := hLaw
  have hnc := hWF.c
  have hnv := hWF.v2
  have hlo : lo ≤ 1024 := by have := hSR.2.1; omega
  by_cases hs : f_isState (xAV nv) (xs (i + 1)) (xs (i + 2)) = 0
  · have em := e_mfirst0 (nc := nc) (mt := mt) (mf := mf) hnv hs
    refine lv_aload_n hx hb dL_law_548 rfl (lv_at hl 1 rfl) ?_
    refine lv_aload_n hx hb dL_law_549 rfl (lv_at hl 0 rfl) ?_
    refine lv_iload hx hb dL_law_550 (lv_at hl 4 rfl) ?_
    refine lv_iconst (v := nI 1) hx hb dL_law_552 (by decide) ?_
    refine xr_addk hx hb dL_law_553 ?_
    refine xr_sld hx hb hX hbl (Nat.not_le.mpr hbl) hS (j := (i + 1)) (by omega) hL dL_law_554 ?_
    refine lv_aload_n hx hb dL_law_555 rfl (lv_at hl 0 rfl) ?_
    refine lv_iload hx hb dL_law_556 (lv_at hl 4 rfl) ?_
    refine lv_iconst (v := nI 2) hx hb dL_law_558 (by decide) ?_
    refine xr_addk hx hb dL_law_559 ?_
    refine xr_sld hx hb hX hbl (Nat.not_le.mpr hbl) hS (j := (i + 2)) (by omega) hL dL_law_560 ?_
    refine lv_aload_n hx hb dL_law_561 rfl (lv_at hl 3 rfl) ?_
    refine xro_im (xrunSW (n := 4) (hh := [(0, 10, 13, 13)]) (As := [.ref (ad 0), .int (xs (i + 1)), .int (xs (i + 2)), .ref (ad 15)]) (rest := []) ⟨hx, hb, hml, hown, hts⟩ (h_first_x l dC dI cI cL cZ ad (xI.le hinj (by omega)) hlt nv (xAV nv) nc mt mf wt hnc hnv (xs (i + 1)) (xs (i + 2)) hs) (show GoodIn _ wsL_first from xgood wd_518) hts (show _ ∈ wsL_first from List.mem_cons_self) (List.mem_cons_of_mem _ wd_33) (List.mem_cons_of_mem _ wd_516) (List.mem_cons_of_mem _ wd_517) rfl rfl (by decide +kernel) ⟨Nat.le_of_ble_eq_true rfl, Nat.le_of_ble_eq_true rfl⟩ (xpreS2 (hP.sub [0, 1, 2, 3, 4] rfl) hK hE hN (fun q hq => hS.2.1 q hq (Nat.not_le.mpr hq))) rfl rfl hl.1 rfl (lv_room (Nat.le_of_ble_eq_true rfl)) dL_law_562 ⟨by show cells + 1 ≤ 601024; omega, by show slots + 6 ≤ 7293000; omega⟩) hS (fun H locs hk hS => ?_)
    have hP := xkeep hP hk
    refine lv_istore (lv' := [(5, .int 1), (0, .ref b), (1, .ref (ad 0)), (2, .ref (ad 16)), (3, .ref (ad 15)), (4, .int (nI i))]) hx hb dL_law_565 hl (by decide) rfl (fun ls hl => ?_)
    refine lv_aload_n hx hb dL_law_567 rfl (lv_at hl 3 rfl) ?_
    refine lv_aload_n hx hb dL_law_568 rfl (lv_at hl 1 rfl) ?_
    refine lv_iload hx hb dL_law_569 (lv_at hl 5 rfl) ?_
    refine lv_iconst (v := nI 1) hx hb dL_law_571 (by decide) ?_
    refine xr_addk hx hb dL_law_572 ?_
    refine xr_sld hx hb hX hbl (Nat.not_le.mpr hbl) hS (j := (i + 1)) (by omega) hL dL_law_573 ?_
    refine lv_aload_n hx hb dL_law_574 rfl (lv_at hl 1 rfl) ?_
    refine lv_iload hx hb dL_law_575 (lv_at hl 5 rfl) ?_
    refine lv_iconst (v := nI 2) hx hb dL_law_577 (by decide) ?_
    refine xr_addk hx hb dL_law_578 ?_
    refine xr_sld hx hb hX hbl (Nat.not_le.mpr hbl) hS (j := (i + 2)) (by omega) hL dL_law_579 ?_
    refine xrw_i (va_runV (As := [.int (xs (i + 1)), .int (xs (i + 2))]) (rest := []) ⟨hx, hb, hml, hown, hts⟩ (k_first l dC dI cI cL cZ (fun i => ad (i + 16)) (xI.sh 16 hinj (by omega)) co nv nc mt mf wt hp bo su sm am re ghM gvM fo bvM bcM nd lo lhM lwM lbM wa whM wvM hnc hnv (xs (i + 1)) (xs (i + 2))) (xcwV 2 hts wd_706 wd_39 wd_703 wd_704 wd_705 rfl rfl (by decide +kernel) ⟨Nat.le_of_ble_eq_true rfl, Nat.le_of_ble_eq_true rfl⟩) (xpreV (va_recv hK hP rfl (q0 := 16) rfl) (hP.sub [16, 17, 18, 19, 20, 21, 22, 23, 24, 25, 26, 27] rfl) hK) rfl rfl hl.1 rfl (lv_room (Nat.le_of_ble_eq_true rfl)) dL_law_580 ⟨by show cells + 1 + 0 ≤ 601024; omega, by show slots + 6 + 0 ≤ 7293000; omega⟩) hS (xhi (fun i hi => had (i + 16) (by omega)) (n := 12) (by decide)) (fun r_580 u H locs h1 hB hk hS => ?_)
    obtain ⟨co1_580, rfl⟩ : ∃ z, z = u := ⟨_, rfl⟩
    have hP : va_P (dC, dI) vwCl [(ad 0, .inr (3, [.ref (ad 1), .ref (ad 5), .ref (ad 9)])), (ad 1, .inr (1, [.int (nI nv), .int (xAV nv), .int (nI nc), .ref (ad 2), .ref (ad 3), .ref (ad 4)])), (ad 2, .inl (cI, 40, .inl mt)), (ad 3, .inl (cI, 40, .inl mf)), (ad 4, .inl (cI, 40, .inl wt)), (ad 5, .inr (0, [.ref (ad 1), .ref (ad 6), .int (nI sc), .long avl, .int gh, .int gv, .ref (ad 7), .ref (ad 8), .int (nI st)])), (ad 6, .inl (cL, 40, .inr (.inl ss))), (ad 7, .inl (cI, 10, .inl sv)), (ad 8, .inl (cI, 10, .inl (xnI sr))), (ad 9, .inr (2, [.int nd, .int (nI lc), .long bc, .int bv, .ref (ad 10), .ref (ad 11), .ref (ad 12), .ref (ad 1), .ref (ad 5), .ref (ad 13), .ref (ad 14), .int (nI wc)])), (ad 10, .inl (cI, lz, .inl lh)), (ad 11, .inl (cI, lz, .inl lw)), (ad 12, .inl (cL, lz, .inr (.inl lb))), (ad 13, .inl (cI, 11, .inl wh)), (ad 14, .inl (cI, 11, .inl wv)), (ad 15, .inl (cL, 1, .inr (.inl of))), (ad 16, .inr (4, [.int co1_580, .int (nI nv), .int (nI nc), .ref (ad 17), .ref (ad 18), .ref (ad 19), .int hp, .long bo, .int (nI su), .ref (ad 20), .ref (ad 21), .ref (ad 22), .int ghM, .int gvM, .int fo, .int bvM, .long bcM, .int nd, .int (nI lo), .ref (ad 23), .ref (ad 24), .ref (ad 25), .int (nI wa), .ref (ad 26), .ref (ad 27)])), (ad 17, .inl (cI, 40, .inl mt)), (ad 18, .inl (cI, 40, .inl mf)), (ad 19, .inl (cI, 40, .inl wt)), (ad 20, .inl (cL, 40, .inr (.inl sm))), (ad 21, .inl (cZ, 40, .inl am)), (ad 22, .inl (cI, 10, .inl re)), (ad 23, .inl (cI, 1024, .inl lhM)), (ad 24, .inl (cI, 1024, .inl lwM)), (ad 25, .inl (cL, 1024, .inr (.inl lbM))), (ad 26, .inl (cI, 24, .inl whM)), (ad 27, .inl (cI, 24, .inl wvM))] H := ((xkeepA hP hk [0, 1, 2, 3, 4, 5, 6, 7, 8, 9, 10, 11, 12, 13, 14, 15] rfl (fun k q hq hz => xnA hinj [0, 1, 2, 3, 4, 5, 6, 7, 8, 9, 10, 11, 12, 13, 14, 15] rfl (by decide) k q hq (xA_sh hz))).app hB).sub [0, 1, 2, 3, 4, 5, 6, 7, 8, 9, 10, 11, 12, 13, 14, 15, 16, 17, 18, 19, 20, 21, 22, 23, 24, 25, 26, 27] rfl
    have hq : (r_580, co1_580) = (0, 1) := Eq.trans (Eq.symm h1) (em)
    have hq := hq.symm
    simp only [Prod.mk.injEq] at hq
    obtain ⟨rfl, rfl⟩ := hq
    refine lv_istore (lv' := [(6, .int 0), (5, .int 1), (0, .ref b), (1, .ref (ad 0)), (2, .ref (ad 16)), (3, .ref (ad 15)), (4, .int (nI i))]) hx hb dL_law_583 hl (by decide) rfl (fun ls hl => ?_)
    refine lv_aload_n hx hb dL_law_585 rfl (lv_at hl 4 rfl) ?_
    refine xro_i (va_runV (As := []) (rest := []) ⟨hx, hb, hml, hown, hts⟩ (k_thrown l dC dI cI cL cZ (fun i => ad (i + 16)) (xI.sh 16 hinj (by omega)) 1 nv nc mt mf wt hp bo su sm am re ghM gvM fo bvM bcM nd lo lhM lwM lbM wa whM wvM) (xcwV 0 hts wd_610 wd_39 wd_607 wd_608 wd_609 rfl rfl (by decide +kernel) ⟨Nat.le_of_ble_eq_true rfl, Nat.le_of_ble_eq_true rfl⟩) (xpreV (va_recv hK hP rfl (q0 := 16) rfl) (hP.sub [16, 17, 18, 19, 20, 21, 22, 23, 24, 25, 26, 27] rfl) hK) rfl rfl hl.1 rfl (lv_room (Nat.le_of_ble_eq_true rfl)) dL_law_586 ⟨by show cells + 1 + 0 ≤ 601024; omega, by show slots + 6 + 0 ≤ 7293000; omega⟩) hS (fun H locs hk hS => ?_)
    have hP := xkeep hP hk
    refine lv_iload hx hb dL_law_589 (lv_at hl 1 rfl) ?_
    refine lv_icmp_eq (tgt := 596) hx hb dL_law_591 (by decide) (fun h2 => ?_) (fun h2 => absurd rfl h2)
    refine lv_iload hx hb dL_law_596 (lv_at hl 1 rfl) ?_
    refine lv_if_ne (tgt := 613) hx hb dL_law_598 (by decide) (fun h3 => ?_) (fun h3 => absurd h3 (show ¬ (1 : Int32) = 0 by decide))
    refine lv_goto (tgt := 744) hx hb dL_law_613 (by decide) ?_
    exact hnx _ _ _ ⟨_, _, _, _, _, _, _, _, _, _, _, _, _, _, _, _, _, _, _, _, _, _, _, _, _, _, _, _, _, _, _, _, _, _, _, _, _, _, _, _, _, _, hP, hWF, hSR, hlc, hwc⟩ hS (lv_sub hl [2, 3, 4, 5, 6] rfl)
  · have em := e_mfirst1 hWF hs
    have ef : l_first nv nc mt mf (xs (i + 1)) (xs (i + 2)) of = (0, (vp_updL of 0 (f_first nv nc mt mf (xs (i + 1)) (xs (i + 2))).toInt64)) := rfl
    refine lv_aload_n hx hb dL_law_548 rfl (lv_at hl 1 rfl) ?_
    refine lv_aload_n hx hb dL_law_549 rfl (lv_at hl 0 rfl) ?_
    refine lv_iload hx hb dL_law_550 (lv_at hl 4 rfl) ?_
    refine lv_iconst (v := nI 1) hx hb dL_law_552 (by decide) ?_
    refine xr_addk hx hb dL_law_553 ?_
    refine xr_sld hx hb hX hbl (Nat.not_le.mpr hbl) hS (j := (i + 1)) (by omega) hL dL_law_554 ?_
    refine lv_aload_n hx hb dL_law_555 rfl (lv_at hl 0 rfl) ?_
    refine lv_iload hx hb dL_law_556 (lv_at hl 4 rfl) ?_
    refine lv_iconst (v := nI 2) hx hb dL_law_558 (by decide) ?_
    refine xr_addk hx hb dL_law_559 ?_
    refine xr_sld hx hb hX hbl (Nat.not_le.mpr hbl) hS (j := (i + 2)) (by omega) hL dL_law_560 ?_
    refine lv_aload_n hx hb dL_law_561 rfl (lv_at hl 3 rfl) ?_
    refine xrw_i (xrunSW (n := 4) (hh := [(0, 10, 13, 13)]) (As := [.ref (ad 0), .int (xs (i + 1)), .int (xs (i + 2)), .ref (ad 15)]) (rest := []) ⟨hx, hb, hml, hown, hts⟩ (h_first l dC dI cI cL cZ ad (xI.le hinj (by omega)) nv (xAV nv) nc mt mf wt hnc hnv (xs (i + 1)) (xs (i + 2)) hs of) (show GoodIn _ wsL_first from xgood wd_518) hts (show _ ∈ wsL_first from List.mem_cons_self) (List.mem_cons_of_mem _ wd_33) (List.mem_cons_of_mem _ wd_516) (List.mem_cons_of_mem _ wd_517) rfl rfl (by decide +kernel) ⟨Nat.le_of_ble_eq_true rfl, Nat.le_of_ble_eq_true rfl⟩ (xpreS (hP.sub [0, 1, 2, 3, 4, 15] rfl) hK) rfl rfl hl.1 rfl (lv_room (Nat.le_of_ble_eq_true rfl)) dL_law_562 ⟨by show cells + 0 ≤ 601024; omega, by show slots + 0 ≤ 7293000; omega⟩) hS (xhi had (by decide)) (fun r_562 u H locs h1 hB hk hS => ?_)
    obtain ⟨of1_562, rfl⟩ : ∃ z, z = u := ⟨_, rfl⟩
    have hP : va_P (dC, dI) vwCl [(ad 0, .inr (3, [.ref (ad 1), .ref (ad 5), .ref (ad 9)])), (ad 1, .inr (1, [.int (nI nv), .int (xAV nv), .int (nI nc), .ref (ad 2), .ref (ad 3), .ref (ad 4)])), (ad 2, .inl (cI, 40, .inl mt)), (ad 3, .inl (cI, 40, .inl mf)), (ad 4, .inl (cI, 40, .inl wt)), (ad 5, .inr (0, [.ref (ad 1), .ref (ad 6), .int (nI sc), .long avl, .int gh, .int gv, .ref (ad 7), .ref (ad 8), .int (nI st)])), (ad 6, .inl (cL, 40, .inr (.inl ss))), (ad 7, .inl (cI, 10, .inl sv)), (ad 8, .inl (cI, 10, .inl (xnI sr))), (ad 9, .inr (2, [.int nd, .int (nI lc), .long bc, .int bv, .ref (ad 10), .ref (ad 11), .ref (ad 12), .ref (ad 1), .ref (ad 5), .ref (ad 13), .ref (ad 14), .int (nI wc)])), (ad 10, .inl (cI, lz, .inl lh)), (ad 11, .inl (cI, lz, .inl lw)), (ad 12, .inl (cL, lz, .inr (.inl lb))), (ad 13, .inl (cI, 11, .inl wh)), (ad 14, .inl (cI, 11, .inl wv)), (ad 15, .inl (cL, 1, .inr (.inl of1_562))), (ad 16, .inr (4, [.int co, .int (nI nv), .int (nI nc), .ref (ad 17), .ref (ad 18), .ref (ad 19), .int hp, .long bo, .int (nI su), .ref (ad 20), .ref (ad 21), .ref (ad 22), .int ghM, .int gvM, .int fo, .int bvM, .long bcM, .int nd, .int (nI lo), .ref (ad 23), .ref (ad 24), .ref (ad 25), .int (nI wa), .ref (ad 26), .ref (ad 27)])), (ad 17, .inl (cI, 40, .inl mt)), (ad 18, .inl (cI, 40, .inl mf)), (ad 19, .inl (cI, 40, .inl wt)), (ad 20, .inl (cL, 40, .inr (.inl sm))), (ad 21, .inl (cZ, 40, .inl am)), (ad 22, .inl (cI, 10, .inl re)), (ad 23, .inl (cI, 1024, .inl lhM)), (ad 24, .inl (cI, 1024, .inl lwM)), (ad 25, .inl (cL, 1024, .inr (.inl lbM))), (ad 26, .inl (cI, 24, .inl whM)), (ad 27, .inl (cI, 24, .inl wvM))] H := ((xkeepA hP hk [0, 1, 2, 3, 4, 5, 6, 7, 8, 9, 10, 11, 12, 13, 14, 16, 17, 18, 19, 20, 21, 22, 23, 24, 25, 26, 27] rfl (xnA hinj [0, 1, 2, 3, 4, 5, 6, 7, 8, 9, 10, 11, 12, 13, 14, 16, 17, 18, 19, 20, 21, 22, 23, 24, 25, 26, 27] rfl (by decide))).app hB).sub [0, 1, 2, 3, 4, 5, 6, 7, 8, 9, 10, 11, 12, 13, 14, 27, 15, 16, 17, 18, 19, 20, 21, 22, 23, 24, 25, 26] rfl
    have hq : (r_562, of1_562) = (0, (vp_updL of 0 (f_first nv nc mt mf (xs (i + 1)) (xs (i + 2))).toInt64)) := Eq.trans (Eq.symm h1) (ef)
    have hq := hq.symm
    simp only [Prod.mk.injEq] at hq
    obtain ⟨rfl, rfl⟩ := hq
    refine lv_istore (lv' := [(5, .int 0), (0, .ref b), (1, .ref (ad 0)), (2, .ref (ad 16)), (3, .ref (ad 15)), (4, .int (nI i))]) hx hb dL_law_565 hl (by decide) rfl (fun ls hl => ?_)
    refine lv_aload_n hx hb dL_law_567 rfl (lv_at hl 3 rfl) ?_
    refine lv_aload_n hx hb dL_law_568 rfl (lv_at hl 1 rfl) ?_
    refine lv_iload hx hb dL_law_569 (lv_at hl 5 rfl) ?_
    refine lv_iconst (v := nI 1) hx hb dL_law_571 (by decide) ?_
    refine xr_addk hx hb dL_law_572 ?_
    refine xr_sld hx hb hX hbl (Nat.not_le.mpr hbl) hS (j := (i + 1)) (by omega) hL dL_law_573 ?_
    refine lv_aload_n hx hb dL_law_574 rfl (lv_at hl 1 rfl) ?_
    refine lv_iload hx hb dL_law_575 (lv_at hl 5 rfl) ?_
    refine lv_iconst (v := nI 2) hx hb dL_law_577 (by decide) ?_
    refine xr_addk hx hb dL_law_578 ?_
    refine xr_sld hx hb hX hbl (Nat.not_le.mpr hbl) hS (j := (i + 2)) (by omega) hL dL_law_579 ?_
    refine xrw_i (va_runV (As := [.int (xs (i + 1)), .int (xs (i + 2))]) (rest := []) ⟨hx, hb, hml, hown, hts⟩ (k_first l dC dI cI cL cZ (fun i => ad (i + 16)) (xI.sh 16 hinj (by omega)) co nv nc mt mf wt hp bo su sm am re ghM gvM fo bvM bcM nd lo lhM lwM lbM wa whM wvM hnc hnv (xs (i + 1)) (xs (i + 2))) (xcwV 2 hts wd_706 wd_39 wd_703 wd_704 wd_705 rfl rfl (by decide +kernel) ⟨Nat.le_of_ble_eq_true rfl, Nat.le_of_ble_eq_true rfl⟩) (xpreV (va_recv hK hP rfl (q0 := 16) rfl) (hP.sub [16, 17, 18, 19, 20, 21, 22, 23, 24, 25, 26, 27] rfl) hK) rfl rfl hl.1 rfl (lv_room (Nat.le_of_ble_eq_true rfl)) dL_law_580 ⟨by show cells + 0 ≤ 601024; omega, by show slots + 0 ≤ 7293000; omega⟩) hS (xhi (fun i hi => had (i + 16) (by omega)) (n := 12) (by decide)) (fun r_580 u H locs h2 hB hk hS => ?_)
    obtain ⟨co1_580, rfl⟩ : ∃ z, z = u := ⟨_, rfl⟩
    have hP : va_P (dC, dI) vwCl [(ad 0, .inr (3, [.ref (ad 1), .ref (ad 5), .ref (ad 9)])), (ad 1, .inr (1, [.int (nI nv), .int (xAV nv), .int (nI nc), .ref (ad 2), .ref (ad 3), .ref (ad 4)])), (ad 2, .inl (cI, 40, .inl mt)), (ad 3, .inl (cI, 40, .inl mf)), (ad 4, .inl (cI, 40, .inl wt)), (ad 5, .inr (0, [.ref (ad 1), .ref (ad 6), .int (nI sc), .long avl, .int gh, .int gv, .ref (ad 7), .ref (ad 8), .int (nI st)])), (ad 6, .inl (cL, 40, .inr (.inl ss))), (ad 7, .inl (cI, 10, .inl sv)), (ad 8, .inl (cI, 10, .inl (xnI sr))), (ad 9, .inr (2, [.int nd, .int (nI lc), .long bc, .int bv, .ref (ad 10), .ref (ad 11), .ref (ad 12), .ref (ad 1), .ref (ad 5), .ref (ad 13), .ref (ad 14), .int (nI wc)])), (ad 10, .inl (cI, lz, .inl lh)), (ad 11, .inl (cI, lz, .inl lw)), (ad 12, .inl (cL, lz, .inr (.inl lb))), (ad 13, .inl (cI, 11, .inl wh)), (ad 14, .inl (cI, 11, .inl wv)), (ad 15, .inl (cL, 1, .inr (.inl (vp_updL of 0 (f_first nv nc mt mf (xs (i + 1)) (xs (i + 2))).toInt64)))), (ad 16, .inr (4, [.int co1_580, .int (nI nv), .int (nI nc), .ref (ad 17), .ref (ad 18), .ref (ad 19), .int hp, .long bo, .int (nI su), .ref (ad 20), .ref (ad 21), .ref (ad 22), .int ghM, .int gvM, .int fo, .int bvM, .long bcM, .int nd, .int (nI lo), .ref (ad 23), .ref (ad 24), .ref (ad 25), .int (nI wa), .ref (ad 26), .ref (ad 27)])), (ad 17, .inl (cI, 40, .inl mt)), (ad 18, .inl (cI, 40, .inl mf)), (ad 19, .inl (cI, 40, .inl wt)), (ad 20, .inl (cL, 40, .inr (.inl sm))), (ad 21, .inl (cZ, 40, .inl am)), (ad 22, .inl (cI, 10, .inl re)), (ad 23, .inl (cI, 1024, .inl lhM)), (ad 24, .inl (cI, 1024, .inl lwM)), (ad 25, .inl (cL, 1024, .inr (.inl lbM))), (ad 26, .inl (cI, 24, .inl whM)), (ad 27, .inl (cI, 24, .inl wvM))] H := ((xkeepA hP hk [0, 1, 2, 3, 4, 5, 6, 7, 8, 9, 10, 11, 12, 13, 14, 15] rfl (fun k q hq hz => xnA hinj [0, 1, 2, 3, 4, 5, 6, 7, 8, 9, 10, 11, 12, 13, 14, 15] rfl (by decide) k q hq (xA_sh hz))).app hB).sub [0, 1, 2, 3, 4, 5, 6, 7, 8, 9, 10, 11, 12, 13, 14, 15, 16, 17, 18, 19, 20, 21, 22, 23, 24, 25, 26, 27] rfl
    have hq : (r_580, co1_580) = ((f_first nv nc mt mf (xs (i + 1)) (xs (i + 2))), 0) := Eq.trans (Eq.symm h2) (em)
    have hq := hq.symm
    simp only [Prod.mk.injEq] at hq
    obtain ⟨rfl, rfl⟩ := hq
    refine lv_istore (lv' := [(6, .int (f_first nv nc mt mf (xs (i + 1)) (xs (i + 2)))), (5, .int 0), (0, .ref b), (1, .ref (ad 0)), (2, .ref (ad 16)), (3, .ref (ad 15)), (4, .int (nI i))]) hx hb dL_law_583 hl (by decide) rfl (fun ls hl => ?_)
    refine lv_aload_n hx hb dL_law_585 rfl (lv_at hl 4 rfl) ?_
    refine xro_i (va_runV (As := []) (rest := []) ⟨hx, hb, hml, hown, hts⟩ (k_thrown l dC dI cI cL cZ (fun i => ad (i + 16)) (xI.sh 16 hinj (by omega)) 0 nv nc mt mf wt hp bo su sm am re ghM gvM fo bvM bcM nd lo lhM lwM lbM wa whM wvM) (xcwV 0 hts wd_610 wd_39 wd_607 wd_608 wd_609 rfl rfl (by decide +kernel) ⟨Nat.le_of_ble_eq_true rfl, Nat.le_of_ble_eq_true rfl⟩) (xpreV (va_recv hK hP rfl (q0 := 16) rfl) (hP.sub [16, 17, 18, 19, 20, 21, 22, 23, 24, 25, 26, 27] rfl) hK) rfl rfl hl.1 rfl (lv_room (Nat.le_of_ble_eq_true rfl)) dL_law_586 ⟨by show cells + 0 ≤ 601024; omega, by show slots + 0 ≤ 7293000; omega⟩) hS (fun H locs hk hS => ?_)
    have hP := xkeep hP hk
    refine lv_iload hx hb dL_law_589 (lv_at hl 1 rfl) ?_
    refine lv_icmp_eq (tgt := 596) hx hb dL_law_591 (by decide) (fun h3 => ?_) (fun h3 => absurd rfl h3)
    refine lv_iload hx hb dL_law_596 (lv_at hl 1 rfl) ?_
    refine lv_if_ne (tgt := 613) hx hb dL_law_598 (by decide) (fun h4 => absurd (show (0 : Int32) = 0 from rfl) h4) (fun h4 => ?_)
    refine lv_aload_n hx hb dL_law_601 rfl (lv_at hl 5 rfl) ?_
    refine lv_iconst (v := nI 0) hx hb dL_law_602 (by decide) ?_
    refine xr_lald hx hb hK hP 15 1 rfl rfl 0 (by omega) (by omega) dL_law_603 ?_
    refine lv_iload hx hb dL_law_604 (lv_at hl 0 rfl) ?_
    refine lv_i2l (v := (f_first nv nc mt mf (xs (i + 1)) (xs (i + 2))).toInt64) hx hb dL_law_606 rfl ?_
    refine W.lcmp hx hb dL_law_607 ?_
    refine lv_if_eq (tgt := 613) hx hb dL_law_608 (by decide) (fun h5 => ?_) (fun h5 => absurd ((lg_cmp_eq _ _).mpr rfl) h5)
    refine lv_goto (tgt := 744) hx hb dL_law_613 (by decide) ?_
    refine W.widen (k := cells + 1) (n := slots + 6) (by omega) (by omega) ?_
    exact hnx _ _ _ ⟨_, _, _, _, _, _, _, _, _, _, _, _, _, _, _, _, _, _, _, _, _, _, _, _, _, _, _, _, _, _, _, _, _, _, _, _, _, _, _, _, _, _, hP, hWF, hSR, hlc, hwc⟩ hS (lv_sub hl [2, 3, 4, 5, 6] rfl)
