set_option maxHeartbeats 8000000 in
set_option maxRecDepth 100000 in
theorem lw_case_5 {p : Program} {l : Launch} {e : Env} {s : State} {m : MethodId} {below : List Frame} {meth : Method} {c : Code} {b L : Nat} {xs : Nat → Int32} {dC : Nat → ClassId} {dI : Nat → Nat → Nat} {cI cL cZ : ClassId} {ad : Nat → Nat} {nv lz : Nat} {Q : State → Prop} (CC : xLC p l s m meth c b L xs dC dI cI cL cZ ad nv lz) {i : Nat} (hi : i + 6 ≤ L) {cells slots : Nat} (hcc : cells + 1 ≤ 601024) (hss : slots + 6 ≤ 7293000) {H : Heap} {locs : List Loc} {ls : Array Slot} (hLaw : xLaw dC dI cI cL cZ ad nv lz H) (hS : va_S (fun q => s.heap.size ≤ q) s.heap H locs) (hl : lv_has ls 8 [(0, .ref b), (1, .ref (ad 0)), (2, .ref (ad 16)), (3, .ref (ad 15)), (4, .int (nI i))]) (hnx : ∀ (H : Heap) (locs : List Loc) (ls : Array Slot), xLaw dC dI cI cL cZ ad nv lz H → va_S (fun q => s.heap.size ≤ q) s.heap H locs → lv_has ls 8 [(0, .ref b), (1, .ref (ad 0)), (2, .ref (ad 16)), (3, .ref (ad 15)), (4, .int (nI i))] → W p l e room_1 s m #[Value.ref b] below meth c H locs (cells + 1) (slots + 6) Q (F0 m 744 ls [])) : W p l e room_1 s m #[Value.ref b] below meth c H locs cells slots Q (F0 m 335 ls []) := by
  obtain ⟨hx, hb, hr, hml, hown, hts, hX, hbl, hL, hlt, hE, hN, hK, hinj, had, hz, hlz⟩ := CC
  obtain ⟨nc, mt, mf, wt, ss, sc, avl, gh, gv, sv, sr, st, nd, lc, bc, bv, lh, lw, lb, wh, wv, wc, of, co, hp, bo, su, sm, am, re, ghM, gvM, fo, bvM, bcM, lo, lhM, lwM, lbM, wa, whM, wvM, hP, hWF, hSR, hlc, hwc⟩ := hLaw
  have hnc := hWF.c
  have hnv := hWF.v2
  have hlo : lo ≤ 1024 := by have := hSR.2.1; omega
  by_cases hs : f_isState (xAV nv) (xs (i + 1)) (xs (i + 2)) = 0
  · have em := e_mcost0 (nc := nc) (mt := mt) (mf := mf) (wt := wt) hnv hs
    refine lv_aload_n hx hb dL_law_335 rfl (lv_at hl 1 rfl) ?_
    refine lv_aload_n hx hb dL_law_336 rfl (lv_at hl 0 rfl) ?_
    refine lv_iload hx hb dL_law_337 (lv_at hl 4 rfl) ?_
    refine lv_iconst (v := nI 1) hx hb dL_law_339 (by decide) ?_
    refine xr_addk hx hb dL_law_340 ?_
    refine xr_sld hx hb hX hbl (Nat.not_le.mpr hbl) hS (j := (i + 1)) (by omega) hL dL_law_341 ?_
    refine lv_aload_n hx hb dL_law_342 rfl (lv_at hl 0 rfl) ?_
    refine lv_iload hx hb dL_law_343 (lv_at hl 4 rfl) ?_
    refine lv_iconst (v := nI 2) hx hb dL_law_345 (by decide) ?_
    refine xr_addk hx hb dL_law_346 ?_
    refine xr_sld hx hb hX hbl (Nat.not_le.mpr hbl) hS (j := (i + 2)) (by omega) hL dL_law_347 ?_
    refine lv_aload_n hx hb dL_law_348 rfl (lv_at hl 3 rfl) ?_
    refine xro_im (xrunSW (n := 4) (hh := [(0, 9, 12, 13)]) (As := [.ref (ad 0), .int (xs (i + 1)), .int (xs (i + 2)), .ref (ad 15)]) (rest := []) ⟨hx, hb, hml, hown, hts⟩ (h_cost_x l dC dI cI cL cZ ad (xI.le hinj (by omega)) hlt nv (xAV nv) nc mt mf wt hnc hnv (xs (i + 1)) (xs (i + 2)) hs) (show GoodIn _ wsL_cost from xgood wd_487) hts (show _ ∈ wsL_cost from List.mem_cons_self) (List.mem_cons_of_mem _ wd_33) (List.mem_cons_of_mem _ wd_485) (List.mem_cons_of_mem _ wd_486) rfl rfl (by decide +kernel) ⟨Nat.le_of_ble_eq_true rfl, Nat.le_of_ble_eq_true rfl⟩ (xpreS2 (hP.sub [0, 1, 2, 3, 4] rfl) hK hE hN (fun q hq => hS.2.1 q hq (Nat.not_le.mpr hq))) rfl rfl hl.1 rfl (lv_room (Nat.le_of_ble_eq_true rfl)) dL_law_349 ⟨by show cells + 1 ≤ 601024; omega, by show slots + 6 ≤ 7293000; omega⟩) hS (fun H locs hk hS => ?_)
    have hP := xkeep hP hk
    refine lv_istore (lv' := [(5, .int 1), (0, .ref b), (1, .ref (ad 0)), (2, .ref (ad 16)), (3, .ref (ad 15)), (4, .int (nI i))]) hx hb dL_law_352 hl (by decide) rfl (fun ls hl => ?_)
    refine lv_aload_n hx hb dL_law_354 rfl (lv_at hl 3 rfl) ?_
    refine lv_aload_n hx hb dL_law_355 rfl (lv_at hl 1 rfl) ?_
    refine lv_iload hx hb dL_law_356 (lv_at hl 5 rfl) ?_
    refine lv_iconst (v := nI 1) hx hb dL_law_358 (by decide) ?_
    refine xr_addk hx hb dL_law_359 ?_
    refine xr_sld hx hb hX hbl (Nat.not_le.mpr hbl) hS (j := (i + 1)) (by omega) hL dL_law_360 ?_
    refine lv_aload_n hx hb dL_law_361 rfl (lv_at hl 1 rfl) ?_
    refine lv_iload hx hb dL_law_362 (lv_at hl 5 rfl) ?_
    refine lv_iconst (v := nI 2) hx hb dL_law_364 (by decide) ?_
    refine xr_addk hx hb dL_law_365 ?_
    refine xr_sld hx hb hX hbl (Nat.not_le.mpr hbl) hS (j := (i + 2)) (by omega) hL dL_law_366 ?_
    refine xrw_l (va_runV (As := [.int (xs (i + 1)), .int (xs (i + 2))]) (rest := []) ⟨hx, hb, hml, hown, hts⟩ (k_cost l dC dI cI cL cZ (fun i => ad (i + 16)) (xI.sh 16 hinj (by omega)) co nv nc mt mf wt hp bo su sm am re ghM gvM fo bvM bcM nd lo lhM lwM lbM wa whM wvM hnc hnv (xs (i + 1)) (xs (i + 2))) (xcwV 2 hts wd_649 wd_39 wd_646 wd_647 wd_648 rfl rfl (by decide +kernel) ⟨Nat.le_of_ble_eq_true rfl, Nat.le_of_ble_eq_true rfl⟩) (xpreV (va_recv hK hP rfl (q0 := 16) rfl) (hP.sub [16, 17, 18, 19, 20, 21, 22, 23, 24, 25, 26, 27] rfl) hK) rfl rfl hl.1 rfl (lv_room (Nat.le_of_ble_eq_true rfl)) dL_law_367 ⟨by show cells + 1 + 0 ≤ 601024; omega, by show slots + 6 + 0 ≤ 7293000; omega⟩) hS (xhi (fun i hi => had (i + 16) (by omega)) (n := 12) (by decide)) (fun r_367 u H locs h1 hB hk hS => ?_)
    obtain ⟨co1_367, rfl⟩ : ∃ z, z = u := ⟨_, rfl⟩
    have hP : va_P (dC, dI) vwCl [(ad 0, .inr (3, [.ref (ad 1), .ref (ad 5), .ref (ad 9)])), (ad 1, .inr (1, [.int (nI nv), .int (xAV nv), .int (nI nc), .ref (ad 2), .ref (ad 3), .ref (ad 4)])), (ad 2, .inl (cI, 40, .inl mt)), (ad 3, .inl (cI, 40, .inl mf)), (ad 4, .inl (cI, 40, .inl wt)), (ad 5, .inr (0, [.ref (ad 1), .ref (ad 6), .int (nI sc), .long avl, .int gh, .int gv, .ref (ad 7), .ref (ad 8), .int (nI st)])), (ad 6, .inl (cL, 40, .inr (.inl ss))), (ad 7, .inl (cI, 10, .inl sv)), (ad 8, .inl (cI, 10, .inl (xnI sr))), (ad 9, .inr (2, [.int nd, .int (nI lc), .long bc, .int bv, .ref (ad 10), .ref (ad 11), .ref (ad 12), .ref (ad 1), .ref (ad 5), .ref (ad 13), .ref (ad 14), .int (nI wc)])), (ad 10, .inl (cI, lz, .inl lh)), (ad 11, .inl (cI, lz, .inl lw)), (ad 12, .inl (cL, lz, .inr (.inl lb))), (ad 13, .inl (cI, 11, .inl wh)), (ad 14, .inl (cI, 11, .inl wv)), (ad 15, .inl (cL, 1, .inr (.inl of))), (ad 16, .inr (4, [.int co1_367, .int (nI nv), .int (nI nc), .ref (ad 17), .ref (ad 18), .ref (ad 19), .int hp, .long bo, .int (nI su), .ref (ad 20), .ref (ad 21), .ref (ad 22), .int ghM, .int gvM, .int fo, .int bvM, .long bcM, .int nd, .int (nI lo), .ref (ad 23), .ref (ad 24), .ref (ad 25), .int (nI wa), .ref (ad 26), .ref (ad 27)])), (ad 17, .inl (cI, 40, .inl mt)), (ad 18, .inl (cI, 40, .inl mf)), (ad 19, .inl (cI, 40, .inl wt)), (ad 20, .inl (cL, 40, .inr (.inl sm))), (ad 21, .inl (cZ, 40, .inl am)), (ad 22, .inl (cI, 10, .inl re)), (ad 23, .inl (cI, 1024, .inl lhM)), (ad 24, .inl (cI, 1024, .inl lwM)), (ad 25, .inl (cL, 1024, .inr (.inl lbM))), (ad 26, .inl (cI, 24, .inl whM)), (ad 27, .inl (cI, 24, .inl wvM))] H := ((xkeepA hP hk [0, 1, 2, 3, 4, 5, 6, 7, 8, 9, 10, 11, 12, 13, 14, 15] rfl (fun k q hq hz => xnA hinj [0, 1, 2, 3, 4, 5, 6, 7, 8, 9, 10, 11, 12, 13, 14, 15] rfl (by decide) k q hq (xA_sh hz))).app hB).sub [0, 1, 2, 3, 4, 5, 6, 7, 8, 9, 10, 11, 12, 13, 14, 15, 16, 17, 18, 19, 20, 21, 22, 23, 24, 25, 26, 27] rfl
    have hq : (r_367, co1_367) = (0, 1) := Eq.trans (Eq.symm h1) (em)
    have hq := hq.symm
    simp only [Prod.mk.injEq] at hq
    obtain ⟨rfl, rfl⟩ := hq
    refine lv_lstore (lv' := [(6, .long 0), (5, .int 1), (0, .ref b), (1, .ref (ad 0)), (2, .ref (ad 16)), (3, .ref (ad 15)), (4, .int (nI i))]) hx hb dL_law_370 hl (by decide) rfl (fun ls hl => ?_)
    refine lv_aload_n hx hb dL_law_372 rfl (lv_at hl 4 rfl) ?_
    refine xro_i (va_runV (As := []) (rest := []) ⟨hx, hb, hml, hown, hts⟩ (k_thrown l dC dI cI cL cZ (fun i => ad (i + 16)) (xI.sh 16 hinj (by omega)) 1 nv nc mt mf wt hp bo su sm am re ghM gvM fo bvM bcM nd lo lhM lwM lbM wa whM wvM) (xcwV 0 hts wd_610 wd_39 wd_607 wd_608 wd_609 rfl rfl (by decide +kernel) ⟨Nat.le_of_ble_eq_true rfl, Nat.le_of_ble_eq_true rfl⟩) (xpreV (va_recv hK hP rfl (q0 := 16) rfl) (hP.sub [16, 17, 18, 19, 20, 21, 22, 23, 24, 25, 26, 27] rfl) hK) rfl rfl hl.1 rfl (lv_room (Nat.le_of_ble_eq_true rfl)) dL_law_373 ⟨by show cells + 1 + 0 ≤ 601024; omega, by show slots + 6 + 0 ≤ 7293000; omega⟩) hS (fun H locs hk hS => ?_)
    have hP := xkeep hP hk
    refine lv_iload hx hb dL_law_376 (lv_at hl 1 rfl) ?_
    refine lv_icmp_eq (tgt := 383) hx hb dL_law_378 (by decide) (fun h2 => ?_) (fun h2 => absurd rfl h2)
    refine lv_iload hx hb dL_law_383 (lv_at hl 1 rfl) ?_
    refine lv_if_ne (tgt := 399) hx hb dL_law_385 (by decide) (fun h3 => ?_) (fun h3 => absurd h3 (show ¬ (1 : Int32) = 0 by decide))
    refine lv_goto (tgt := 744) hx hb dL_law_399 (by decide) ?_
    exact hnx _ _ _ ⟨_, _, _, _, _, _, _, _, _, _, _, _, _, _, _, _, _, _, _, _, _, _, _, _, _, _, _, _, _, _, _, _, _, _, _, _, _, _, _, _, _, _, hP, hWF, hSR, hlc, hwc⟩ hS (lv_sub hl [2, 3, 4, 5, 6] rfl)
  · have em := e_mcost1 hWF hs
    have ef : l_cost nc mt mf wt (xs (i + 1)) (xs (i + 2)) of = (0, (vp_updL of 0 (f_cost nc mt mf wt (xs (i + 1)) (xs (i + 2))))) := rfl
    refine lv_aload_n hx hb dL_law_335 rfl (lv_at hl 1 rfl) ?_
    refine lv_aload_n hx hb dL_law_336 rfl (lv_at hl 0 rfl) ?_
    refine lv_iload hx hb dL_law_337 (lv_at hl 4 rfl) ?_
    refine lv_iconst (v := nI 1) hx hb dL_law_339 (by decide) ?_
    refine xr_addk hx hb dL_law_340 ?_
    refine xr_sld hx hb hX hbl (Nat.not_le.mpr hbl) hS (j := (i + 1)) (by omega) hL dL_law_341 ?_
    refine lv_aload_n hx hb dL_law_342 rfl (lv_at hl 0 rfl) ?_
    refine lv_iload hx hb dL_law_343 (lv_at hl 4 rfl) ?_
    refine lv_iconst (v := nI 2) hx hb dL_law_345 (by decide) ?_
    refine xr_addk hx hb dL_law_346 ?_
    refine xr_sld hx hb hX hbl (Nat.not_le.mpr hbl) hS (j := (i + 2)) (by omega) hL dL_law_347 ?_
    refine lv_aload_n hx hb dL_law_348 rfl (lv_at hl 3 rfl) ?_
    refine xrw_i (xrunSW (n := 4) (hh := [(0, 9, 12, 13)]) (As := [.ref (ad 0), .int (xs (i + 1)), .int (xs (i + 2)), .ref (ad 15)]) (rest := []) ⟨hx, hb, hml, hown, hts⟩ (h_cost l dC dI cI cL cZ ad (xI.le hinj (by omega)) nv (xAV nv) nc mt mf wt hnc hnv (xs (i + 1)) (xs (i + 2)) hs of) (show GoodIn _ wsL_cost from xgood wd_487) hts (show _ ∈ wsL_cost from List.mem_cons_self) (List.mem_cons_of_mem _ wd_33) (List.mem_cons_of_mem _ wd_485) (List.mem_cons_of_mem _ wd_486) rfl rfl (by decide +kernel) ⟨Nat.le_of_ble_eq_true rfl, Nat.le_of_ble_eq_true rfl⟩ (xpreS (hP.sub [0, 1, 2, 3, 4, 15] rfl) hK) rfl rfl hl.1 rfl (lv_room (Nat.le_of_ble_eq_true rfl)) dL_law_349 ⟨by show cells + 0 ≤ 601024; omega, by show slots + 0 ≤ 7293000; omega⟩) hS (xhi had (by decide)) (fun r_349 u H locs h1 hB hk hS => ?_)
    obtain ⟨of1_349, rfl⟩ : ∃ z, z = u := ⟨_, rfl⟩
    have hP : va_P (dC, dI) vwCl [(ad 0, .inr (3, [.ref (ad 1), .ref (ad 5), .ref (ad 9)])), (ad 1, .inr (1, [.int (nI nv), .int (xAV nv), .int (nI nc), .ref (ad 2), .ref (ad 3), .ref (ad 4)])), (ad 2, .inl (cI, 40, .inl mt)), (ad 3, .inl (cI, 40, .inl mf)), (ad 4, .inl (cI, 40, .inl wt)), (ad 5, .inr (0, [.ref (ad 1), .ref (ad 6), .int (nI sc), .long avl, .int gh, .int gv, .ref (ad 7), .ref (ad 8), .int (nI st)])), (ad 6, .inl (cL, 40, .inr (.inl ss))), (ad 7, .inl (cI, 10, .inl sv)), (ad 8, .inl (cI, 10, .inl (xnI sr))), (ad 9, .inr (2, [.int nd, .int (nI lc), .long bc, .int bv, .ref (ad 10), .ref (ad 11), .ref (ad 12), .ref (ad 1), .ref (ad 5), .ref (ad 13), .ref (ad 14), .int (nI wc)])), (ad 10, .inl (cI, lz, .inl lh)), (ad 11, .inl (cI, lz, .inl lw)), (ad 12, .inl (cL, lz, .inr (.inl lb))), (ad 13, .inl (cI, 11, .inl wh)), (ad 14, .inl (cI, 11, .inl wv)), (ad 15, .inl (cL, 1, .inr (.inl of1_349))), (ad 16, .inr (4, [.int co, .int (nI nv), .int (nI nc), .ref (ad 17), .ref (ad 18), .ref (ad 19), .int hp, .long bo, .int (nI su), .ref (ad 20), .ref (ad 21), .ref (ad 22), .int ghM, .int gvM, .int fo, .int bvM, .long bcM, .int nd, .int (nI lo), .ref (ad 23), .ref (ad 24), .ref (ad 25), .int (nI wa), .ref (ad 26), .ref (ad 27)])), (ad 17, .inl (cI, 40, .inl mt)), (ad 18, .inl (cI, 40, .inl mf)), (ad 19, .inl (cI, 40, .inl wt)), (ad 20, .inl (cL, 40, .inr (.inl sm))), (ad 21, .inl (cZ, 40, .inl am)), (ad 22, .inl (cI, 10, .inl re)), (ad 23, .inl (cI, 1024, .inl lhM)), (ad 24, .inl (cI, 1024, .inl lwM)), (ad 25, .inl (cL, 1024, .inr (.inl lbM))), (ad 26, .inl (cI, 24, .inl whM)), (ad 27, .inl (cI, 24, .inl wvM))] H := ((xkeepA hP hk [0, 1, 2, 3, 4, 5, 6, 7, 8, 9, 10, 11, 12, 13, 14, 16, 17, 18, 19, 20, 21, 22, 23, 24, 25, 26, 27] rfl (xnA hinj [0, 1, 2, 3, 4, 5, 6, 7, 8, 9, 10, 11, 12, 13, 14, 16, 17, 18, 19, 20, 21, 22, 23, 24, 25, 26, 27] rfl (by decide))).app hB).sub [0, 1, 2, 3, 4, 5, 6, 7, 8, 9, 10, 11, 12, 13, 14, 27, 15, 16, 17, 18, 19, 20, 21, 22, 23, 24, 25, 26] rfl
    have hq : (r_349, of1_349) = (0, (vp_updL of 0 (f_cost nc mt mf wt (xs (i + 1)) (xs (i + 2))))) := Eq.trans (Eq.symm h1) (ef)
    have hq := hq.symm
    simp only [Prod.mk.injEq] at hq
    obtain ⟨rfl, rfl⟩ := hq
    refine lv_istore (lv' := [(5, .int 0), (0, .ref b), (1, .ref (ad 0)), (2, .ref (ad 16)), (3, .ref (ad 15)), (4, .int (nI i))]) hx hb dL_law_352 hl (by decide) rfl (fun ls hl => ?_)
    refine lv_aload_n hx hb dL_law_354 rfl (lv_at hl 3 rfl) ?_
    refine lv_aload_n hx hb dL_law_355 rfl (lv_at hl 1 rfl) ?_
    refine lv_iload hx hb dL_law_356 (lv_at hl 5 rfl) ?_
    refine lv_iconst (v := nI 1) hx hb dL_law_358 (by decide) ?_
    refine xr_addk hx hb dL_law_359 ?_
    refine xr_sld hx hb hX hbl (Nat.not_le.mpr hbl) hS (j := (i + 1)) (by omega) hL dL_law_360 ?_
    refine lv_aload_n hx hb dL_law_361 rfl (lv_at hl 1 rfl) ?_
    refine lv_iload hx hb dL_law_362 (lv_at hl 5 rfl) ?_
    refine lv_iconst (v := nI 2) hx hb dL_law_364 (by decide) ?_
    refine xr_addk hx hb dL_law_365 ?_
    refine xr_sld hx hb hX hbl (Nat.not_le.mpr hbl) hS (j := (i + 2)) (by omega) hL dL_law_366 ?_
    refine xrw_l (va_runV (As := [.int (xs (i + 1)), .int (xs (i + 2))]) (rest := []) ⟨hx, hb, hml, hown, hts⟩ (k_cost l dC dI cI cL cZ (fun i => ad (i + 16)) (xI.sh 16 hinj (by omega)) co nv nc mt mf wt hp bo su sm am re ghM gvM fo bvM bcM nd lo lhM lwM lbM wa whM wvM hnc hnv (xs (i + 1)) (xs (i + 2))) (xcwV 2 hts wd_649 wd_39 wd_646 wd_647 wd_648 rfl rfl (by decide +kernel) ⟨Nat.le_of_ble_eq_true rfl, Nat.le_of_ble_eq_true rfl⟩) (xpreV (va_recv hK hP rfl (q0 := 16) rfl) (hP.sub [16, 17, 18, 19, 20, 21, 22, 23, 24, 25, 26, 27] rfl) hK) rfl rfl hl.1 rfl (lv_room (Nat.le_of_ble_eq_true rfl)) dL_law_367 ⟨by show cells + 0 ≤ 601024; omega, by show slots + 0 ≤ 7293000; omega⟩) hS (xhi (fun i hi => had (i + 16) (by omega)) (n := 12) (by decide)) (fun r_367 u H locs h2 hB hk hS => ?_)
    obtain ⟨co1_367, rfl⟩ : ∃ z, z = u := ⟨_, rfl⟩
    have hP : va_P (dC, dI) vwCl [(ad 0, .inr (3, [.ref (ad 1), .ref (ad 5), .ref (ad 9)])), (ad 1, .inr (1, [.int (nI nv), .int (xAV nv), .int (nI nc), .ref (ad 2), .ref (ad 3), .ref (ad 4)])), (ad 2, .inl (cI, 40, .inl mt)), (ad 3, .inl (cI, 40, .inl mf)), (ad 4, .inl (cI, 40, .inl wt)), (ad 5, .inr (0, [.ref (ad 1), .ref (ad 6), .int (nI sc), .long avl, .int gh, .int gv, .ref (ad 7), .ref (ad 8), .int (nI st)])), (ad 6, .inl (cL, 40, .inr (.inl ss))), (ad 7, .inl (cI, 10, .inl sv)), (ad 8, .inl (cI, 10, .inl (xnI sr))), (ad 9, .inr (2, [.int nd, .int (nI lc), .long bc, .int bv, .ref (ad 10), .ref (ad 11), .ref (ad 12), .ref (ad 1), .ref (ad 5), .ref (ad 13), .ref (ad 14), .int (nI wc)])), (ad 10, .inl (cI, lz, .inl lh)), (ad 11, .inl (cI, lz, .inl lw)), (ad 12, .inl (cL, lz, .inr (.inl lb))), (ad 13, .inl (cI, 11, .inl wh)), (ad 14, .inl (cI, 11, .inl wv)), (ad 15, .inl (cL, 1, .inr (.inl (vp_updL of 0 (f_cost nc mt mf wt (xs (i + 1)) (xs (i + 2))))))), (ad 16, .inr (4, [.int co1_367, .int (nI nv), .int (nI nc), .ref (ad 17), .ref (ad 18), .ref (ad 19), .int hp, .long bo, .int (nI su), .ref (ad 20), .ref (ad 21), .ref (ad 22), .int ghM, .int gvM, .int fo, .int bvM, .long bcM, .int nd, .int (nI lo), .ref (ad 23), .ref (ad 24), .ref (ad 25), .int (nI wa), .ref (ad 26), .ref (ad 27)])), (ad 17, .inl (cI, 40, .inl mt)), (ad 18, .inl (cI, 40, .inl mf)), (ad 19, .inl (cI, 40, .inl wt)), (ad 20, .inl (cL, 40, .inr (.inl sm))), (ad 21, .inl (cZ, 40, .inl am)), (ad 22, .inl (cI, 10, .inl re)), (ad 23, .inl (cI, 1024, .inl lhM)), (ad 24, .inl (cI, 1024, .inl lwM)), (ad 25, .inl (cL, 1024, .inr (.inl lbM))), (ad 26, .inl (cI, 24, .inl whM)), (ad 27, .inl (cI, 24, .inl wvM))] H := ((xkeepA hP hk [0, 1, 2, 3, 4, 5, 6, 7, 8, 9, 10, 11, 12, 13, 14, 15] rfl (fun k q hq hz => xnA hinj [0, 1, 2, 3, 4, 5, 6, 7, 8, 9, 10, 11, 12, 13, 14, 15] rfl (by decide) k q hq (xA_sh hz))).app hB).sub [0, 1, 2, 3, 4, 5, 6, 7, 8, 9, 10, 11, 12, 13, 14, 15, 16, 17, 18, 19, 20, 21, 22, 23, 24, 25, 26, 27] rfl
    have hq : (r_367, co1_367) = ((f_cost nc mt mf wt (xs (i + 1)) (xs (i + 2))), 0) := Eq.trans (Eq.symm h2) (em)
    have hq := hq.symm
    simp only [Prod.mk.injEq] at hq
    obtain ⟨rfl, rfl⟩ := hq
    refine lv_lstore (lv' := [(6, .long (f_cost nc mt mf wt (xs (i + 1)) (xs (i + 2)))), (5, .int 0), (0, .ref b), (1, .ref (ad 0)), (2, .ref (ad 16)), (3, .ref (ad 15)), (4, .int (nI i))]) hx hb dL_law_370 hl (by decide) rfl (fun ls hl => ?_)
    refine lv_aload_n hx hb dL_law_372 rfl (lv_at hl 4 rfl) ?_
    refine xro_i (va_runV (As := []) (rest := []) ⟨hx, hb, hml, hown, hts⟩ (k_thrown l dC dI cI cL cZ (fun i => ad (i + 16)) (xI.sh 16 hinj (by omega)) 0 nv nc mt mf wt hp bo su sm am re ghM gvM fo bvM bcM nd lo lhM lwM lbM wa whM wvM) (xcwV 0 hts wd_610 wd_39 wd_607 wd_608 wd_609 rfl rfl (by decide +kernel) ⟨Nat.le_of_ble_eq_true rfl, Nat.le_of_ble_eq_true rfl⟩) (xpreV (va_recv hK hP rfl (q0 := 16) rfl) (hP.sub [16, 17, 18, 19, 20, 21, 22, 23, 24, 25, 26, 27] rfl) hK) rfl rfl hl.1 rfl (lv_room (Nat.le_of_ble_eq_true rfl)) dL_law_373 ⟨by show cells + 0 ≤ 601024; omega, by show slots + 0 ≤ 7293000; omega⟩) hS (fun H locs hk hS => ?_)
    have hP := xkeep hP hk
    refine lv_iload hx hb dL_law_376 (lv_at hl 1 rfl) ?_
    refine lv_icmp_eq (tgt := 383) hx hb dL_law_378 (by decide) (fun h3 => ?_) (fun h3 => absurd rfl h3)
    refine lv_iload hx hb dL_law_383 (lv_at hl 1 rfl) ?_
    refine lv_if_ne (tgt := 399) hx hb dL_law_385 (by decide) (fun h4 => absurd (show (0 : Int32) = 0 from rfl) h4) (fun h4 => ?_)
    refine lv_aload_n hx hb dL_law_388 rfl (lv_at hl 5 rfl) ?_
    refine lv_iconst (v := nI 0) hx hb dL_law_389 (by decide) ?_
    refine xr_lald hx hb hK hP 15 1 rfl rfl 0 (by omega) (by omega) dL_law_390 ?_
    refine lv_lload hx hb dL_law_391 (lv_at hl 0 rfl) ?_
    refine W.lcmp hx hb dL_law_393 ?_
    refine lv_if_eq (tgt := 399) hx hb dL_law_394 (by decide) (fun h5 => ?_) (fun h5 => absurd ((lg_cmp_eq _ _).mpr rfl) h5)
    refine lv_goto (tgt := 744) hx hb dL_law_399 (by decide) ?_
    refine W.widen (k := cells + 1) (n := slots + 6) (by omega) (by omega) ?_
    exact hnx _ _ _ ⟨_, _, _, _, _, _, _, _, _, _, _, _, _, _, _, _, _, _, _, _, _, _, _, _, _, _, _, _, _, _, _, _, _, _, _, _, _, _, _, _, _, _, hP, hWF, hSR, hlc, hwc⟩ hS (lv_sub hl [2, 3, 4, 5, 6] rfl)
