set_option maxHeartbeats 8000000 in
set_option maxRecDepth 100000 in
theorem lw_case_7 {p : Program} {l : Launch} {e : Env} {s : State} {m : MethodId} {below : List Frame} {meth : Method} {c : Code} {b L : Nat} {xs : Nat → Int32} {dC : Nat → ClassId} {dI : Nat → Nat → Nat} {cI cL cZ : ClassId} {ad : Nat → Nat} {nv lz : Nat} {Q : State → Prop} (CC : xLC p l s m meth c b L xs dC dI cI cL cZ ad nv lz) {i : Nat} (hi : i + 6 ≤ L) {cells slots : Nat} (hcc : cells + 1 ≤ 601024) (hss : slots + 6 ≤ 7293000) {H : Heap} {locs : List Loc} {ls : Array Slot} (hLaw : xLaw dC dI cI cL cZ ad nv lz H) (hS : va_S (fun q => s.heap.size ≤ q) s.heap H locs) (hl : lv_has ls 8 [(0, .ref b), (1, .ref (ad 0)), (2, .ref (ad 16)), (3, .ref (ad 15)), (4, .int (nI i))]) (hnx : ∀ (H : Heap) (locs : List Loc) (ls : Array Slot), xLaw dC dI cI cL cZ ad nv lz H → va_S (fun q => s.heap.size ≤ q) s.heap H locs → lv_has ls 8 [(0, .ref b), (1, .ref (ad 0)), (2, .ref (ad 16)), (3, .ref (ad 15)), (4, .int (nI i))] → W p l e room_1 s m #[Value.ref b] below meth c H locs (cells + 1) (slots + 6) Q (F0 m 744 ls [])) : W p l e room_1 s m #[Value.ref b] below meth c H locs cells slots Q (F0 m 469 ls []) := by
  obtain ⟨hx, hb, hr, hml, hown, hts, hX, hbl, hL, hlt, hE, hN, hK, hinj, had, hz, hlz⟩ := CC
  obtain ⟨nc, mt, mf, wt, ss, sc, avl, gh, gv, sv, sr, st, nd, lc, bc, bv, lh, lw, lb, wh, wv, wc, of, co, hp, bo, su, sm, am, re, ghM, gvM, fo, bvM, bcM, lo, lhM, lwM, lbM, wa, whM, wvM, hP, hWF, hSR, hlc, hwc⟩ := hLaw
  have hnc := hWF.c
  have hnv := hWF.v2
  have hlo : lo ≤ 1024 := by have := hSR.2.1; omega
  by_cases hs : f_isState (xAV nv) (xs (i + 1)) (xs (i + 2)) = 0
  · have em := e_msubset0 (nc := nc) (mt := mt) (mf := mf) (wt := wt) hnv hs hp bo su sm am re ghM gvM (xs (i + 3))
    refine lv_aload_n hx hb dL_law_469 rfl (lv_at hl 1 rfl) ?_
    refine lv_aload_n hx hb dL_law_470 rfl (lv_at hl 0 rfl) ?_
    refine lv_iload hx hb dL_law_471 (lv_at hl 4 rfl) ?_
    refine lv_iconst (v := nI 1) hx hb dL_law_473 (by decide) ?_
    refine xr_addk hx hb dL_law_474 ?_
    refine xr_sld hx hb hX hbl (Nat.not_le.mpr hbl) hS (j := (i + 1)) (by omega) hL dL_law_475 ?_
    refine lv_aload_n hx hb dL_law_476 rfl (lv_at hl 0 rfl) ?_
    refine lv_iload hx hb dL_law_477 (lv_at hl 4 rfl) ?_
    refine lv_iconst (v := nI 2) hx hb dL_law_479 (by decide) ?_
    refine xr_addk hx hb dL_law_480 ?_
    refine xr_sld hx hb hX hbl (Nat.not_le.mpr hbl) hS (j := (i + 2)) (by omega) hL dL_law_481 ?_
    refine lv_aload_n hx hb dL_law_482 rfl (lv_at hl 0 rfl) ?_
    refine lv_iload hx hb dL_law_483 (lv_at hl 4 rfl) ?_
    refine lv_iconst (v := nI 3) hx hb dL_law_485 (by decide) ?_
    refine xr_addk hx hb dL_law_486 ?_
    refine xr_sld hx hb hX hbl (Nat.not_le.mpr hbl) hS (j := (i + 3)) (by omega) hL dL_law_487 ?_
    refine lv_aload_n hx hb dL_law_488 rfl (lv_at hl 3 rfl) ?_
    refine xro_im (xrunSW (n := 5) (hh := [(0, 11, 14, 13)]) (As := [.ref (ad 0), .int (xs (i + 1)), .int (xs (i + 2)), .int (xs (i + 3)), .ref (ad 15)]) (rest := []) ⟨hx, hb, hml, hown, hts⟩ (h_subset_x l dC dI cI cL cZ ad (xI.le hinj (by omega)) hlt nv (xAV nv) nc mt mf wt hnc hnv (xs (i + 1)) (xs (i + 2)) (xs (i + 3)) hs) (show GoodIn _ wsL_subset from xgood wd_507) hts (show _ ∈ wsL_subset from List.mem_cons_self) (List.mem_cons_of_mem _ wd_33) (List.mem_cons_of_mem _ wd_505) (List.mem_cons_of_mem _ wd_506) rfl rfl (by decide +kernel) ⟨Nat.le_of_ble_eq_true rfl, Nat.le_of_ble_eq_true rfl⟩ (xpreS2 (hP.sub [0, 1, 2, 3, 4] rfl) hK hE hN (fun q hq => hS.2.1 q hq (Nat.not_le.mpr hq))) rfl rfl hl.1 rfl (lv_room (Nat.le_of_ble_eq_true rfl)) dL_law_489 ⟨by show cells + 1 ≤ 601024; omega, by show slots + 6 ≤ 7293000; omega⟩) hS (fun H locs hk hS => ?_)
    have hP := xkeep hP hk
    refine lv_istore (lv' := [(5, .int 1), (0, .ref b), (1, .ref (ad 0)), (2, .ref (ad 16)), (3, .ref (ad 15)), (4, .int (nI i))]) hx hb dL_law_492 hl (by decide) rfl (fun ls hl => ?_)
    refine lv_aload_n hx hb dL_law_494 rfl (lv_at hl 3 rfl) ?_
    refine lv_aload_n hx hb dL_law_495 rfl (lv_at hl 1 rfl) ?_
    refine lv_iload hx hb dL_law_496 (lv_at hl 5 rfl) ?_
    refine lv_iconst (v := nI 1) hx hb dL_law_498 (by decide) ?_
    refine xr_addk hx hb dL_law_499 ?_
    refine xr_sld hx hb hX hbl (Nat.not_le.mpr hbl) hS (j := (i + 1)) (by omega) hL dL_law_500 ?_
    refine lv_aload_n hx hb dL_law_501 rfl (lv_at hl 1 rfl) ?_
    refine lv_iload hx hb dL_law_502 (lv_at hl 5 rfl) ?_
    refine lv_iconst (v := nI 2) hx hb dL_law_504 (by decide) ?_
    refine xr_addk hx hb dL_law_505 ?_
    refine xr_sld hx hb hX hbl (Nat.not_le.mpr hbl) hS (j := (i + 2)) (by omega) hL dL_law_506 ?_
    refine lv_aload_n hx hb dL_law_507 rfl (lv_at hl 1 rfl) ?_
    refine lv_iload hx hb dL_law_508 (lv_at hl 5 rfl) ?_
    refine lv_iconst (v := nI 3) hx hb dL_law_510 (by decide) ?_
    refine xr_addk hx hb dL_law_511 ?_
    refine xr_sld hx hb hX hbl (Nat.not_le.mpr hbl) hS (j := (i + 3)) (by omega) hL dL_law_512 ?_
    refine xrw_l (va_runV (As := [.int (xs (i + 1)), .int (xs (i + 2)), .int (xs (i + 3))]) (rest := []) ⟨hx, hb, hml, hown, hts⟩ (k_subset l dC dI cI cL cZ (fun i => ad (i + 16)) (xI.sh 16 hinj (by omega)) co nv nc mt mf wt hp bo su sm am re ghM gvM fo bvM bcM nd lo lhM lwM lbM wa whM wvM hnc hnv (xs (i + 1)) (xs (i + 2)) (xs (i + 3)) (⟨_, em⟩)) (xcwV 3 hts wd_702 wd_39 wd_699 wd_700 wd_701 rfl rfl (by decide +kernel) ⟨Nat.le_of_ble_eq_true rfl, Nat.le_of_ble_eq_true rfl⟩) (xpreV (va_recv hK hP rfl (q0 := 16) rfl) (hP.sub [16, 17, 18, 19, 20, 21, 22, 23, 24, 25, 26, 27] rfl) hK) rfl rfl hl.1 rfl (lv_room (Nat.le_of_ble_eq_true rfl)) dL_law_513 ⟨by show cells + 1 + 0 ≤ 601024; omega, by show slots + 6 + 0 ≤ 7293000; omega⟩) hS (xhi (fun i hi => had (i + 16) (by omega)) (n := 12) (by decide)) (fun r_513 u H locs h1 hB hk hS => ?_)
    obtain ⟨co1_513, hp1_513, bo1_513, su1_513, ss1_513, av1_513, re1_513, gh1_513, gv1_513⟩ := u
    have hP : va_P (dC, dI) vwCl [(ad 0, .inr (3, [.ref (ad 1), .ref (ad 5), .ref (ad 9)])), (ad 1, .inr (1, [.int (nI nv), .int (xAV nv), .int (nI nc), .ref (ad 2), .ref (ad 3), .ref (ad 4)])), (ad 2, .inl (cI, 40, .inl mt)), (ad 3, .inl (cI, 40, .inl mf)), (ad 4, .inl (cI, 40, .inl wt)), (ad 5, .inr (0, [.ref (ad 1), .ref (ad 6), .int (nI sc), .long avl, .int gh, .int gv, .ref (ad 7), .ref (ad 8), .int (nI st)])), (ad 6, .inl (cL, 40, .inr (.inl ss))), (ad 7, .inl (cI, 10, .inl sv)), (ad 8, .inl (cI, 10, .inl (xnI sr))), (ad 9, .inr (2, [.int nd, .int (nI lc), .long bc, .int bv, .ref (ad 10), .ref (ad 11), .ref (ad 12), .ref (ad 1), .ref (ad 5), .ref (ad 13), .ref (ad 14), .int (nI wc)])), (ad 10, .inl (cI, lz, .inl lh)), (ad 11, .inl (cI, lz, .inl lw)), (ad 12, .inl (cL, lz, .inr (.inl lb))), (ad 13, .inl (cI, 11, .inl wh)), (ad 14, .inl (cI, 11, .inl wv)), (ad 15, .inl (cL, 1, .inr (.inl of))), (ad 16, .inr (4, [.int co1_513, .int (nI nv), .int (nI nc), .ref (ad 17), .ref (ad 18), .ref (ad 19), .int hp1_513, .long bo1_513, .int (nI su1_513), .ref (ad 20), .ref (ad 21), .ref (ad 22), .int gh1_513, .int gv1_513, .int fo, .int bvM, .long bcM, .int nd, .int (nI lo), .ref (ad 23), .ref (ad 24), .ref (ad 25), .int (nI wa), .ref (ad 26), .ref (ad 27)])), (ad 17, .inl (cI, 40, .inl mt)), (ad 18, .inl (cI, 40, .inl mf)), (ad 19, .inl (cI, 40, .inl wt)), (ad 20, .inl (cL, 40, .inr (.inl ss1_513))), (ad 21, .inl (cZ, 40, .inl av1_513)), (ad 22, .inl (cI, 10, .inl re1_513)), (ad 23, .inl (cI, 1024, .inl lhM)), (ad 24, .inl (cI, 1024, .inl lwM)), (ad 25, .inl (cL, 1024, .inr (.inl lbM))), (ad 26, .inl (cI, 24, .inl whM)), (ad 27, .inl (cI, 24, .inl wvM))] H := ((xkeepA hP hk [0, 1, 2, 3, 4, 5, 6, 7, 8, 9, 10, 11, 12, 13, 14, 15] rfl (fun k q hq hz => xnA hinj [0, 1, 2, 3, 4, 5, 6, 7, 8, 9, 10, 11, 12, 13, 14, 15] rfl (by decide) k q hq (xA_sh hz))).app hB).sub [0, 1, 2, 3, 4, 5, 6, 7, 8, 9, 10, 11, 12, 13, 14, 15, 16, 17, 18, 19, 20, 21, 22, 23, 24, 25, 26, 27] rfl
    have hq : some (r_513, co1_513, hp1_513, bo1_513, su1_513, ss1_513, av1_513, re1_513, gh1_513, gv1_513) = some (0, 1, hp, bo, su, sm, am, re, ghM, gvM) := Eq.trans (Eq.symm h1) (em)
    have hq := hq.symm
    simp only [Option.some.injEq, Prod.mk.injEq] at hq
    obtain ⟨rfl, rfl, rfl, rfl, rfl, rfl, rfl, rfl, rfl, rfl⟩ := hq
    refine lv_lstore (lv' := [(6, .long 0), (5, .int 1), (0, .ref b), (1, .ref (ad 0)), (2, .ref (ad 16)), (3, .ref (ad 15)), (4, .int (nI i))]) hx hb dL_law_516 hl (by decide) rfl (fun ls hl => ?_)
    refine lv_aload_n hx hb dL_law_518 rfl (lv_at hl 4 rfl) ?_
    refine xro_i (va_runV (As := []) (rest := []) ⟨hx, hb, hml, hown, hts⟩ (k_thrown l dC dI cI cL cZ (fun i => ad (i + 16)) (xI.sh 16 hinj (by omega)) 1 nv nc mt mf wt hp bo su sm am re ghM gvM fo bvM bcM nd lo lhM lwM lbM wa whM wvM) (xcwV 0 hts wd_610 wd_39 wd_607 wd_608 wd_609 rfl rfl (by decide +kernel) ⟨Nat.le_of_ble_eq_true rfl, Nat.le_of_ble_eq_true rfl⟩) (xpreV (va_recv hK hP rfl (q0 := 16) rfl) (hP.sub [16, 17, 18, 19, 20, 21, 22, 23, 24, 25, 26, 27] rfl) hK) rfl rfl hl.1 rfl (lv_room (Nat.le_of_ble_eq_true rfl)) dL_law_519 ⟨by show cells + 1 + 0 ≤ 601024; omega, by show slots + 6 + 0 ≤ 7293000; omega⟩) hS (fun H locs hk hS => ?_)
    have hP := xkeep hP hk
    refine lv_iload hx hb dL_law_522 (lv_at hl 1 rfl) ?_
    refine lv_icmp_eq (tgt := 529) hx hb dL_law_524 (by decide) (fun h2 => ?_) (fun h2 => absurd rfl h2)
    refine lv_iload hx hb dL_law_529 (lv_at hl 1 rfl) ?_
    refine lv_if_ne (tgt := 545) hx hb dL_law_531 (by decide) (fun h3 => ?_) (fun h3 => absurd h3 (show ¬ (1 : Int32) = 0 by decide))
    refine lv_goto (tgt := 744) hx hb dL_law_545 (by decide) ?_
    exact hnx _ _ _ ⟨_, _, _, _, _, _, _, _, _, _, _, _, _, _, _, _, _, _, _, _, _, _, _, _, _, _, _, _, _, _, _, _, _, _, _, _, _, _, _, _, _, _, hP, hWF, hSR, hlc, hwc⟩ hS (lv_sub hl [2, 3, 4, 5, 6] rfl)
  · obtain ⟨rb, ss1, sc1, avl1, gh1, gv1, sv1, sr1, st1, ef0, hp1, bo1, su1, sm1, am1, rm1, g1, g2, em⟩ := e_msubset1 hWF hs ss sc avl gh gv sv sr st hp bo su sm am re ghM gvM (xs (i + 3))
    have ef : l_subset nc mt mf wt ss sc avl gh gv sv sr st (xs (i + 1)) (xs (i + 2)) (xs (i + 3)) of = (0, ss1, sc1, avl1, gh1, gv1, sv1, sr1, st1, vp_updL of 0 rb) := by unfold l_subset; rw [ef0]
    refine lv_aload_n hx hb dL_law_469 rfl (lv_at hl 1 rfl) ?_
    refine lv_aload_n hx hb dL_law_470 rfl (lv_at hl 0 rfl) ?_
    refine lv_iload hx hb dL_law_471 (lv_at hl 4 rfl) ?_
    refine lv_iconst (v := nI 1) hx hb dL_law_473 (by decide) ?_
    refine xr_addk hx hb dL_law_474 ?_
    refine xr_sld hx hb hX hbl (Nat.not_le.mpr hbl) hS (j := (i + 1)) (by omega) hL dL_law_475 ?_
    refine lv_aload_n hx hb dL_law_476 rfl (lv_at hl 0 rfl) ?_
    refine lv_iload hx hb dL_law_477 (lv_at hl 4 rfl) ?_
    refine lv_iconst (v := nI 2) hx hb dL_law_479 (by decide) ?_
    refine xr_addk hx hb dL_law_480 ?_
    refine xr_sld hx hb hX hbl (Nat.not_le.mpr hbl) hS (j := (i + 2)) (by omega) hL dL_law_481 ?_
    refine lv_aload_n hx hb dL_law_482 rfl (lv_at hl 0 rfl) ?_
    refine lv_iload hx hb dL_law_483 (lv_at hl 4 rfl) ?_
    refine lv_iconst (v := nI 3) hx hb dL_law_485 (by decide) ?_
    refine xr_addk hx hb dL_law_486 ?_
    refine xr_sld hx hb hX hbl (Nat.not_le.mpr hbl) hS (j := (i + 3)) (by omega) hL dL_law_487 ?_
    refine lv_aload_n hx hb dL_law_488 rfl (lv_at hl 3 rfl) ?_
    refine xrw_i (xrunSW (n := 5) (hh := [(0, 11, 14, 13)]) (As := [.ref (ad 0), .int (xs (i + 1)), .int (xs (i + 2)), .int (xs (i + 3)), .ref (ad 15)]) (rest := []) ⟨hx, hb, hml, hown, hts⟩ (h_subset l dC dI cI cL cZ ad (xI.le hinj (by omega)) nv (xAV nv) nc mt mf wt ss sc avl gh gv sv sr st hnc (xs (i + 1)) (xs (i + 2)) (xs (i + 3)) hs of) (show GoodIn _ wsL_subset from xgood wd_507) hts (show _ ∈ wsL_subset from List.mem_cons_self) (List.mem_cons_of_mem _ wd_33) (List.mem_cons_of_mem _ wd_505) (List.mem_cons_of_mem _ wd_506) rfl rfl (by decide +kernel) ⟨Nat.le_of_ble_eq_true rfl, Nat.le_of_ble_eq_true rfl⟩ (xpreS (hP.sub [0, 1, 2, 3, 4, 5, 6, 7, 8, 15] rfl) hK) rfl rfl hl.1 rfl (lv_room (Nat.le_of_ble_eq_true rfl)) dL_law_489 ⟨by show cells + 0 ≤ 601024; omega, by show slots + 0 ≤ 7293000; omega⟩) hS (xhi had (by decide)) (fun r_489 u H locs h1 hB hk hS => ?_)
    obtain ⟨ss1_489, sc1_489, avl1_489, gh1_489, gv1_489, sv1_489, sr1_489, st1_489, of1_489⟩ := u
    have hP : va_P (dC, dI) vwCl [(ad 0, .inr (3, [.ref (ad 1), .ref (ad 5), .ref (ad 9)])), (ad 1, .inr (1, [.int (nI nv), .int (xAV nv), .int (nI nc), .ref (ad 2), .ref (ad 3), .ref (ad 4)])), (ad 2, .inl (cI, 40, .inl mt)), (ad 3, .inl (cI, 40, .inl mf)), (ad 4, .inl (cI, 40, .inl wt)), (ad 5, .inr (0, [.ref (ad 1), .ref (ad 6), .int (nI sc1_489), .long avl1_489, .int gh1_489, .int gv1_489, .ref (ad 7), .ref (ad 8), .int (nI st1_489)])), (ad 6, .inl (cL, 40, .inr (.inl ss1_489))), (ad 7, .inl (cI, 10, .inl sv1_489)), (ad 8, .inl (cI, 10, .inl (xnI sr1_489))), (ad 9, .inr (2, [.int nd, .int (nI lc), .long bc, .int bv, .ref (ad 10), .ref (ad 11), .ref (ad 12), .ref (ad 1), .ref (ad 5), .ref (ad 13), .ref (ad 14), .int (nI wc)])), (ad 10, .inl (cI, lz, .inl lh)), (ad 11, .inl (cI, lz, .inl lw)), (ad 12, .inl (cL, lz, .inr (.inl lb))), (ad 13, .inl (cI, 11, .inl wh)), (ad 14, .inl (cI, 11, .inl wv)), (ad 15, .inl (cL, 1, .inr (.inl of1_489))), (ad 16, .inr (4, [.int co, .int (nI nv), .int (nI nc), .ref (ad 17), .ref (ad 18), .ref (ad 19), .int hp, .long bo, .int (nI su), .ref (ad 20), .ref (ad 21), .ref (ad 22), .int ghM, .int gvM, .int fo, .int bvM, .long bcM, .int nd, .int (nI lo), .ref (ad 23), .ref (ad 24), .ref (ad 25), .int (nI wa), .ref (ad 26), .ref (ad 27)])), (ad 17, .inl (cI, 40, .inl mt)), (ad 18, .inl (cI, 40, .inl mf)), (ad 19, .inl (cI, 40, .inl wt)), (ad 20, .inl (cL, 40, .inr (.inl sm))), (ad 21, .inl (cZ, 40, .inl am)), (ad 22, .inl (cI, 10, .inl re)), (ad 23, .inl (cI, 1024, .inl lhM)), (ad 24, .inl (cI, 1024, .inl lwM)), (ad 25, .inl (cL, 1024, .inr (.inl lbM))), (ad 26, .inl (cI, 24, .inl whM)), (ad 27, .inl (cI, 24, .inl wvM))] H := ((xkeepA hP hk [0, 1, 2, 3, 4, 9, 10, 11, 12, 13, 14, 16, 17, 18, 19, 20, 21, 22, 23, 24, 25, 26, 27] rfl (xnA hinj [0, 1, 2, 3, 4, 9, 10, 11, 12, 13, 14, 16, 17, 18, 19, 20, 21, 22, 23, 24, 25, 26, 27] rfl (by decide))).app hB).sub [0, 1, 2, 3, 4, 23, 24, 25, 26, 5, 6, 7, 8, 9, 10, 27, 11, 12, 13, 14, 15, 16, 17, 18, 19, 20, 21, 22] rfl
    have hq : (r_489, ss1_489, sc1_489, avl1_489, gh1_489, gv1_489, sv1_489, sr1_489, st1_489, of1_489) = (0, ss1, sc1, avl1, gh1, gv1, sv1, sr1, st1, (vp_updL of 0 rb)) := Eq.trans (Eq.symm h1) (ef)
    have hq := hq.symm
    simp only [Prod.mk.injEq] at hq
    obtain ⟨rfl, rfl, rfl, rfl, rfl, rfl, rfl, rfl, rfl, rfl⟩ := hq
    refine lv_istore (lv' := [(5, .int 0), (0, .ref b), (1, .ref (ad 0)), (2, .ref (ad 16)), (3, .ref (ad 15)), (4, .int (nI i))]) hx hb dL_law_492 hl (by decide) rfl (fun ls hl => ?_)
    refine lv_aload_n hx hb dL_law_494 rfl (lv_at hl 3 rfl) ?_
    refine lv_aload_n hx hb dL_law_495 rfl (lv_at hl 1 rfl) ?_
    refine lv_iload hx hb dL_law_496 (lv_at hl 5 rfl) ?_
    refine lv_iconst (v := nI 1) hx hb dL_law_498 (by decide) ?_
    refine xr_addk hx hb dL_law_499 ?_
    refine xr_sld hx hb hX hbl (Nat.not_le.mpr hbl) hS (j := (i + 1)) (by omega) hL dL_law_500 ?_
    refine lv_aload_n hx hb dL_law_501 rfl (lv_at hl 1 rfl) ?_
    refine lv_iload hx hb dL_law_502 (lv_at hl 5 rfl) ?_
    refine lv_iconst (v := nI 2) hx hb dL_law_504 (by decide) ?_
    refine xr_addk hx hb dL_law_505 ?_
    refine xr_sld hx hb hX hbl (Nat.not_le.mpr hbl) hS (j := (i + 2)) (by omega) hL dL_law_506 ?_
    refine lv_aload_n hx hb dL_law_507 rfl (lv_at hl 1 rfl) ?_
    refine lv_iload hx hb dL_law_508 (lv_at hl 5 rfl) ?_
    refine lv_iconst (v := nI 3) hx hb dL_law_510 (by decide) ?_
    refine xr_addk hx hb dL_law_511 ?_
    refine xr_sld hx hb hX hbl (Nat.not_le.mpr hbl) hS (j := (i + 3)) (by omega) hL dL_law_512 ?_
    refine xrw_l (va_runV (As := [.int (xs (i + 1)), .int (xs (i + 2)), .int (xs (i + 3))]) (rest := []) ⟨hx, hb, hml, hown, hts⟩ (k_subset l dC dI cI cL cZ (fun i => ad (i + 16)) (xI.sh 16 hinj (by omega)) co nv nc mt mf wt hp bo su sm am re ghM gvM fo bvM bcM nd lo lhM lwM lbM wa whM wvM hnc hnv (xs (i + 1)) (xs (i + 2)) (xs (i + 3)) (⟨_, em⟩)) (xcwV 3 hts wd_702 wd_39 wd_699 wd_700 wd_701 rfl rfl (by decide +kernel) ⟨Nat.le_of_ble_eq_true rfl, Nat.le_of_ble_eq_true rfl⟩) (xpreV (va_recv hK hP rfl (q0 := 16) rfl) (hP.sub [16, 17, 18, 19, 20, 21, 22, 23, 24, 25, 26, 27] rfl) hK) rfl rfl hl.1 rfl (lv_room (Nat.le_of_ble_eq_true rfl)) dL_law_513 ⟨by show cells + 0 ≤ 601024; omega, by show slots + 0 ≤ 7293000; omega⟩) hS (xhi (fun i hi => had (i + 16) (by omega)) (n := 12) (by decide)) (fun r_513 u H locs h2 hB hk hS => ?_)
    obtain ⟨co1_513, hp1_513, bo1_513, su1_513, ss1_513, av1_513, re1_513, gh1_513, gv1_513⟩ := u
    have hP : va_P (dC, dI) vwCl [(ad 0, .inr (3, [.ref (ad 1), .ref (ad 5), .ref (ad 9)])), (ad 1, .inr (1, [.int (nI nv), .int (xAV nv), .int (nI nc), .ref (ad 2), .ref (ad 3), .ref (ad 4)])), (ad 2, .inl (cI, 40, .inl mt)), (ad 3, .inl (cI, 40, .inl mf)), (ad 4, .inl (cI, 40, .inl wt)), (ad 5, .inr (0, [.ref (ad 1), .ref (ad 6), .int (nI sc1), .long avl1, .int gh1, .int gv1, .ref (ad 7), .ref (ad 8), .int (nI st1)])), (ad 6, .inl (cL, 40, .inr (.inl ss1))), (ad 7, .inl (cI, 10, .inl sv1)), (ad 8, .inl (cI, 10, .inl (xnI sr1))), (ad 9, .inr (2, [.int nd, .int (nI lc), .long bc, .int bv, .ref (ad 10), .ref (ad 11), .ref (ad 12), .ref (ad 1), .ref (ad 5), .ref (ad 13), .ref (ad 14), .int (nI wc)])), (ad 10, .inl (cI, lz, .inl lh)), (ad 11, .inl (cI, lz, .inl lw)), (ad 12, .inl (cL, lz, .inr (.inl lb))), (ad 13, .inl (cI, 11, .inl wh)), (ad 14, .inl (cI, 11, .inl wv)), (ad 15, .inl (cL, 1, .inr (.inl (vp_updL of 0 rb)))), (ad 16, .inr (4, [.int co1_513, .int (nI nv), .int (nI nc), .ref (ad 17), .ref (ad 18), .ref (ad 19), .int hp1_513, .long bo1_513, .int (nI su1_513), .ref (ad 20), .ref (ad 21), .ref (ad 22), .int gh1_513, .int gv1_513, .int fo, .int bvM, .long bcM, .int nd, .int (nI lo), .ref (ad 23), .ref (ad 24), .ref (ad 25), .int (nI wa), .ref (ad 26), .ref (ad 27)])), (ad 17, .inl (cI, 40, .inl mt)), (ad 18, .inl (cI, 40, .inl mf)), (ad 19, .inl (cI, 40, .inl wt)), (ad 20, .inl (cL, 40, .inr (.inl ss1_513))), (ad 21, .inl (cZ, 40, .inl av1_513)), (ad 22, .inl (cI, 10, .inl re1_513)), (ad 23, .inl (cI, 1024, .inl lhM)), (ad 24, .inl (cI, 1024, .inl lwM)), (ad 25, .inl (cL, 1024, .inr (.inl lbM))), (ad 26, .inl (cI, 24, .inl whM)), (ad 27, .inl (cI, 24, .inl wvM))] H := ((xkeepA hP hk [0, 1, 2, 3, 4, 5, 6, 7, 8, 9, 10, 11, 12, 13, 14, 15] rfl (fun k q hq hz => xnA hinj [0, 1, 2, 3, 4, 5, 6, 7, 8, 9, 10, 11, 12, 13, 14, 15] rfl (by decide) k q hq (xA_sh hz))).app hB).sub [0, 1, 2, 3, 4, 5, 6, 7, 8, 9, 10, 11, 12, 13, 14, 15, 16, 17, 18, 19, 20, 21, 22, 23, 24, 25, 26, 27] rfl
    have hq : some (r_513, co1_513, hp1_513, bo1_513, su1_513, ss1_513, av1_513, re1_513, gh1_513, gv1_513) = some (rb, 0, hp1, bo1, su1, sm1, am1, rm1, g1, g2) := Eq.trans (Eq.symm h2) (em)
    have hq := hq.symm
    simp only [Option.some.injEq, Prod.mk.injEq] at hq
    obtain ⟨rfl, rfl, rfl, rfl, rfl, rfl, rfl, rfl, rfl, rfl⟩ := hq
    refine lv_lstore (lv' := [(6, .long rb), (5, .int 0), (0, .ref b), (1, .ref (ad 0)), (2, .ref (ad 16)), (3, .ref (ad 15)), (4, .int (nI i))]) hx hb dL_law_516 hl (by decide) rfl (fun ls hl => ?_)
    refine lv_aload_n hx hb dL_law_518 rfl (lv_at hl 4 rfl) ?_
    refine xro_i (va_runV (As := []) (rest := []) ⟨hx, hb, hml, hown, hts⟩ (k_thrown l dC dI cI cL cZ (fun i => ad (i + 16)) (xI.sh 16 hinj (by omega)) 0 nv nc mt mf wt hp1 bo1 su1 sm1 am1 rm1 g1 g2 fo bvM bcM nd lo lhM lwM lbM wa whM wvM) (xcwV 0 hts wd_610 wd_39 wd_607 wd_608 wd_609 rfl rfl (by decide +kernel) ⟨Nat.le_of_ble_eq_true rfl, Nat.le_of_ble_eq_true rfl⟩) (xpreV (va_recv hK hP rfl (q0 := 16) rfl) (hP.sub [16, 17, 18, 19, 20, 21, 22, 23, 24, 25, 26, 27] rfl) hK) rfl rfl hl.1 rfl (lv_room (Nat.le_of_ble_eq_true rfl)) dL_law_519 ⟨by show cells + 0 ≤ 601024; omega, by show slots + 0 ≤ 7293000; omega⟩) hS (fun H locs hk hS => ?_)
    have hP := xkeep hP hk
    refine lv_iload hx hb dL_law_522 (lv_at hl 1 rfl) ?_
    refine lv_icmp_eq (tgt := 529) hx hb dL_law_524 (by decide) (fun h3 => ?_) (fun h3 => absurd rfl h3)
    refine lv_iload hx hb dL_law_529 (lv_at hl 1 rfl) ?_
    refine lv_if_ne (tgt := 545) hx hb dL_law_531 (by decide) (fun h4 => absurd (show (0 : Int32) = 0 from rfl) h4) (fun h4 => ?_)
    refine lv_aload_n hx hb dL_law_534 rfl (lv_at hl 5 rfl) ?_
    refine lv_iconst (v := nI 0) hx hb dL_law_535 (by decide) ?_
    refine xr_lald hx hb hK hP 15 1 rfl rfl 0 (by omega) (by omega) dL_law_536 ?_
    refine lv_lload hx hb dL_law_537 (lv_at hl 0 rfl) ?_
    refine W.lcmp hx hb dL_law_539 ?_
    refine lv_if_eq (tgt := 545) hx hb dL_law_540 (by decide) (fun h5 => ?_) (fun h5 => absurd ((lg_cmp_eq _ _).mpr rfl) h5)
    refine lv_goto (tgt := 744) hx hb dL_law_545 (by decide) ?_
    refine W.widen (k := cells + 1) (n := slots + 6) (by omega) (by omega) ?_
    exact hnx _ _ _ ⟨_, _, _, _, _, _, _, _, _, _, _, _, _, _, _, _, _, _, _, _, _, _, _, _, _, _, _, _, _, _, _, _, _, _, _, _, _, _, _, _, _, _, hP, hWF, hSR, hlc, hwc⟩ hS (lv_sub hl [2, 3, 4, 5, 6] rfl)
