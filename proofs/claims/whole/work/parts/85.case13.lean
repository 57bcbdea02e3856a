set_option maxHeartbeats 8000000 in
set_option maxRecDepth 100000 in
theorem lw_case_13 {p : Program} {l : Launch} {e : Env} {s : State} {m : MethodId} {below : List Frame} {meth : Method} {c : Code} {b L : Nat} {xs : Nat → Int32} {dC : Nat → ClassId} {dI : Nat → Nat → Nat} {cI cL cZ : ClassId} {ad : Nat → Nat} {nv lz : Nat} {Q : State → Prop} (CC : xLC p l s m meth c b L xs dC dI cI cL cZ ad nv lz) {i : Nat} (hi : i + 6 ≤ L) {cells slots : Nat} (hcc : cells + 1 ≤ 601024) (hss : slots + 6 ≤ 7293000) {H : Heap} {locs : List Loc} {ls : Array Slot} (hLaw : xLaw dC dI cI cL cZ ad nv lz H) (hS : va_S (fun q => s.heap.size ≤ q) s.heap H locs) (hl : lv_has ls 8 [(0, .ref b), (1, .ref (ad 0)), (2, .ref (ad 16)), (3, .ref (ad 15)), (4, .int (nI i))]) (hnx : ∀ (H : Heap) (locs : List Loc) (ls : Array Slot), xLaw dC dI cI cL cZ ad nv lz H → va_S (fun q => s.heap.size ≤ q) s.heap H locs → lv_has ls 8 [(0, .ref b), (1, .ref (ad 0)), (2, .ref (ad 16)), (3, .ref (ad 15)), (4, .int (nI i))] → W p l e room_1 s m #[Value.ref b] below meth c H locs (cells + 1) (slots + 6) Q (F0 m 744 ls [])) : W p l e room_1 s m #[Value.ref b] below meth c H locs cells slots Q (F0 m 681 ls []) := by
  obtain ⟨hx, hb, hr, hml, hown, hts, hX, hbl, hL, hlt, hE, hN, hK, hinj, had, hz, hlz⟩ := CC
  obtain ⟨nc, mt, mf, wt, ss, sc, avl, gh, gv, sv, sr, st, nd, lc, bc, bv, lh, lw, lb, wh, wv, wc, of, co, hp, bo, su, sm, am, re, ghM, gvM, fo, bvM, bcM, lo, lhM, lwM, lbM, wa, whM, wvM, hP, hWF, hSR, hlc, hwc⟩ := hLaw
  have hnc := hWF.c
  have hnv := hWF.v2
  have hlo : lo ≤ 1024 := by have := hSR.2.1; omega
  refine lv_aload_n hx hb dL_law_681 rfl (lv_at hl 1 rfl) ?_
  refine lv_aload_n hx hb dL_law_682 rfl (lv_at hl 0 rfl) ?_
  refine lv_iload hx hb dL_law_683 (lv_at hl 4 rfl) ?_
  refine lv_iconst (v := nI 1) hx hb dL_law_685 (by decide) ?_
  refine xr_addk hx hb dL_law_686 ?_
  refine xr_sld hx hb hX hbl (Nat.not_le.mpr hbl) hS (j := (i + 1)) (by omega) hL dL_law_687 ?_
  refine lv_aload_n hx hb dL_law_688 rfl (lv_at hl 0 rfl) ?_
  refine lv_iload hx hb dL_law_689 (lv_at hl 4 rfl) ?_
  refine lv_iconst (v := nI 2) hx hb dL_law_691 (by decide) ?_
  refine xr_addk hx hb dL_law_692 ?_
  refine xr_sld hx hb hX hbl (Nat.not_le.mpr hbl) hS (j := (i + 2)) (by omega) hL dL_law_693 ?_
  refine xro_i (va_runV (As := [.int (xs (i + 1)), .int (xs (i + 2))]) (rest := []) ⟨hx, hb, hml, hown, hts⟩ (c_log l dC dI cI cL cZ ad (xI.le hinj (by omega)) lz nd lc bc bv lh lw lb wh wv wc hlz hlc (xs (i + 1)) (xs (i + 2))) (xcwV 2 hts wd_346 wd_34 wd_343 wd_344 wd_345 rfl rfl (by decide +kernel) ⟨Nat.le_of_ble_eq_true rfl, Nat.le_of_ble_eq_true rfl⟩) (xpreV (va_recv hK hP rfl (q0 := 0) rfl) (hP.sub [0, 9, 10, 11, 12, 13, 14] rfl) hK) rfl rfl hl.1 rfl (lv_room (Nat.le_of_ble_eq_true rfl)) dL_law_694 ⟨by show cells + 0 ≤ 601024; omega, by show slots + 0 ≤ 7293000; omega⟩) hS (fun H locs hk hS => ?_)
  have hP := xkeep hP hk
  refine lv_aload_n hx hb dL_law_697 rfl (lv_at hl 2 rfl) ?_
  refine lv_aload_n hx hb dL_law_698 rfl (lv_at hl 0 rfl) ?_
  refine lv_iload hx hb dL_law_699 (lv_at hl 4 rfl) ?_
  refine lv_iconst (v := nI 1) hx hb dL_law_701 (by decide) ?_
  refine xr_addk hx hb dL_law_702 ?_
  refine xr_sld hx hb hX hbl (Nat.not_le.mpr hbl) hS (j := (i + 1)) (by omega) hL dL_law_703 ?_
  refine lv_aload_n hx hb dL_law_704 rfl (lv_at hl 0 rfl) ?_
  refine lv_iload hx hb dL_law_705 (lv_at hl 4 rfl) ?_
  refine lv_iconst (v := nI 2) hx hb dL_law_707 (by decide) ?_
  refine xr_addk hx hb dL_law_708 ?_
  refine xr_sld hx hb hX hbl (Nat.not_le.mpr hbl) hS (j := (i + 2)) (by omega) hL dL_law_709 ?_
  refine xrw_i (va_runV (As := [.int (xs (i + 1)), .int (xs (i + 2))]) (rest := [.int (f_log lc lh lw (xs (i + 1)) (xs (i + 2)))]) ⟨hx, hb, hml, hown, hts⟩ (k_log l dC dI cI cL cZ (fun i => ad (i + 16)) (xI.sh 16 hinj (by omega)) co nv nc mt mf wt hp bo su sm am re ghM gvM fo bvM bcM nd lo lhM lwM lbM wa whM wvM hlo (xs (i + 1)) (xs (i + 2))) (xcwV 2 hts wd_739 wd_39 wd_736 wd_737 wd_738 rfl rfl (by decide +kernel) ⟨Nat.le_of_ble_eq_true rfl, Nat.le_of_ble_eq_true rfl⟩) (xpreV (va_recv hK hP rfl (q0 := 16) rfl) (hP.sub [16, 17, 18, 19, 20, 21, 22, 23, 24, 25, 26, 27] rfl) hK) rfl rfl hl.1 rfl (lv_room (Nat.le_of_ble_eq_true rfl)) dL_law_710 ⟨by show cells + 0 ≤ 601024; omega, by show slots + 0 ≤ 7293000; omega⟩) hS (xhi (fun i hi => had (i + 16) (by omega)) (n := 12) (by decide)) (fun r_710 u H locs h1 hB hk hS => ?_)
  obtain ⟨co1_710, rfl⟩ : ∃ z, z = u := ⟨_, rfl⟩
  have hP : va_P (dC, dI) vwCl [(ad 0, .inr (3, [.ref (ad 1), .ref (ad 5), .ref (ad 9)])), (ad 1, .inr (1, [.int (nI nv), .int (xAV nv), .int (nI nc), .ref (ad 2), .ref (ad 3), .ref (ad 4)])), (ad 2, .inl (cI, 40, .inl mt)), (ad 3, .inl (cI, 40, .inl mf)), (ad 4, .inl (cI, 40, .inl wt)), (ad 5, .inr (0, [.ref (ad 1), .ref (ad 6), .int (nI sc), .long avl, .int gh, .int gv, .ref (ad 7), .ref (ad 8), .int (nI st)])), (ad 6, .inl (cL, 40, .inr (.inl ss))), (ad 7, .inl (cI, 10, .inl sv)), (ad 8, .inl (cI, 10, .inl (xnI sr))), (ad 9, .inr (2, [.int nd, .int (nI lc), .long bc, .int bv, .ref (ad 10), .ref (ad 11), .ref (ad 12), .ref (ad 1), .ref (ad 5), .ref (ad 13), .ref (ad 14), .int (nI wc)])), (ad 10, .inl (cI, lz, .inl lh)), (ad 11, .inl (cI, lz, .inl lw)), (ad 12, .inl (cL, lz, .inr (.inl lb))), (ad 13, .inl (cI, 11, .inl wh)), (ad 14, .inl (cI, 11, .inl wv)), (ad 15, .inl (cL, 1, .inr (.inl of))), (ad 16, .inr (4, [.int co1_710, .int (nI nv), .int (nI nc), .ref (ad 17), .ref (ad 18), .ref (ad 19), .int hp, .long bo, .int (nI su), .ref (ad 20), .ref (ad 21), .ref (ad 22), .int ghM, .int gvM, .int fo, .int bvM, .long bcM, .int nd, .int (nI lo), .ref (ad 23), .ref (ad 24), .ref (ad 25), .int (nI wa), .ref (ad 26), .ref (ad 27)])), (ad 17, .inl (cI, 40, .inl mt)), (ad 18, .inl (cI, 40, .inl mf)), (ad 19, .inl (cI, 40, .inl wt)), (ad 20, .inl (cL, 40, .inr (.inl sm))), (ad 21, .inl (cZ, 40, .inl am)), (ad 22, .inl (cI, 10, .inl re)), (ad 23, .inl (cI, 1024, .inl lhM)), (ad 24, .inl (cI, 1024, .inl lwM)), (ad 25, .inl (cL, 1024, .inr (.inl lbM))), (ad 26, .inl (cI, 24, .inl whM)), (ad 27, .inl (cI, 24, .inl wvM))] H := ((xkeepA hP hk [0, 1, 2, 3, 4, 5, 6, 7, 8, 9, 10, 11, 12, 13, 14, 15] rfl (fun k q hq hz => xnA hinj [0, 1, 2, 3, 4, 5, 6, 7, 8, 9, 10, 11, 12, 13, 14, 15] rfl (by decide) k q hq (xA_sh hz))).app hB).sub [0, 1, 2, 3, 4, 5, 6, 7, 8, 9, 10, 11, 12, 13, 14, 15, 16, 17, 18, 19, 20, 21, 22, 23, 24, 25, 26, 27] rfl
  have hq : (r_710, co1_710) = ((f_log lc lh lw (xs (i + 1)) (xs (i + 2))), 0) := Eq.trans (Eq.symm h1) ((e_log hSR (by omega) (xs (i + 1)) (xs (i + 2))))
  have hq := hq.symm
  simp only [Prod.mk.injEq] at hq
  obtain ⟨rfl, rfl⟩ := hq
  refine lv_icmp_eq (tgt := 744) hx hb dL_law_713 (by decide) (fun h2 => ?_) (fun h2 => absurd rfl h2)
  refine W.widen (k := cells + 1) (n := slots + 6) (by omega) (by omega) ?_
  exact hnx _ _ _ ⟨_, _, _, _, _, _, _, _, _, _, _, _, _, _, _, _, _, _, _, _, _, _, _, _, _, _, _, _, _, _, _, _, _, _, _, _, _, _, _, _, _, _, hP, hWF, hSR, hlc, hwc⟩ hS (lv_sub hl [0, 1, 2, 3, 4] rfl)
