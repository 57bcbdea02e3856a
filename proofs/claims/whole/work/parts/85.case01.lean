set_option maxHeartbeats 8000000 in
set_option maxRecDepth 100000 in
theorem lw_case_1 {p : Program} {l : Launch} {e : Env} {s : State} {m : MethodId} {below : List Frame} {meth : Method} {c : Code} {b L : Nat} {xs : Nat → Int32} {dC : Nat → ClassId} {dI : Nat → Nat → Nat} {cI cL cZ : ClassId} {ad : Nat → Nat} {nv lz : Nat} {Q : State → Prop} (CC : xLC p l s m meth c b L xs dC dI cI cL cZ ad nv lz) {i : Nat} (hi : i + 6 ≤ L) {cells slots : Nat} (hcc : cells + 1 ≤ 601024) (hss : slots + 6 ≤ 7293000) {H : Heap} {locs : List Loc} {ls : Array Slot} (hLaw : xLaw dC dI cI cL cZ ad nv lz H) (hS : va_S (fun q => s.heap.size ≤ q) s.heap H locs) (hl : lv_has ls 8 [(0, .ref b), (1, .ref (ad 0)), (2, .ref (ad 16)), (3, .ref (ad 15)), (4, .int (nI i))]) (hnx : ∀ (H : Heap) (locs : List Loc) (ls : Array Slot), xLaw dC dI cI cL cZ ad nv lz H → va_S (fun q => s.heap.size ≤ q) s.heap H locs → lv_has ls 8 [(0, .ref b), (1, .ref (ad 0)), (2, .ref (ad 16)), (3, .ref (ad 15)), (4, .int (nI i))] → W p l e room_1 s m #[Value.ref b] below meth c H locs (cells + 1) (slots + 6) Q (F0 m 744 ls [])) : W p l e room_1 s m #[Value.ref b] below meth c H locs cells slots Q (F0 m 137 ls []) := by
  obtain ⟨hx, hb, hr, hml, hown, hts, hX, hbl, hL, hlt, hE, hN, hK, hinj, had, hz, hlz⟩ := CC
  obtain ⟨nc, mt, mf, wt, ss, sc, avl, gh, gv, sv, sr, st, nd, lc, bc, bv, lh, lw, lb, wh, wv, wc, of, co, hp, bo, su, sm, am, re, ghM, gvM, fo, bvM, bcM, lo, lhM, lwM, lbM, wa, whM, wvM, hP, hWF, hSR, hlc, hwc⟩ := hLaw
  have hnc := hWF.c
  have hnv := hWF.v2
  have hlo : lo ≤ 1024 := by have := hSR.2.1; omega
  by_cases hw : f_isWeight (xs (i + 1)) = 0
  · have em := e_clause hnv hnc mt mf wt fo nd lo (xs (i + 1)) (xs (i + 2)) (xs (i + 3)) (xs (i + 4)) (xs (i + 5))
    rw [if_pos hw] at em
    refine lv_aload_n hx hb dL_law_137 rfl (lv_at hl 1 rfl) ?_
    refine lv_aload_n hx hb dL_law_138 rfl (lv_at hl 0 rfl) ?_
    refine lv_iload hx hb dL_law_139 (lv_at hl 4 rfl) ?_
    refine lv_iconst (v := nI 1) hx hb dL_law_141 (by decide) ?_
    refine xr_addk hx hb dL_law_142 ?_
    refine xr_sld hx hb hX hbl (Nat.not_le.mpr hbl) hS (j := (i + 1)) (by omega) hL dL_law_143 ?_
    refine lv_aload_n hx hb dL_law_144 rfl (lv_at hl 0 rfl) ?_
    refine lv_iload hx hb dL_law_145 (lv_at hl 4 rfl) ?_
    refine lv_iconst (v := nI 2) hx hb dL_law_147 (by decide) ?_
    refine xr_addk hx hb dL_law_148 ?_
    refine xr_sld hx hb hX hbl (Nat.not_le.mpr hbl) hS (j := (i + 2)) (by omega) hL dL_law_149 ?_
    refine lv_aload_n hx hb dL_law_150 rfl (lv_at hl 0 rfl) ?_
    refine lv_iload hx hb dL_law_151 (lv_at hl 4 rfl) ?_
    refine lv_iconst (v := nI 3) hx hb dL_law_153 (by decide) ?_
    refine xr_addk hx hb dL_law_154 ?_
    refine xr_sld hx hb hX hbl (Nat.not_le.mpr hbl) hS (j := (i + 3)) (by omega) hL dL_law_155 ?_
    refine lv_aload_n hx hb dL_law_156 rfl (lv_at hl 0 rfl) ?_
    refine lv_iload hx hb dL_law_157 (lv_at hl 4 rfl) ?_
    refine lv_iconst (v := nI 4) hx hb dL_law_159 (by decide) ?_
    refine xr_addk hx hb dL_law_160 ?_
    refine xr_sld hx hb hX hbl (Nat.not_le.mpr hbl) hS (j := (i + 4)) (by omega) hL dL_law_161 ?_
    refine lv_aload_n hx hb dL_law_162 rfl (lv_at hl 0 rfl) ?_
    refine lv_iload hx hb dL_law_163 (lv_at hl 4 rfl) ?_
    refine lv_iconst (v := nI 5) hx hb dL_law_165 (by decide) ?_
    refine xr_addk hx hb dL_law_166 ?_
    refine xr_sld hx hb hX hbl (Nat.not_le.mpr hbl) hS (j := (i + 5)) (by omega) hL dL_law_167 ?_
    refine lv_aload_n hx hb dL_law_168 rfl (lv_at hl 3 rfl) ?_
    refine xro_im (xrunSW (n := 7) (hh := [(0, 16, 19, 13), (0, 16, 23, 15)]) (As := [.ref (ad 0), .int (xs (i + 1)), .int (xs (i + 2)), .int (xs (i + 3)), .int (xs (i + 4)), .int (xs (i + 5)), .ref (ad 15)]) (rest := []) ⟨hx, hb, hml, hown, hts⟩ (h_clause_x1 l dC dI cI cL cZ ad (xI.le hinj (by omega)) hlt nv (xAV nv) nc mt mf wt lz nd lc bc bv lh lw lb wh wv wc hnc (xs (i + 1)) (xs (i + 2)) (xs (i + 3)) (xs (i + 4)) (xs (i + 5)) hw) (show GoodIn _ wsL_clause from xgood wd_361) hts (show _ ∈ wsL_clause from List.mem_cons_self) (List.mem_cons_of_mem _ wd_33) (List.mem_cons_of_mem _ wd_359) (List.mem_cons_of_mem _ wd_360) rfl rfl (by decide +kernel) ⟨Nat.le_of_ble_eq_true rfl, Nat.le_of_ble_eq_true rfl⟩ (xpreS2 (hP.sub [0, 1, 2, 3, 4, 9, 10, 11, 12, 13, 14] rfl) hK hE hN (fun q hq => hS.2.1 q hq (Nat.not_le.mpr hq))) rfl rfl hl.1 rfl (lv_room (Nat.le_of_ble_eq_true rfl)) dL_law_169 ⟨by show cells + 1 ≤ 601024; omega, by show slots + 6 ≤ 7293000; omega⟩) hS (fun H locs hk hS => ?_)
    have hP := xkeep hP hk
    refine lv_istore (lv' := [(5, .int 1), (0, .ref b), (1, .ref (ad 0)), (2, .ref (ad 16)), (3, .ref (ad 15)), (4, .int (nI i))]) hx hb dL_law_172 hl (by decide) rfl (fun ls hl => ?_)
    refine lv_aload_n hx hb dL_law_174 rfl (lv_at hl 3 rfl) ?_
    refine lv_aload_n hx hb dL_law_175 rfl (lv_at hl 1 rfl) ?_
    refine lv_iload hx hb dL_law_176 (lv_at hl 5 rfl) ?_
    refine lv_iconst (v := nI 1) hx hb dL_law_178 (by decide) ?_
    refine xr_addk hx hb dL_law_179 ?_
    refine xr_sld hx hb hX hbl (Nat.not_le.mpr hbl) hS (j := (i + 1)) (by omega) hL dL_law_180 ?_
    refine lv_aload_n hx hb dL_law_181 rfl (lv_at hl 1 rfl) ?_
    refine lv_iload hx hb dL_law_182 (lv_at hl 5 rfl) ?_
    refine lv_iconst (v := nI 2) hx hb dL_law_184 (by decide) ?_
    refine xr_addk hx hb dL_law_185 ?_
    refine xr_sld hx hb hX hbl (Nat.not_le.mpr hbl) hS (j := (i + 2)) (by omega) hL dL_law_186 ?_
    refine lv_aload_n hx hb dL_law_187 rfl (lv_at hl 1 rfl) ?_
    refine lv_iload hx hb dL_law_188 (lv_at hl 5 rfl) ?_
    refine lv_iconst (v := nI 3) hx hb dL_law_190 (by decide) ?_
    refine xr_addk hx hb dL_law_191 ?_
    refine xr_sld hx hb hX hbl (Nat.not_le.mpr hbl) hS (j := (i + 3)) (by omega) hL dL_law_192 ?_
    refine lv_aload_n hx hb dL_law_193 rfl (lv_at hl 1 rfl) ?_
    refine lv_iload hx hb dL_law_194 (lv_at hl 5 rfl) ?_
    refine lv_iconst (v := nI 4) hx hb dL_law_196 (by decide) ?_
    refine xr_addk hx hb dL_law_197 ?_
    refine xr_sld hx hb hX hbl (Nat.not_le.mpr hbl) hS (j := (i + 4)) (by omega) hL dL_law_198 ?_
    refine lv_aload_n hx hb dL_law_199 rfl (lv_at hl 1 rfl) ?_
    refine lv_iload hx hb dL_law_200 (lv_at hl 5 rfl) ?_
    refine lv_iconst (v := nI 5) hx hb dL_law_202 (by decide) ?_
    refine xr_addk hx hb dL_law_203 ?_
    refine xr_sld hx hb hX hbl (Nat.not_le.mpr hbl) hS (j := (i + 5)) (by omega) hL dL_law_204 ?_
    refine xrw_i (va_runV (As := [.int (xs (i + 1)), .int (xs (i + 2)), .int (xs (i + 3)), .int (xs (i + 4)), .int (xs (i + 5))]) (rest := []) ⟨hx, hb, hml, hown, hts⟩ (k_clause l dC dI cI cL cZ (fun i => ad (i + 16)) (xI.sh 16 hinj (by omega)) co nv nc mt mf wt hp bo su sm am re ghM gvM fo bvM bcM nd lo lhM lwM lbM wa whM wvM hnc hnv (xs (i + 1)) (xs (i + 2)) (xs (i + 3)) (xs (i + 4)) (xs (i + 5))) (xcwV 5 hts wd_618 wd_39 wd_615 wd_616 wd_617 rfl rfl (by decide +kernel) ⟨Nat.le_of_ble_eq_true rfl, Nat.le_of_ble_eq_true rfl⟩) (xpreV (va_recv hK hP rfl (q0 := 16) rfl) (hP.sub [16, 17, 18, 19, 20, 21, 22, 23, 24, 25, 26, 27] rfl) hK) rfl rfl hl.1 rfl (lv_room (Nat.le_of_ble_eq_true rfl)) dL_law_205 ⟨by show cells + 1 + 0 ≤ 601024; omega, by show slots + 6 + 0 ≤ 7293000; omega⟩) hS (xhi (fun i hi => had (i + 16) (by omega)) (n := 12) (by decide)) (fun r_205 u H locs h1 hB hk hS => ?_)
    obtain ⟨co1_205, nc1_205, mt1_205, mf1_205, wt1_205, fo1_205, nd1_205, lo1_205⟩ := u
    have hP : va_P (dC, dI) vwCl [(ad 0, .inr (3, [.ref (ad 1), .ref (ad 5), .ref (ad 9)])), (ad 1, .inr (1, [.int (nI nv), .int (xAV nv), .int (nI nc), .ref (ad 2), .ref (ad 3), .ref (ad 4)])), (ad 2, .inl (cI, 40, .inl mt)), (ad 3, .inl (cI, 40, .inl mf)), (ad 4, .inl (cI, 40, .inl wt)), (ad 5, .inr (0, [.ref (ad 1), .ref (ad 6), .int (nI sc), .long avl, .int gh, .int gv, .ref (ad 7), .ref (ad 8), .int (nI st)])), (ad 6, .inl (cL, 40, .inr (.inl ss))), (ad 7, .inl (cI, 10, .inl sv)), (ad 8, .inl (cI, 10, .inl (xnI sr))), (ad 9, .inr (2, [.int nd, .int (nI lc), .long bc, .int bv, .ref (ad 10), .ref (ad 11), .ref (ad 12), .ref (ad 1), .ref (ad 5), .ref (ad 13), .ref (ad 14), .int (nI wc)])), (ad 10, .inl (cI, lz, .inl lh)), (ad 11, .inl (cI, lz, .inl lw)), (ad 12, .inl (cL, lz, .inr (.inl lb))), (ad 13, .inl (cI, 11, .inl wh)), (ad 14, .inl (cI, 11, .inl wv)), (ad 15, .inl (cL, 1, .inr (.inl of))), (ad 16, .inr (4, [.int co1_205, .int (nI nv), .int (nI nc1_205), .ref (ad 17), .ref (ad 18), .ref (ad 19), .int hp, .long bo, .int (nI su), .ref (ad 20), .ref (ad 21), .ref (ad 22), .int ghM, .int gvM, .int fo1_205, .int bvM, .long bcM, .int nd1_205, .int (nI lo1_205), .ref (ad 23), .ref (ad 24), .ref (ad 25), .int (nI wa), .ref (ad 26), .ref (ad 27)])), (ad 17, .inl (cI, 40, .inl mt1_205)), (ad 18, .inl (cI, 40, .inl mf1_205)), (ad 19, .inl (cI, 40, .inl wt1_205)), (ad 20, .inl (cL, 40, .inr (.inl sm))), (ad 21, .inl (cZ, 40, .inl am)), (ad 22, .inl (cI, 10, .inl re)), (ad 23, .inl (cI, 1024, .inl lhM)), (ad 24, .inl (cI, 1024, .inl lwM)), (ad 25, .inl (cL, 1024, .inr (.inl lbM))), (ad 26, .inl (cI, 24, .inl whM)), (ad 27, .inl (cI, 24, .inl wvM))] H := ((xkeepA hP hk [0, 1, 2, 3, 4, 5, 6, 7, 8, 9, 10, 11, 12, 13, 14, 15] rfl (fun k q hq hz => xnA hinj [0, 1, 2, 3, 4, 5, 6, 7, 8, 9, 10, 11, 12, 13, 14, 15] rfl (by decide) k q hq (xA_sh hz))).app hB).sub [0, 1, 2, 3, 4, 5, 6, 7, 8, 9, 10, 11, 12, 13, 14, 15, 16, 17, 18, 19, 20, 21, 22, 23, 24, 25, 26, 27] rfl
    have hq : (r_205, co1_205, nc1_205, mt1_205, mf1_205, wt1_205, fo1_205, nd1_205, lo1_205) = (0, 1, nc, mt, mf, wt, fo, nd, lo) := Eq.trans (Eq.symm h1) (em)
    have hq := hq.symm
    simp only [Prod.mk.injEq] at hq
    obtain ⟨rfl, rfl, rfl, rfl, rfl, rfl, rfl, rfl, rfl⟩ := hq
    refine lv_istore (lv' := [(6, .int 0), (5, .int 1), (0, .ref b), (1, .ref (ad 0)), (2, .ref (ad 16)), (3, .ref (ad 15)), (4, .int (nI i))]) hx hb dL_law_208 hl (by decide) rfl (fun ls hl => ?_)
    refine lv_aload_n hx hb dL_law_210 rfl (lv_at hl 4 rfl) ?_
    refine xro_i (va_runV (As := []) (rest := []) ⟨hx, hb, hml, hown, hts⟩ (k_thrown l dC dI cI cL cZ (fun i => ad (i + 16)) (xI.sh 16 hinj (by omega)) 1 nv nc mt mf wt hp bo su sm am re ghM gvM fo bvM bcM nd lo lhM lwM lbM wa whM wvM) (xcwV 0 hts wd_610 wd_39 wd_607 wd_608 wd_609 rfl rfl (by decide +kernel) ⟨Nat.le_of_ble_eq_true rfl, Nat.le_of_ble_eq_true rfl⟩) (xpreV (va_recv hK hP rfl (q0 := 16) rfl) (hP.sub [16, 17, 18, 19, 20, 21, 22, 23, 24, 25, 26, 27] rfl) hK) rfl rfl hl.1 rfl (lv_room (Nat.le_of_ble_eq_true rfl)) dL_law_211 ⟨by show cells + 1 + 0 ≤ 601024; omega, by show slots + 6 + 0 ≤ 7293000; omega⟩) hS (fun H locs hk hS => ?_)
    have hP := xkeep hP hk
    refine lv_iload hx hb dL_law_214 (lv_at hl 1 rfl) ?_
    refine lv_icmp_eq (tgt := 221) hx hb dL_law_216 (by decide) (fun h2 => ?_) (fun h2 => absurd rfl h2)
    refine lv_iload hx hb dL_law_221 (lv_at hl 1 rfl) ?_
    refine lv_if_ne (tgt := 238) hx hb dL_law_223 (by decide) (fun h3 => ?_) (fun h3 => absurd h3 (show ¬ (1 : Int32) = 0 by decide))
    refine lv_goto (tgt := 744) hx hb dL_law_238 (by decide) ?_
    exact hnx _ _ _ ⟨_, _, _, _, _, _, _, _, _, _, _, _, _, _, _, _, _, _, _, _, _, _, _, _, _, _, _, _, _, _, _, _, _, _, _, _, _, _, _, _, _, _, hP, hWF, hSR, hlc, hwc⟩ hS (lv_sub hl [2, 3, 4, 5, 6] rfl)
  by_cases ha : f_areLiterals nv (xs (i + 2)) (xs (i + 3)) (xs (i + 4)) (xs (i + 5)) = 0
  · have em := e_clause hnv hnc mt mf wt fo nd lo (xs (i + 1)) (xs (i + 2)) (xs (i + 3)) (xs (i + 4)) (xs (i + 5))
    rw [if_neg hw, if_pos ha] at em
    refine lv_aload_n hx hb dL_law_137 rfl (lv_at hl 1 rfl) ?_
    refine lv_aload_n hx hb dL_law_138 rfl (lv_at hl 0 rfl) ?_
    refine lv_iload hx hb dL_law_139 (lv_at hl 4 rfl) ?_
    refine lv_iconst (v := nI 1) hx hb dL_law_141 (by decide) ?_
    refine xr_addk hx hb dL_law_142 ?_
    refine xr_sld hx hb hX hbl (Nat.not_le.mpr hbl) hS (j := (i + 1)) (by omega) hL dL_law_143 ?_
    refine lv_aload_n hx hb dL_law_144 rfl (lv_at hl 0 rfl) ?_
    refine lv_iload hx hb dL_law_145 (lv_at hl 4 rfl) ?_
    refine lv_iconst (v := nI 2) hx hb dL_law_147 (by decide) ?_
    refine xr_addk hx hb dL_law_148 ?_
    refine xr_sld hx hb hX hbl (Nat.not_le.mpr hbl) hS (j := (i + 2)) (by omega) hL dL_law_149 ?_
    refine lv_aload_n hx hb dL_law_150 rfl (lv_at hl 0 rfl) ?_
    refine lv_iload hx hb dL_law_151 (lv_at hl 4 rfl) ?_
    refine lv_iconst (v := nI 3) hx hb dL_law_153 (by decide) ?_
    refine xr_addk hx hb dL_law_154 ?_
    refine xr_sld hx hb hX hbl (Nat.not_le.mpr hbl) hS (j := (i + 3)) (by omega) hL dL_law_155 ?_
    refine lv_aload_n hx hb dL_law_156 rfl (lv_at hl 0 rfl) ?_
    refine lv_iload hx hb dL_law_157 (lv_at hl 4 rfl) ?_
    refine lv_iconst (v := nI 4) hx hb dL_law_159 (by decide) ?_
    refine xr_addk hx hb dL_law_160 ?_
    refine xr_sld hx hb hX hbl (Nat.not_le.mpr hbl) hS (j := (i + 4)) (by omega) hL dL_law_161 ?_
    refine lv_aload_n hx hb dL_law_162 rfl (lv_at hl 0 rfl) ?_
    refine lv_iload hx hb dL_law_163 (lv_at hl 4 rfl) ?_
    refine lv_iconst (v := nI 5) hx hb dL_law_165 (by decide) ?_
    refine xr_addk hx hb dL_law_166 ?_
    refine xr_sld hx hb hX hbl (Nat.not_le.mpr hbl) hS (j := (i + 5)) (by omega) hL dL_law_167 ?_
    refine lv_aload_n hx hb dL_law_168 rfl (lv_at hl 3 rfl) ?_
    refine xro_im (xrunSW (n := 7) (hh := [(0, 16, 19, 13), (0, 16, 23, 15)]) (As := [.ref (ad 0), .int (xs (i + 1)), .int (xs (i + 2)), .int (xs (i + 3)), .int (xs (i + 4)), .int (xs (i + 5)), .ref (ad 15)]) (rest := []) ⟨hx, hb, hml, hown, hts⟩ (h_clause_x2 l dC dI cI cL cZ ad (xI.le hinj (by omega)) hlt nv (xAV nv) nc mt mf wt lz nd lc bc bv lh lw lb wh wv wc hnc (xs (i + 1)) (xs (i + 2)) (xs (i + 3)) (xs (i + 4)) (xs (i + 5)) hw ha) (show GoodIn _ wsL_clause from xgood wd_361) hts (show _ ∈ wsL_clause from List.mem_cons_self) (List.mem_cons_of_mem _ wd_33) (List.mem_cons_of_mem _ wd_359) (List.mem_cons_of_mem _ wd_360) rfl rfl (by decide +kernel) ⟨Nat.le_of_ble_eq_true rfl, Nat.le_of_ble_eq_true rfl⟩ (xpreS2 (hP.sub [0, 1, 2, 3, 4, 9, 10, 11, 12, 13, 14] rfl) hK hE hN (fun q hq => hS.2.1 q hq (Nat.not_le.mpr hq))) rfl rfl hl.1 rfl (lv_room (Nat.le_of_ble_eq_true rfl)) dL_law_169 ⟨by show cells + 1 ≤ 601024; omega, by show slots + 6 ≤ 7293000; omega⟩) hS (fun H locs hk hS => ?_)
    have hP := xkeep hP hk
    refine lv_istore (lv' := [(5, .int 1), (0, .ref b), (1, .ref (ad 0)), (2, .ref (ad 16)), (3, .ref (ad 15)), (4, .int (nI i))]) hx hb dL_law_172 hl (by decide) rfl (fun ls hl => ?_)
    refine lv_aload_n hx hb dL_law_174 rfl (lv_at hl 3 rfl) ?_
    refine lv_aload_n hx hb dL_law_175 rfl (lv_at hl 1 rfl) ?_
    refine lv_iload hx hb dL_law_176 (lv_at hl 5 rfl) ?_
    refine lv_iconst (v := nI 1) hx hb dL_law_178 (by decide) ?_
    refine xr_addk hx hb dL_law_179 ?_
    refine xr_sld hx hb hX hbl (Nat.not_le.mpr hbl) hS (j := (i + 1)) (by omega) hL dL_law_180 ?_
    refine lv_aload_n hx hb dL_law_181 rfl (lv_at hl 1 rfl) ?_
    refine lv_iload hx hb dL_law_182 (lv_at hl 5 rfl) ?_
    refine lv_iconst (v := nI 2) hx hb dL_law_184 (by decide) ?_
    refine xr_addk hx hb dL_law_185 ?_
    refine xr_sld hx hb hX hbl (Nat.not_le.mpr hbl) hS (j := (i + 2)) (by omega) hL dL_law_186 ?_
    refine lv_aload_n hx hb dL_law_187 rfl (lv_at hl 1 rfl) ?_
    refine lv_iload hx hb dL_law_188 (lv_at hl 5 rfl) ?_
    refine lv_iconst (v := nI 3) hx hb dL_law_190 (by decide) ?_
    refine xr_addk hx hb dL_law_191 ?_
    refine xr_sld hx hb hX hbl (Nat.not_le.mpr hbl) hS (j := (i + 3)) (by omega) hL dL_law_192 ?_
    refine lv_aload_n hx hb dL_law_193 rfl (lv_at hl 1 rfl) ?_
    refine lv_iload hx hb dL_law_194 (lv_at hl 5 rfl) ?_
    refine lv_iconst (v := nI 4) hx hb dL_law_196 (by decide) ?_
    refine xr_addk hx hb dL_law_197 ?_
    refine xr_sld hx hb hX hbl (Nat.not_le.mpr hbl) hS (j := (i + 4)) (by omega) hL dL_law_198 ?_
    refine lv_aload_n hx hb dL_law_199 rfl (lv_at hl 1 rfl) ?_
    refine lv_iload hx hb dL_law_200 (lv_at hl 5 rfl) ?_
    refine lv_iconst (v := nI 5) hx hb dL_law_202 (by decide) ?_
    refine xr_addk hx hb dL_law_203 ?_
    refine xr_sld hx hb hX hbl (Nat.not_le.mpr hbl) hS (j := (i + 5)) (by omega) hL dL_law_204 ?_
    refine xrw_i (va_runV (As := [.int (xs (i + 1)), .int (xs (i + 2)), .int (xs (i + 3)), .int (xs (i + 4)), .int (xs (i + 5))]) (rest := []) ⟨hx, hb, hml, hown, hts⟩ (k_clause l dC dI cI cL cZ (fun i => ad (i + 16)) (xI.sh 16 hinj (by omega)) co nv nc mt mf wt hp bo su sm am re ghM gvM fo bvM bcM nd lo lhM lwM lbM wa whM wvM hnc hnv (xs (i + 1)) (xs (i + 2)) (xs (i + 3)) (xs (i + 4)) (xs (i + 5))) (xcwV 5 hts wd_618 wd_39 wd_615 wd_616 wd_617 rfl rfl (by decide +kernel) ⟨Nat.le_of_ble_eq_true rfl, Nat.le_of_ble_eq_true rfl⟩) (xpreV (va_recv hK hP rfl (q0 := 16) rfl) (hP.sub [16, 17, 18, 19, 20, 21, 22, 23, 24, 25, 26, 27] rfl) hK) rfl rfl hl.1 rfl (lv_room (Nat.le_of_ble_eq_true rfl)) dL_law_205 ⟨by show cells + 1 + 0 ≤ 601024; omega, by show slots + 6 + 0 ≤ 7293000; omega⟩) hS (xhi (fun i hi => had (i + 16) (by omega)) (n := 12) (by decide)) (fun r_205 u H locs h1 hB hk hS => ?_)
    obtain ⟨co1_205, nc1_205, mt1_205, mf1_205, wt1_205, fo1_205, nd1_205, lo1_205⟩ := u
    have hP : va_P (dC, dI) vwCl [(ad 0, .inr (3, [.ref (ad 1), .ref (ad 5), .ref (ad 9)])), (ad 1, .inr (1, [.int (nI nv), .int (xAV nv), .int (nI nc), .ref (ad 2), .ref (ad 3), .ref (ad 4)])), (ad 2, .inl (cI, 40, .inl mt)), (ad 3, .inl (cI, 40, .inl mf)), (ad 4, .inl (cI, 40, .inl wt)), (ad 5, .inr (0, [.ref (ad 1), .ref (ad 6), .int (nI sc), .long avl, .int gh, .int gv, .ref (ad 7), .ref (ad 8), .int (nI st)])), (ad 6, .inl (cL, 40, .inr (.inl ss))), (ad 7, .inl (cI, 10, .inl sv)), (ad 8, .inl (cI, 10, .inl (xnI sr))), (ad 9, .inr (2, [.int nd, .int (nI lc), .long bc, .int bv, .ref (ad 10), .ref (ad 11), .ref (ad 12), .ref (ad 1), .ref (ad 5), .ref (ad 13), .ref (ad 14), .int (nI wc)])), (ad 10, .inl (cI, lz, .inl lh)), (ad 11, .inl (cI, lz, .inl lw)), (ad 12, .inl (cL, lz, .inr (.inl lb))), (ad 13, .inl (cI, 11, .inl wh)), (ad 14, .inl (cI, 11, .inl wv)), (ad 15, .inl (cL, 1, .inr (.inl of))), (ad 16, .inr (4, [.int co1_205, .int (nI nv), .int (nI nc1_205), .ref (ad 17), .ref (ad 18), .ref (ad 19), .int hp, .long bo, .int (nI su), .ref (ad 20), .ref (ad 21), .ref (ad 22), .int ghM, .int gvM, .int fo1_205, .int bvM, .long bcM, .int nd1_205, .int (nI lo1_205), .ref (ad 23), .ref (ad 24), .ref (ad 25), .int (nI wa), .ref (ad 26), .ref (ad 27)])), (ad 17, .inl (cI, 40, .inl mt1_205)), (ad 18, .inl (cI, 40, .inl mf1_205)), (ad 19, .inl (cI, 40, .inl wt1_205)), (ad 20, .inl (cL, 40, .inr (.inl sm))), (ad 21, .inl (cZ, 40, .inl am)), (ad 22, .inl (cI, 10, .inl re)), (ad 23, .inl (cI, 1024, .inl lhM)), (ad 24, .inl (cI, 1024, .inl lwM)), (ad 25, .inl (cL, 1024, .inr (.inl lbM))), (ad 26, .inl (cI, 24, .inl whM)), (ad 27, .inl (cI, 24, .inl wvM))] H := ((xkeepA hP hk [0, 1, 2, 3, 4, 5, 6, 7, 8, 9, 10, 11, 12, 13, 14, 15] rfl (fun k q hq hz => xnA hinj [0, 1, 2, 3, 4, 5, 6, 7, 8, 9, 10, 11, 12, 13, 14, 15] rfl (by decide) k q hq (xA_sh hz))).app hB).sub [0, 1, 2, 3, 4, 5, 6, 7, 8, 9, 10, 11, 12, 13, 14, 15, 16, 17, 18, 19, 20, 21, 22, 23, 24, 25, 26, 27] rfl
    have hq : (r_205, co1_205, nc1_205, mt1_205, mf1_205, wt1_205, fo1_205, nd1_205, lo1_205) = (0, 1, nc, mt, mf, wt, fo, nd, lo) := Eq.trans (Eq.symm h1) (em)
    have hq := hq.symm
    simp only [Prod.mk.injEq] at hq
    obtain ⟨rfl, rfl, rfl, rfl, rfl, rfl, rfl, rfl, rfl⟩ := hq
    refine lv_istore (lv' := [(6, .int 0), (5, .int 1), (0, .ref b), (1, .ref (ad 0)), (2, .ref (ad 16)), (3, .ref (ad 15)), (4, .int (nI i))]) hx hb dL_law_208 hl (by decide) rfl (fun ls hl => ?_)
    refine lv_aload_n hx hb dL_law_210 rfl (lv_at hl 4 rfl) ?_
    refine xro_i (va_runV (As := []) (rest := []) ⟨hx, hb, hml, hown, hts⟩ (k_thrown l dC dI cI cL cZ (fun i => ad (i + 16)) (xI.sh 16 hinj (by omega)) 1 nv nc mt mf wt hp bo su sm am re ghM gvM fo bvM bcM nd lo lhM lwM lbM wa whM wvM) (xcwV 0 hts wd_610 wd_39 wd_607 wd_608 wd_609 rfl rfl (by decide +kernel) ⟨Nat.le_of_ble_eq_true rfl, Nat.le_of_ble_eq_true rfl⟩) (xpreV (va_recv hK hP rfl (q0 := 16) rfl) (hP.sub [16, 17, 18, 19, 20, 21, 22, 23, 24, 25, 26, 27] rfl) hK) rfl rfl hl.1 rfl (lv_room (Nat.le_of_ble_eq_true rfl)) dL_law_211 ⟨by show cells + 1 + 0 ≤ 601024; omega, by show slots + 6 + 0 ≤ 7293000; omega⟩) hS (fun H locs hk hS => ?_)
    have hP := xkeep hP hk
    refine lv_iload hx hb dL_law_214 (lv_at hl 1 rfl) ?_
    refine lv_icmp_eq (tgt := 221) hx hb dL_law_216 (by decide) (fun h2 => ?_) (fun h2 => absurd rfl h2)
    refine lv_iload hx hb dL_law_221 (lv_at hl 1 rfl) ?_
    refine lv_if_ne (tgt := 238) hx hb dL_law_223 (by decide) (fun h3 => ?_) (fun h3 => absurd h3 (show ¬ (1 : Int32) = 0 by decide))
    refine lv_goto (tgt := 744) hx hb dL_law_238 (by decide) ?_
    exact hnx _ _ _ ⟨_, _, _, _, _, _, _, _, _, _, _, _, _, _, _, _, _, _, _, _, _, _, _, _, _, _, _, _, _, _, _, _, _, _, _, _, _, _, _, _, _, _, hP, hWF, hSR, hlc, hwc⟩ hS (lv_sub hl [2, 3, 4, 5, 6] rfl)
  by_cases hc : nI nc < 40
  · have em := e_clause hnv hnc mt mf wt fo nd lo (xs (i + 1)) (xs (i + 2)) (xs (i + 3)) (xs (i + 4)) (xs (i + 5))
    rw [if_neg hw, if_neg ha, if_neg (fun q => q hc)] at em
    have ef : l_clause nc mt mf wt (xs (i + 1)) (xs (i + 2)) (xs (i + 3)) (xs (i + 4)) (xs (i + 5)) of = (0, nc + 1, upd mt nc (xT (xs (i + 2)) (xs (i + 3)) (xs (i + 4)) (xs (i + 5))), upd mf nc (xF (xs (i + 2)) (xs (i + 3)) (xs (i + 4)) (xs (i + 5))), upd wt nc (xs (i + 1)), 0, 0, -1, 0, 0, vp_updL of 0 (nI nc).toInt64) := by unfold l_clause; rw [e_fclause mt mf wt (xs (i + 1)) (xs (i + 2)) (xs (i + 3)) (xs (i + 4)) (xs (i + 5)) hc]
    refine lv_aload_n hx hb dL_law_137 rfl (lv_at hl 1 rfl) ?_
    refine lv_aload_n hx hb dL_law_138 rfl (lv_at hl 0 rfl) ?_
    refine lv_iload hx hb dL_law_139 (lv_at hl 4 rfl) ?_
    refine lv_iconst (v := nI 1) hx hb dL_law_141 (by decide) ?_
    refine xr_addk hx hb dL_law_142 ?_
    refine xr_sld hx hb hX hbl (Nat.not_le.mpr hbl) hS (j := (i + 1)) (by omega) hL dL_law_143 ?_
    refine lv_aload_n hx hb dL_law_144 rfl (lv_at hl 0 rfl) ?_
    refine lv_iload hx hb dL_law_145 (lv_at hl 4 rfl) ?_
    refine lv_iconst (v := nI 2) hx hb dL_law_147 (by decide) ?_
    refine xr_addk hx hb dL_law_148 ?_
    refine xr_sld hx hb hX hbl (Nat.not_le.mpr hbl) hS (j := (i + 2)) (by omega) hL dL_law_149 ?_
    refine lv_aload_n hx hb dL_law_150 rfl (lv_at hl 0 rfl) ?_
    refine lv_iload hx hb dL_law_151 (lv_at hl 4 rfl) ?_
    refine lv_iconst (v := nI 3) hx hb dL_law_153 (by decide) ?_
    refine xr_addk hx hb dL_law_154 ?_
    refine xr_sld hx hb hX hbl (Nat.not_le.mpr hbl) hS (j := (i + 3)) (by omega) hL dL_law_155 ?_
    refine lv_aload_n hx hb dL_law_156 rfl (lv_at hl 0 rfl) ?_
    refine lv_iload hx hb dL_law_157 (lv_at hl 4 rfl) ?_
    refine lv_iconst (v := nI 4) hx hb dL_law_159 (by decide) ?_
    refine xr_addk hx hb dL_law_160 ?_
    refine xr_sld hx hb hX hbl (Nat.not_le.mpr hbl) hS (j := (i + 4)) (by omega) hL dL_law_161 ?_
    refine lv_aload_n hx hb dL_law_162 rfl (lv_at hl 0 rfl) ?_
    refine lv_iload hx hb dL_law_163 (lv_at hl 4 rfl) ?_
    refine lv_iconst (v := nI 5) hx hb dL_law_165 (by decide) ?_
    refine xr_addk hx hb dL_law_166 ?_
    refine xr_sld hx hb hX hbl (Nat.not_le.mpr hbl) hS (j := (i + 5)) (by omega) hL dL_law_167 ?_
    refine lv_aload_n hx hb dL_law_168 rfl (lv_at hl 3 rfl) ?_
    refine xrw_i (xrunSW (n := 7) (hh := [(0, 16, 19, 13), (0, 16, 23, 15)]) (As := [.ref (ad 0), .int (xs (i + 1)), .int (xs (i + 2)), .int (xs (i + 3)), .int (xs (i + 4)), .int (xs (i + 5)), .ref (ad 15)]) (rest := []) ⟨hx, hb, hml, hown, hts⟩ (h_clause l dC dI cI cL cZ ad (xI.le hinj (by omega)) nv (xAV nv) nc mt mf wt lz nd lc bc bv lh lw lb wh wv wc hnc (xs (i + 1)) (xs (i + 2)) (xs (i + 3)) (xs (i + 4)) (xs (i + 5)) hw ha hc of) (show GoodIn _ wsL_clause from xgood wd_361) hts (show _ ∈ wsL_clause from List.mem_cons_self) (List.mem_cons_of_mem _ wd_33) (List.mem_cons_of_mem _ wd_359) (List.mem_cons_of_mem _ wd_360) rfl rfl (by decide +kernel) ⟨Nat.le_of_ble_eq_true rfl, Nat.le_of_ble_eq_true rfl⟩ (xpreS (hP.sub [0, 1, 2, 3, 4, 9, 10, 11, 12, 13, 14, 15] rfl) hK) rfl rfl hl.1 rfl (lv_room (Nat.le_of_ble_eq_true rfl)) dL_law_169 ⟨by show cells + 0 ≤ 601024; omega, by show slots + 0 ≤ 7293000; omega⟩) hS (xhi had (by decide)) (fun r_169 u H locs h1 hB hk hS => ?_)
    obtain ⟨nc1_169, mt1_169, mf1_169, wt1_169, nd1_169, lc1_169, bc1_169, bv1_169, wc1_169, of1_169⟩ := u
    have hP : va_P (dC, dI) vwCl [(ad 0, .inr (3, [.ref (ad 1), .ref (ad 5), .ref (ad 9)])), (ad 1, .inr (1, [.int (nI nv), .int (xAV nv), .int (nI nc1_169), .ref (ad 2), .ref (ad 3), .ref (ad 4)])), (ad 2, .inl (cI, 40, .inl mt1_169)), (ad 3, .inl (cI, 40, .inl mf1_169)), (ad 4, .inl (cI, 40, .inl wt1_169)), (ad 5, .inr (0, [.ref (ad 1), .ref (ad 6), .int (nI sc), .long avl, .int gh, .int gv, .ref (ad 7), .ref (ad 8), .int (nI st)])), (ad 6, .inl (cL, 40, .inr (.inl ss))), (ad 7, .inl (cI, 10, .inl sv)), (ad 8, .inl (cI, 10, .inl (xnI sr))), (ad 9, .inr (2, [.int nd1_169, .int (nI lc1_169), .long bc1_169, .int bv1_169, .ref (ad 10), .ref (ad 11), .ref (ad 12), .ref (ad 1), .ref (ad 5), .ref (ad 13), .ref (ad 14), .int (nI wc1_169)])), (ad 10, .inl (cI, lz, .inl lh)), (ad 11, .inl (cI, lz, .inl lw)), (ad 12, .inl (cL, lz, .inr (.inl lb))), (ad 13, .inl (cI, 11, .inl wh)), (ad 14, .inl (cI, 11, .inl wv)), (ad 15, .inl (cL, 1, .inr (.inl of1_169))), (ad 16, .inr (4, [.int co, .int (nI nv), .int (nI nc), .ref (ad 17), .ref (ad 18), .ref (ad 19), .int hp, .long bo, .int (nI su), .ref (ad 20), .ref (ad 21), .ref (ad 22), .int ghM, .int gvM, .int fo, .int bvM, .long bcM, .int nd, .int (nI lo), .ref (ad 23), .ref (ad 24), .ref (ad 25), .int (nI wa), .ref (ad 26), .ref (ad 27)])), (ad 17, .inl (cI, 40, .inl mt)), (ad 18, .inl (cI, 40, .inl mf)), (ad 19, .inl (cI, 40, .inl wt)), (ad 20, .inl (cL, 40, .inr (.inl sm))), (ad 21, .inl (cZ, 40, .inl am)), (ad 22, .inl (cI, 10, .inl re)), (ad 23, .inl (cI, 1024, .inl lhM)), (ad 24, .inl (cI, 1024, .inl lwM)), (ad 25, .inl (cL, 1024, .inr (.inl lbM))), (ad 26, .inl (cI, 24, .inl whM)), (ad 27, .inl (cI, 24, .inl wvM))] H := ((xkeepA hP hk [0, 5, 6, 7, 8, 16, 17, 18, 19, 20, 21, 22, 23, 24, 25, 26, 27] rfl (xnA hinj [0, 5, 6, 7, 8, 16, 17, 18, 19, 20, 21, 22, 23, 24, 25, 26, 27] rfl (by decide))).app hB).sub [0, 17, 18, 19, 20, 1, 2, 3, 4, 21, 22, 23, 24, 25, 26, 27, 5, 6, 7, 8, 9, 10, 11, 12, 13, 14, 15, 16] rfl
    have hq : (r_169, nc1_169, mt1_169, mf1_169, wt1_169, nd1_169, lc1_169, bc1_169, bv1_169, wc1_169, of1_169) = (0, (nc + 1), (upd mt nc (xT (xs (i + 2)) (xs (i + 3)) (xs (i + 4)) (xs (i + 5)))), (upd mf nc (xF (xs (i + 2)) (xs (i + 3)) (xs (i + 4)) (xs (i + 5)))), (upd wt nc (xs (i + 1))), 0, 0, (-1), 0, 0, (vp_updL of 0 (nI nc).toInt64)) := Eq.trans (Eq.symm h1) (ef)
    have hq := hq.symm
    simp only [Prod.mk.injEq] at hq
    obtain ⟨rfl, rfl, rfl, rfl, rfl, rfl, rfl, rfl, rfl, rfl, rfl⟩ := hq
    refine lv_istore (lv' := [(5, .int 0), (0, .ref b), (1, .ref (ad 0)), (2, .ref (ad 16)), (3, .ref (ad 15)), (4, .int (nI i))]) hx hb dL_law_172 hl (by decide) rfl (fun ls hl => ?_)
    refine lv_aload_n hx hb dL_law_174 rfl (lv_at hl 3 rfl) ?_
    refine lv_aload_n hx hb dL_law_175 rfl (lv_at hl 1 rfl) ?_
    refine lv_iload hx hb dL_law_176 (lv_at hl 5 rfl) ?_
    refine lv_iconst (v := nI 1) hx hb dL_law_178 (by decide) ?_
    refine xr_addk hx hb dL_law_179 ?_
    refine xr_sld hx hb hX hbl (Nat.not_le.mpr hbl) hS (j := (i + 1)) (by omega) hL dL_law_180 ?_
    refine lv_aload_n hx hb dL_law_181 rfl (lv_at hl 1 rfl) ?_
    refine lv_iload hx hb dL_law_182 (lv_at hl 5 rfl) ?_
    refine lv_iconst (v := nI 2) hx hb dL_law_184 (by decide) ?_
    refine xr_addk hx hb dL_law_185 ?_
    refine xr_sld hx hb hX hbl (Nat.not_le.mpr hbl) hS (j := (i + 2)) (by omega) hL dL_law_186 ?_
    refine lv_aload_n hx hb dL_law_187 rfl (lv_at hl 1 rfl) ?_
    refine lv_iload hx hb dL_law_188 (lv_at hl 5 rfl) ?_
    refine lv_iconst (v := nI 3) hx hb dL_law_190 (by decide) ?_
    refine xr_addk hx hb dL_law_191 ?_
    refine xr_sld hx hb hX hbl (Nat.not_le.mpr hbl) hS (j := (i + 3)) (by omega) hL dL_law_192 ?_
    refine lv_aload_n hx hb dL_law_193 rfl (lv_at hl 1 rfl) ?_
    refine lv_iload hx hb dL_law_194 (lv_at hl 5 rfl) ?_
    refine lv_iconst (v := nI 4) hx hb dL_law_196 (by decide) ?_
    refine xr_addk hx hb dL_law_197 ?_
    refine xr_sld hx hb hX hbl (Nat.not_le.mpr hbl) hS (j := (i + 4)) (by omega) hL dL_law_198 ?_
    refine lv_aload_n hx hb dL_law_199 rfl (lv_at hl 1 rfl) ?_
    refine lv_iload hx hb dL_law_200 (lv_at hl 5 rfl) ?_
    refine lv_iconst (v := nI 5) hx hb dL_law_202 (by decide) ?_
    refine xr_addk hx hb dL_law_203 ?_
    refine xr_sld hx hb hX hbl (Nat.not_le.mpr hbl) hS (j := (i + 5)) (by omega) hL dL_law_204 ?_
    refine xrw_i (va_runV (As := [.int (xs (i + 1)), .int (xs (i + 2)), .int (xs (i + 3)), .int (xs (i + 4)), .int (xs (i + 5))]) (rest := []) ⟨hx, hb, hml, hown, hts⟩ (k_clause l dC dI cI cL cZ (fun i => ad (i + 16)) (xI.sh 16 hinj (by omega)) co nv nc mt mf wt hp bo su sm am re ghM gvM fo bvM bcM nd lo lhM lwM lbM wa whM wvM hnc hnv (xs (i + 1)) (xs (i + 2)) (xs (i + 3)) (xs (i + 4)) (xs (i + 5))) (xcwV 5 hts wd_618 wd_39 wd_615 wd_616 wd_617 rfl rfl (by decide +kernel) ⟨Nat.le_of_ble_eq_true rfl, Nat.le_of_ble_eq_true rfl⟩) (xpreV (va_recv hK hP rfl (q0 := 16) rfl) (hP.sub [16, 17, 18, 19, 20, 21, 22, 23, 24, 25, 26, 27] rfl) hK) rfl rfl hl.1 rfl (lv_room (Nat.le_of_ble_eq_true rfl)) dL_law_205 ⟨by show cells + 0 ≤ 601024; omega, by show slots + 0 ≤ 7293000; omega⟩) hS (xhi (fun i hi => had (i + 16) (by omega)) (n := 12) (by decide)) (fun r_205 u H locs h2 hB hk hS => ?_)
    obtain ⟨co1_205, nc1_205, mt1_205, mf1_205, wt1_205, fo1_205, nd1_205, lo1_205⟩ := u
    have hP : va_P (dC, dI) vwCl [(ad 0, .inr (3, [.ref (ad 1), .ref (ad 5), .ref (ad 9)])), (ad 1, .inr (1, [.int (nI nv), .int (xAV nv), .int (nI (nc + 1)), .ref (ad 2), .ref (ad 3), .ref (ad 4)])), (ad 2, .inl (cI, 40, .inl (upd mt nc (xT (xs (i + 2)) (xs (i + 3)) (xs (i + 4)) (xs (i + 5)))))), (ad 3, .inl (cI, 40, .inl (upd mf nc (xF (xs (i + 2)) (xs (i + 3)) (xs (i + 4)) (xs (i + 5)))))), (ad 4, .inl (cI, 40, .inl (upd wt nc (xs (i + 1))))), (ad 5, .inr (0, [.ref (ad 1), .ref (ad 6), .int (nI sc), .long avl, .int gh, .int gv, .ref (ad 7), .ref (ad 8), .int (nI st)])), (ad 6, .inl (cL, 40, .inr (.inl ss))), (ad 7, .inl (cI, 10, .inl sv)), (ad 8, .inl (cI, 10, .inl (xnI sr))), (ad 9, .inr (2, [.int 0, .int (nI 0), .long (-1), .int 0, .ref (ad 10), .ref (ad 11), .ref (ad 12), .ref (ad 1), .ref (ad 5), .ref (ad 13), .ref (ad 14), .int (nI 0)])), (ad 10, .inl (cI, lz, .inl lh)), (ad 11, .inl (cI, lz, .inl lw)), (ad 12, .inl (cL, lz, .inr (.inl lb))), (ad 13, .inl (cI, 11, .inl wh)), (ad 14, .inl (cI, 11, .inl wv)), (ad 15, .inl (cL, 1, .inr (.inl (vp_updL of 0 (nI nc).toInt64)))), (ad 16, .inr (4, [.int co1_205, .int (nI nv), .int (nI nc1_205), .ref (ad 17), .ref (ad 18), .ref (ad 19), .int hp, .long bo, .int (nI su), .ref (ad 20), .ref (ad 21), .ref (ad 22), .int ghM, .int gvM, .int fo1_205, .int bvM, .long bcM, .int nd1_205, .int (nI lo1_205), .ref (ad 23), .ref (ad 24), .ref (ad 25), .int (nI wa), .ref (ad 26), .ref (ad 27)])), (ad 17, .inl (cI, 40, .inl mt1_205)), (ad 18, .inl (cI, 40, .inl mf1_205)), (ad 19, .inl (cI, 40, .inl wt1_205)), (ad 20, .inl (cL, 40, .inr (.inl sm))), (ad 21, .inl (cZ, 40, .inl am)), (ad 22, .inl (cI, 10, .inl re)), (ad 23, .inl (cI, 1024, .inl lhM)), (ad 24, .inl (cI, 1024, .inl lwM)), (ad 25, .inl (cL, 1024, .inr (.inl lbM))), (ad 26, .inl (cI, 24, .inl whM)), (ad 27, .inl (cI, 24, .inl wvM))] H := ((xkeepA hP hk [0, 1, 2, 3, 4, 5, 6, 7, 8, 9, 10, 11, 12, 13, 14, 15] rfl (fun k q hq hz => xnA hinj [0, 1, 2, 3, 4, 5, 6, 7, 8, 9, 10, 11, 12, 13, 14, 15] rfl (by decide) k q hq (xA_sh hz))).app hB).sub [0, 1, 2, 3, 4, 5, 6, 7, 8, 9, 10, 11, 12, 13, 14, 15, 16, 17, 18, 19, 20, 21, 22, 23, 24, 25, 26, 27] rfl
    have hq : (r_205, co1_205, nc1_205, mt1_205, mf1_205, wt1_205, fo1_205, nd1_205, lo1_205) = ((nI nc), 0, (nc + 1), (upd mt nc (xT (xs (i + 2)) (xs (i + 3)) (xs (i + 4)) (xs (i + 5)))), (upd mf nc (xF (xs (i + 2)) (xs (i + 3)) (xs (i + 4)) (xs (i + 5)))), (upd wt nc (xs (i + 1))), 0, 0, 0) := Eq.trans (Eq.symm h2) (em)
    have hq := hq.symm
    simp only [Prod.mk.injEq] at hq
    obtain ⟨rfl, rfl, rfl, rfl, rfl, rfl, rfl, rfl, rfl⟩ := hq
    refine lv_istore (lv' := [(6, .int (nI nc)), (5, .int 0), (0, .ref b), (1, .ref (ad 0)), (2, .ref (ad 16)), (3, .ref (ad 15)), (4, .int (nI i))]) hx hb dL_law_208 hl (by decide) rfl (fun ls hl => ?_)
    refine lv_aload_n hx hb dL_law_210 rfl (lv_at hl 4 rfl) ?_
    refine xro_i (va_runV (As := []) (rest := []) ⟨hx, hb, hml, hown, hts⟩ (k_thrown l dC dI cI cL cZ (fun i => ad (i + 16)) (xI.sh 16 hinj (by omega)) 0 nv (nc + 1) (upd mt nc (xT (xs (i + 2)) (xs (i + 3)) (xs (i + 4)) (xs (i + 5)))) (upd mf nc (xF (xs (i + 2)) (xs (i + 3)) (xs (i + 4)) (xs (i + 5)))) (upd wt nc (xs (i + 1))) hp bo su sm am re ghM gvM 0 bvM bcM 0 0 lhM lwM lbM wa whM wvM) (xcwV 0 hts wd_610 wd_39 wd_607 wd_608 wd_609 rfl rfl (by decide +kernel) ⟨Nat.le_of_ble_eq_true rfl, Nat.le_of_ble_eq_true rfl⟩) (xpreV (va_recv hK hP rfl (q0 := 16) rfl) (hP.sub [16, 17, 18, 19, 20, 21, 22, 23, 24, 25, 26, 27] rfl) hK) rfl rfl hl.1 rfl (lv_room (Nat.le_of_ble_eq_true rfl)) dL_law_211 ⟨by show cells + 0 ≤ 601024; omega, by show slots + 0 ≤ 7293000; omega⟩) hS (fun H locs hk hS => ?_)
    have hP := xkeep hP hk
    refine lv_iload hx hb dL_law_214 (lv_at hl 1 rfl) ?_
    refine lv_icmp_eq (tgt := 221) hx hb dL_law_216 (by decide) (fun h3 => ?_) (fun h3 => absurd rfl h3)
    refine lv_iload hx hb dL_law_221 (lv_at hl 1 rfl) ?_
    refine lv_if_ne (tgt := 238) hx hb dL_law_223 (by decide) (fun h4 => absurd (show (0 : Int32) = 0 from rfl) h4) (fun h4 => ?_)
    refine lv_aload_n hx hb dL_law_226 rfl (lv_at hl 5 rfl) ?_
    refine lv_iconst (v := nI 0) hx hb dL_law_227 (by decide) ?_
    refine xr_lald hx hb hK hP 15 1 rfl rfl 0 (by omega) (by omega) dL_law_228 ?_
    refine lv_iload hx hb dL_law_229 (lv_at hl 0 rfl) ?_
    refine lv_i2l (v := (nI nc).toInt64) hx hb dL_law_231 rfl ?_
    refine W.lcmp hx hb dL_law_232 ?_
    refine lv_if_eq (tgt := 238) hx hb dL_law_233 (by decide) (fun h5 => ?_) (fun h5 => absurd ((lg_cmp_eq _ _).mpr rfl) h5)
    refine lv_goto (tgt := 744) hx hb dL_law_238 (by decide) ?_
    refine W.widen (k := cells + 1) (n := slots + 6) (by omega) (by omega) ?_
    exact hnx _ _ _ ⟨_, _, _, _, _, _, _, _, _, _, _, _, _, _, _, _, _, _, _, _, _, _, _, _, _, _, _, _, _, _, _, _, _, _, _, _, _, _, _, _, _, _, hP, (hWF.add hw ha hc), (xSR.start _ _ _ _ _ _ _ _ _), (Nat.zero_le _), (by omega)⟩ hS (lv_sub hl [2, 3, 4, 5, 6] rfl)
  · have em := e_clause hnv hnc mt mf wt fo nd lo (xs (i + 1)) (xs (i + 2)) (xs (i + 3)) (xs (i + 4)) (xs (i + 5))
    rw [if_neg hw, if_neg ha, if_pos hc] at em
    refine lv_aload_n hx hb dL_law_137 rfl (lv_at hl 1 rfl) ?_
    refine lv_aload_n hx hb dL_law_138 rfl (lv_at hl 0 rfl) ?_
    refine lv_iload hx hb dL_law_139 (lv_at hl 4 rfl) ?_
    refine lv_iconst (v := nI 1) hx hb dL_law_141 (by decide) ?_
    refine xr_addk hx hb dL_law_142 ?_
    refine xr_sld hx hb hX hbl (Nat.not_le.mpr hbl) hS (j := (i + 1)) (by omega) hL dL_law_143 ?_
    refine lv_aload_n hx hb dL_law_144 rfl (lv_at hl 0 rfl) ?_
    refine lv_iload hx hb dL_law_145 (lv_at hl 4 rfl) ?_
    refine lv_iconst (v := nI 2) hx hb dL_law_147 (by decide) ?_
    refine xr_addk hx hb dL_law_148 ?_
    refine xr_sld hx hb hX hbl (Nat.not_le.mpr hbl) hS (j := (i + 2)) (by omega) hL dL_law_149 ?_
    refine lv_aload_n hx hb dL_law_150 rfl (lv_at hl 0 rfl) ?_
    refine lv_iload hx hb dL_law_151 (lv_at hl 4 rfl) ?_
    refine lv_iconst (v := nI 3) hx hb dL_law_153 (by decide) ?_
    refine xr_addk hx hb dL_law_154 ?_
    refine xr_sld hx hb hX hbl (Nat.not_le.mpr hbl) hS (j := (i + 3)) (by omega) hL dL_law_155 ?_
    refine lv_aload_n hx hb dL_law_156 rfl (lv_at hl 0 rfl) ?_
    refine lv_iload hx hb dL_law_157 (lv_at hl 4 rfl) ?_
    refine lv_iconst (v := nI 4) hx hb dL_law_159 (by decide) ?_
    refine xr_addk hx hb dL_law_160 ?_
    refine xr_sld hx hb hX hbl (Nat.not_le.mpr hbl) hS (j := (i + 4)) (by omega) hL dL_law_161 ?_
    refine lv_aload_n hx hb dL_law_162 rfl (lv_at hl 0 rfl) ?_
    refine lv_iload hx hb dL_law_163 (lv_at hl 4 rfl) ?_
    refine lv_iconst (v := nI 5) hx hb dL_law_165 (by decide) ?_
    refine xr_addk hx hb dL_law_166 ?_
    refine xr_sld hx hb hX hbl (Nat.not_le.mpr hbl) hS (j := (i + 5)) (by omega) hL dL_law_167 ?_
    refine lv_aload_n hx hb dL_law_168 rfl (lv_at hl 3 rfl) ?_
    refine xro_im (xrunSW (n := 7) (hh := [(0, 16, 19, 13), (0, 16, 23, 15)]) (As := [.ref (ad 0), .int (xs (i + 1)), .int (xs (i + 2)), .int (xs (i + 3)), .int (xs (i + 4)), .int (xs (i + 5)), .ref (ad 15)]) (rest := []) ⟨hx, hb, hml, hown, hts⟩ (h_clause_x3 l dC dI cI cL cZ ad (xI.le hinj (by omega)) hlt nv (xAV nv) nc mt mf wt lz nd lc bc bv lh lw lb wh wv wc hnc (xs (i + 1)) (xs (i + 2)) (xs (i + 3)) (xs (i + 4)) (xs (i + 5)) hw ha hc) (show GoodIn _ wsL_clause from xgood wd_361) hts (show _ ∈ wsL_clause from List.mem_cons_self) (List.mem_cons_of_mem _ wd_33) (List.mem_cons_of_mem _ wd_359) (List.mem_cons_of_mem _ wd_360) rfl rfl (by decide +kernel) ⟨Nat.le_of_ble_eq_true rfl, Nat.le_of_ble_eq_true rfl⟩ (xpreS2 (hP.sub [0, 1, 2, 3, 4, 9, 10, 11, 12, 13, 14] rfl) hK hE hN (fun q hq => hS.2.1 q hq (Nat.not_le.mpr hq))) rfl rfl hl.1 rfl (lv_room (Nat.le_of_ble_eq_true rfl)) dL_law_169 ⟨by show cells + 1 ≤ 601024; omega, by show slots + 6 ≤ 7293000; omega⟩) hS (fun H locs hk hS => ?_)
    have hP := xkeep hP hk
    refine lv_istore (lv' := [(5, .int 2), (0, .ref b), (1, .ref (ad 0)), (2, .ref (ad 16)), (3, .ref (ad 15)), (4, .int (nI i))]) hx hb dL_law_172 hl (by decide) rfl (fun ls hl => ?_)
    refine lv_aload_n hx hb dL_law_174 rfl (lv_at hl 3 rfl) ?_
    refine lv_aload_n hx hb dL_law_175 rfl (lv_at hl 1 rfl) ?_
    refine lv_iload hx hb dL_law_176 (lv_at hl 5 rfl) ?_
    refine lv_iconst (v := nI 1) hx hb dL_law_178 (by decide) ?_
    refine xr_addk hx hb dL_law_179 ?_
    refine xr_sld hx hb hX hbl (Nat.not_le.mpr hbl) hS (j := (i + 1)) (by omega) hL dL_law_180 ?_
    refine lv_aload_n hx hb dL_law_181 rfl (lv_at hl 1 rfl) ?_
    refine lv_iload hx hb dL_law_182 (lv_at hl 5 rfl) ?_
    refine lv_iconst (v := nI 2) hx hb dL_law_184 (by decide) ?_
    refine xr_addk hx hb dL_law_185 ?_
    refine xr_sld hx hb hX hbl (Nat.not_le.mpr hbl) hS (j := (i + 2)) (by omega) hL dL_law_186 ?_
    refine lv_aload_n hx hb dL_law_187 rfl (lv_at hl 1 rfl) ?_
    refine lv_iload hx hb dL_law_188 (lv_at hl 5 rfl) ?_
    refine lv_iconst (v := nI 3) hx hb dL_law_190 (by decide) ?_
    refine xr_addk hx hb dL_law_191 ?_
    refine xr_sld hx hb hX hbl (Nat.not_le.mpr hbl) hS (j := (i + 3)) (by omega) hL dL_law_192 ?_
    refine lv_aload_n hx hb dL_law_193 rfl (lv_at hl 1 rfl) ?_
    refine lv_iload hx hb dL_law_194 (lv_at hl 5 rfl) ?_
    refine lv_iconst (v := nI 4) hx hb dL_law_196 (by decide) ?_
    refine xr_addk hx hb dL_law_197 ?_
    refine xr_sld hx hb hX hbl (Nat.not_le.mpr hbl) hS (j := (i + 4)) (by omega) hL dL_law_198 ?_
    refine lv_aload_n hx hb dL_law_199 rfl (lv_at hl 1 rfl) ?_
    refine lv_iload hx hb dL_law_200 (lv_at hl 5 rfl) ?_
    refine lv_iconst (v := nI 5) hx hb dL_law_202 (by decide) ?_
    refine xr_addk hx hb dL_law_203 ?_
    refine xr_sld hx hb hX hbl (Nat.not_le.mpr hbl) hS (j := (i + 5)) (by omega) hL dL_law_204 ?_
    refine xrw_i (va_runV (As := [.int (xs (i + 1)), .int (xs (i + 2)), .int (xs (i + 3)), .int (xs (i + 4)), .int (xs (i + 5))]) (rest := []) ⟨hx, hb, hml, hown, hts⟩ (k_clause l dC dI cI cL cZ (fun i => ad (i + 16)) (xI.sh 16 hinj (by omega)) co nv nc mt mf wt hp bo su sm am re ghM gvM fo bvM bcM nd lo lhM lwM lbM wa whM wvM hnc hnv (xs (i + 1)) (xs (i + 2)) (xs (i + 3)) (xs (i + 4)) (xs (i + 5))) (xcwV 5 hts wd_618 wd_39 wd_615 wd_616 wd_617 rfl rfl (by decide +kernel) ⟨Nat.le_of_ble_eq_true rfl, Nat.le_of_ble_eq_true rfl⟩) (xpreV (va_recv hK hP rfl (q0 := 16) rfl) (hP.sub [16, 17, 18, 19, 20, 21, 22, 23, 24, 25, 26, 27] rfl) hK) rfl rfl hl.1 rfl (lv_room (Nat.le_of_ble_eq_true rfl)) dL_law_205 ⟨by show cells + 1 + 0 ≤ 601024; omega, by show slots + 6 + 0 ≤ 7293000; omega⟩) hS (xhi (fun i hi => had (i + 16) (by omega)) (n := 12) (by decide)) (fun r_205 u H locs h1 hB hk hS => ?_)
    obtain ⟨co1_205, nc1_205, mt1_205, mf1_205, wt1_205, fo1_205, nd1_205, lo1_205⟩ := u
    have hP : va_P (dC, dI) vwCl [(ad 0, .inr (3, [.ref (ad 1), .ref (ad 5), .ref (ad 9)])), (ad 1, .inr (1, [.int (nI nv), .int (xAV nv), .int (nI nc), .ref (ad 2), .ref (ad 3), .ref (ad 4)])), (ad 2, .inl (cI, 40, .inl mt)), (ad 3, .inl (cI, 40, .inl mf)), (ad 4, .inl (cI, 40, .inl wt)), (ad 5, .inr (0, [.ref (ad 1), .ref (ad 6), .int (nI sc), .long avl, .int gh, .int gv, .ref (ad 7), .ref (ad 8), .int (nI st)])), (ad 6, .inl (cL, 40, .inr (.inl ss))), (ad 7, .inl (cI, 10, .inl sv)), (ad 8, .inl (cI, 10, .inl (xnI sr))), (ad 9, .inr (2, [.int nd, .int (nI lc), .long bc, .int bv, .ref (ad 10), .ref (ad 11), .ref (ad 12), .ref (ad 1), .ref (ad 5), .ref (ad 13), .ref (ad 14), .int (nI wc)])), (ad 10, .inl (cI, lz, .inl lh)), (ad 11, .inl (cI, lz, .inl lw)), (ad 12, .inl (cL, lz, .inr (.inl lb))), (ad 13, .inl (cI, 11, .inl wh)), (ad 14, .inl (cI, 11, .inl wv)), (ad 15, .inl (cL, 1, .inr (.inl of))), (ad 16, .inr (4, [.int co1_205, .int (nI nv), .int (nI nc1_205), .ref (ad 17), .ref (ad 18), .ref (ad 19), .int hp, .long bo, .int (nI su), .ref (ad 20), .ref (ad 21), .ref (ad 22), .int ghM, .int gvM, .int fo1_205, .int bvM, .long bcM, .int nd1_205, .int (nI lo1_205), .ref (ad 23), .ref (ad 24), .ref (ad 25), .int (nI wa), .ref (ad 26), .ref (ad 27)])), (ad 17, .inl (cI, 40, .inl mt1_205)), (ad 18, .inl (cI, 40, .inl mf1_205)), (ad 19, .inl (cI, 40, .inl wt1_205)), (ad 20, .inl (cL, 40, .inr (.inl sm))), (ad 21, .inl (cZ, 40, .inl am)), (ad 22, .inl (cI, 10, .inl re)), (ad 23, .inl (cI, 1024, .inl lhM)), (ad 24, .inl (cI, 1024, .inl lwM)), (ad 25, .inl (cL, 1024, .inr (.inl lbM))), (ad 26, .inl (cI, 24, .inl whM)), (ad 27, .inl (cI, 24, .inl wvM))] H := ((xkeepA hP hk [0, 1, 2, 3, 4, 5, 6, 7, 8, 9, 10, 11, 12, 13, 14, 15] rfl (fun k q hq hz => xnA hinj [0, 1, 2, 3, 4, 5, 6, 7, 8, 9, 10, 11, 12, 13, 14, 15] rfl (by decide) k q hq (xA_sh hz))).app hB).sub [0, 1, 2, 3, 4, 5, 6, 7, 8, 9, 10, 11, 12, 13, 14, 15, 16, 17, 18, 19, 20, 21, 22, 23, 24, 25, 26, 27] rfl
    have hq : (r_205, co1_205, nc1_205, mt1_205, mf1_205, wt1_205, fo1_205, nd1_205, lo1_205) = (0, 2, nc, mt, mf, wt, fo, nd, lo) := Eq.trans (Eq.symm h1) (em)
    have hq := hq.symm
    simp only [Prod.mk.injEq] at hq
    obtain ⟨rfl, rfl, rfl, rfl, rfl, rfl, rfl, rfl, rfl⟩ := hq
    refine lv_istore (lv' := [(6, .int 0), (5, .int 2), (0, .ref b), (1, .ref (ad 0)), (2, .ref (ad 16)), (3, .ref (ad 15)), (4, .int (nI i))]) hx hb dL_law_208 hl (by decide) rfl (fun ls hl => ?_)
    refine lv_aload_n hx hb dL_law_210 rfl (lv_at hl 4 rfl) ?_
    refine xro_i (va_runV (As := []) (rest := []) ⟨hx, hb, hml, hown, hts⟩ (k_thrown l dC dI cI cL cZ (fun i => ad (i + 16)) (xI.sh 16 hinj (by omega)) 2 nv nc mt mf wt hp bo su sm am re ghM gvM fo bvM bcM nd lo lhM lwM lbM wa whM wvM) (xcwV 0 hts wd_610 wd_39 wd_607 wd_608 wd_609 rfl rfl (by decide +kernel) ⟨Nat.le_of_ble_eq_true rfl, Nat.le_of_ble_eq_true rfl⟩) (xpreV (va_recv hK hP rfl (q0 := 16) rfl) (hP.sub [16, 17, 18, 19, 20, 21, 22, 23, 24, 25, 26, 27] rfl) hK) rfl rfl hl.1 rfl (lv_room (Nat.le_of_ble_eq_true rfl)) dL_law_211 ⟨by show cells + 1 + 0 ≤ 601024; omega, by show slots + 6 + 0 ≤ 7293000; omega⟩) hS (fun H locs hk hS => ?_)
    have hP := xkeep hP hk
    refine lv_iload hx hb dL_law_214 (lv_at hl 1 rfl) ?_
    refine lv_icmp_eq (tgt := 221) hx hb dL_law_216 (by decide) (fun h2 => ?_) (fun h2 => absurd rfl h2)
    refine lv_iload hx hb dL_law_221 (lv_at hl 1 rfl) ?_
    refine lv_if_ne (tgt := 238) hx hb dL_law_223 (by decide) (fun h3 => ?_) (fun h3 => absurd h3 (show ¬ (2 : Int32) = 0 by decide))
    refine lv_goto (tgt := 744) hx hb dL_law_238 (by decide) ?_
    exact hnx _ _ _ ⟨_, _, _, _, _, _, _, _, _, _, _, _, _, _, _, _, _, _, _, _, _, _, _, _, _, _, _, _, _, _, _, _, _, _, _, _, _, _, _, _, _, _, hP, hWF, hSR, hlc, hwc⟩ hS (lv_sub hl [2, 3, 4, 5, 6] rfl)
