def f_solve (nv : Nat) (av : Int32) (nc : Nat) (mt mf wt : Nat → Int32) (lz : Nat) (ss : (Nat → Int64)) (sc : Nat) (avl : Int64) (gh : Int32) (gv : Int32) (sv : (Nat → Int32)) (sr : (Nat → Nat)) (st : Nat) (nd : Int32) (lc : Nat) (bc : Int64) (bv : Int32) (lh : (Nat → Int32)) (lw : (Nat → Int32)) (lb : (Nat → Int64)) (wh : (Nat → Int32)) (wv : (Nat → Int32)) (wc : Nat) : Int64 × (Nat → Int64) × Nat × Int64 × Int32 × Int32 × (Nat → Int32) × (Nat → Nat) × Nat × Int32 × Nat × Int64 × Int32 × (Nat → Int32) × (Nat → Int32) × (Nat → Int64) × (Nat → Int32) × (Nat → Int32) × Nat :=
  match (f_run nv av nc mt mf wt lz ss sc avl gh gv sv sr st nd lc bc bv lh lw lb wh wv wc) with
  | (ss1_4, sc1_4, avl1_4, gh1_4, gv1_4, sv1_4, sr1_4, st1_4, nd1_4, lc1_4, bc1_4, bv1_4, lh1_4, lw1_4, lb1_4, wh1_4, wv1_4, wc1_4) =>
    if (f_hasBest bc1_4) = 0 then
      ((-2), (ss1_4, sc1_4, avl1_4, gh1_4, gv1_4, sv1_4, sr1_4, st1_4, nd1_4, lc1_4, bc1_4, bv1_4, lh1_4, lw1_4, lb1_4, wh1_4, wv1_4, wc1_4))
    else
      (bc1_4, (ss1_4, sc1_4, avl1_4, gh1_4, gv1_4, sv1_4, sr1_4, st1_4, nd1_4, lc1_4, bc1_4, bv1_4, lh1_4, lw1_4, lb1_4, wh1_4, wv1_4, wc1_4))
set_option maxHeartbeats 4000000 in
set_option maxRecDepth 100000 in
theorem c_solve (l : Launch) (dC : Nat → ClassId) (dI : Nat → Nat → Nat) (cI cL cZ : ClassId) (ad : Nat → Nat) (hinj : xI ad 15) (nv : Nat) (av : Int32) (nc : Nat) (mt mf wt : Nat → Int32) (ss : Nat → Int64) (sc : Nat) (avl : Int64) (gh gv : Int32) (sv : Nat → Int32) (sr : Nat → Nat) (st : Nat) (lz : Nat) (nd : Int32) (lc : Nat) (bc : Int64) (bv : Int32) (lh lw : Nat → Int32) (lb : Nat → Int64) (wh wv : Nat → Int32) (wc : Nat) (hnc : nc ≤ 40) (hnv : nv ≤ 10) (hlz : lz ≤ 512) (hlc : lc ≤ lz) (hwc : wc ≤ 11) : Met l yX3_solve wsX3_solve ({ frames := 6, cells := 0, slots := 0, locals := 146 }) (va_Pc [.ref (ad 0)] (fun U => va_P (dC, dI) vwCl [(ad 0, .inr (3, [.ref (ad 1), .ref (ad 5), .ref (ad 9)])), (ad 1, .inr (1, [.int (nI nv), .int av, .int (nI nc), .ref (ad 2), .ref (ad 3), .ref (ad 4)])), (ad 2, .inl (cI, 40, .inl mt)), (ad 3, .inl (cI, 40, .inl mf)), (ad 4, .inl (cI, 40, .inl wt)), (ad 5, .inr (0, [.ref (ad 1), .ref (ad 6), .int (nI sc), .long avl, .int gh, .int gv, .ref (ad 7), .ref (ad 8), .int (nI st)])), (ad 6, .inl (cL, 40, .inr (.inl ss))), (ad 7, .inl (cI, 10, .inl sv)), (ad 8, .inl (cI, 10, .inl (xnI sr))), (ad 9, .inr (2, [.int nd, .int (nI lc), .long bc, .int bv, .ref (ad 10), .ref (ad 11), .ref (ad 12), .ref (ad 1), .ref (ad 5), .ref (ad 13), .ref (ad 14), .int (nI wc)])), (ad 10, .inl (cI, lz, .inl lh)), (ad 11, .inl (cI, lz, .inl lw)), (ad 12, .inl (cL, lz, .inr (.inl lb))), (ad 13, .inl (cI, 11, .inl wh)), (ad 14, .inl (cI, 11, .inl wv))] U.heap ∧ va_K (dC, dI) vwCl [(cI, .int), (cL, .long), (cZ, .boolean)] U)) (va_Ql (fun r u => f_solve nv av nc mt mf wt lz ss sc avl gh gv sv sr st nd lc bc bv lh lw lb wh wv wc = (r, u)) (xB (dC, dI) vwCl (fun (u : (Nat → Int64) × Nat × Int64 × Int32 × Int32 × (Nat → Int32) × (Nat → Nat) × Nat × Int32 × Nat × Int64 × Int32 × (Nat → Int32) × (Nat → Int32) × (Nat → Int64) × (Nat → Int32) × (Nat → Int32) × Nat) => match u with | (ss1, sc1, avl1, gh1, gv1, sv1, sr1, st1, nd1, lc1, bc1, bv1, lh1, lw1, lb1, wh1, wv1, wc1) => [(ad 5, .inr (0, [.ref (ad 1), .ref (ad 6), .int (nI sc1), .long avl1, .int gh1, .int gv1, .ref (ad 7), .ref (ad 8), .int (nI st1)])), (ad 6, .inl (cL, 40, .inr (.inl ss1))), (ad 7, .inl (cI, 10, .inl sv1)), (ad 8, .inl (cI, 10, .inl (xnI sr1))), (ad 9, .inr (2, [.int nd1, .int (nI lc1), .long bc1, .int bv1, .ref (ad 10), .ref (ad 11), .ref (ad 12), .ref (ad 1), .ref (ad 5), .ref (ad 13), .ref (ad 14), .int (nI wc1)])), (ad 10, .inl (cI, lz, .inl lh1)), (ad 11, .inl (cI, lz, .inl lw1)), (ad 12, .inl (cL, lz, .inr (.inl lb1))), (ad 13, .inl (cI, 11, .inl wh1)), (ad 14, .inl (cI, 11, .inl wv1))])) (xA ad [5, 6, 7, 8, 9, 10, 11, 12, 13, 14])) 0 0 (xA ad [5, 6, 7, 8, 9, 10, 11, 12, 13, 14]) := by
  refine Met.ofW (cc := cX3_solve) (maxL := 1) (ret := (some .long)) (by decide) rfl ?_
  intro p e s m args below meth c s₁ B hml hvv
  obtain ⟨rfl, hP0, hK⟩ := hvv
  have hx := B.exec
  have hb := B.bytes
  have hr := B.returns
  have hts := atoms_spec (ws := wsX3_solve) B.pre
  have hown : s.vm.findClass RX3 = some m.cls := findClass_of_methodNamed B.named
  have hlocks := B.notSynchronized
  have hw0 : (.fieldLink RX3 41 "WeightedClauses" "search" "LWeightedClauses$Search;" : Cond).before _ s = true := hts _ (List.mem_cons_of_mem _ wd_180)
  have hw1 : (.constantLong RX3 116 (-2) : Cond).before _ s = true := hts _ (List.mem_cons_of_mem _ wd_330)
  have hw2 : (.fieldLink RX3 112 "WeightedClauses$Search" "bestCost" "J" : Cond).before _ s = true := hts _ (List.mem_cons_of_mem _ wd_139)
  have hPr : va_P (dC, dI) vwCl [(ad 0, .inr (3, [.ref (ad 1), .ref (ad 5), .ref (ad 9)])), (ad 1, .inr (1, [.int (nI nv), .int av, .int (nI nc), .ref (ad 2), .ref (ad 3), .ref (ad 4)])), (ad 2, .inl (cI, 40, .inl mt)), (ad 3, .inl (cI, 40, .inl mf)), (ad 4, .inl (cI, 40, .inl wt))] s.heap := hP0.sub [0, 1, 2, 3, 4] rfl
  have hP : va_P (dC, dI) vwCl [(ad 5, .inr (0, [.ref (ad 1), .ref (ad 6), .int (nI sc), .long avl, .int gh, .int gv, .ref (ad 7), .ref (ad 8), .int (nI st)])), (ad 6, .inl (cL, 40, .inr (.inl ss))), (ad 7, .inl (cI, 10, .inl sv)), (ad 8, .inl (cI, 10, .inl (xnI sr))), (ad 9, .inr (2, [.int nd, .int (nI lc), .long bc, .int bv, .ref (ad 10), .ref (ad 11), .ref (ad 12), .ref (ad 1), .ref (ad 5), .ref (ad 13), .ref (ad 14), .int (nI wc)])), (ad 10, .inl (cI, lz, .inl lh)), (ad 11, .inl (cI, lz, .inl lw)), (ad 12, .inl (cL, lz, .inr (.inl lb))), (ad 13, .inl (cI, 11, .inl wh)), (ad 14, .inl (cI, 11, .inl wv))] s.heap := hP0.sub [5, 6, 7, 8, 9, 10, 11, 12, 13, 14] rfl
  have hS : va_S (xA ad [5, 6, 7, 8, 9, 10, 11, 12, 13, 14]) s.heap s.heap [] := va_S.rf
  have hl := lv_entry [.ref (ad 0)] (n := 1) (Nat.le_of_ble_eq_true rfl)
  rw [lg_entry_eq]
  generalize (lg_sl [.ref (ad 0)] ++ List.replicate (1 - (lg_sl [.ref (ad 0)]).length) Slot.unset).toArray = ls at hl ⊢
  have hl : lv_has ls 1 [(0, .ref (ad 0))] := hl
  have hF := Eq.refl (f_solve nv av nc mt mf wt lz ss sc avl gh gv sv sr st nd lc bc bv lh lw lb wh wv wc)
  conv at hF => rhs; unfold f_solve
  refine lv_aload_n hx hb dX3_solve_0 rfl (lv_at hl 0 rfl) ?_
  have hR := xP0 hPr (xnA hinj [0, 1, 2, 3, 4] rfl (by decide)) hS
  refine va_get (D := (dC, dI)) (ci := 3) (v := .ref (ad 9)) (C := RX3) (T := TX3) (N := 3) hx hb hts (xcons inX3) hown hK hR 0 rfl rfl 2 (by decide) hw0 (fun _ h9 => h9) rfl dX3_solve_1 ?_
  refine xrw_v (va_runV (As := []) (rest := []) ⟨hx, hb, hml, hown, hts⟩ (c_run l dC dI cI cL cZ ad hinj nv av nc mt mf wt ss sc avl gh gv sv sr st lz nd lc bc bv lh lw lb wh wv wc (by omega) (by omega) (by omega) (by omega) (by omega)) (xcwV 0 hts wd_216 wd_38 wd_213 wd_214 wd_215 rfl rfl (by decide +kernel) ⟨Nat.le_of_ble_eq_true rfl, Nat.le_of_ble_eq_true rfl⟩) (xpreV (va_recv hK hP rfl (q0 := 4) rfl) ((hR.app hP).sub [1, 2, 3, 4, 5, 6, 7, 8, 9, 10, 11, 12, 13, 14] rfl) hK) rfl rfl hl.1 rfl (lv_room (Nat.le_of_ble_eq_true rfl)) dX3_solve_4 ⟨Nat.le_of_ble_eq_true rfl, Nat.le_of_ble_eq_true rfl⟩) hS (xAsub (by decide)) (fun u H locs h1 hB hk hS => ?_)
  obtain ⟨ss1_4, sc1_4, avl1_4, gh1_4, gv1_4, sv1_4, sr1_4, st1_4, nd1_4, lc1_4, bc1_4, bv1_4, lh1_4, lw1_4, lb1_4, wh1_4, wv1_4, wc1_4⟩ := u
  have hP : va_P (dC, dI) vwCl [(ad 5, .inr (0, [.ref (ad 1), .ref (ad 6), .int (nI sc1_4), .long avl1_4, .int gh1_4, .int gv1_4, .ref (ad 7), .ref (ad 8), .int (nI st1_4)])), (ad 6, .inl (cL, 40, .inr (.inl ss1_4))), (ad 7, .inl (cI, 10, .inl sv1_4)), (ad 8, .inl (cI, 10, .inl (xnI sr1_4))), (ad 9, .inr (2, [.int nd1_4, .int (nI lc1_4), .long bc1_4, .int bv1_4, .ref (ad 10), .ref (ad 11), .ref (ad 12), .ref (ad 1), .ref (ad 5), .ref (ad 13), .ref (ad 14), .int (nI wc1_4)])), (ad 10, .inl (cI, lz, .inl lh1_4)), (ad 11, .inl (cI, lz, .inl lw1_4)), (ad 12, .inl (cL, lz, .inr (.inl lb1_4))), (ad 13, .inl (cI, 11, .inl wh1_4)), (ad 14, .inl (cI, 11, .inl wv1_4))] H := va_P.sub hB [0, 1, 2, 3, 4, 5, 6, 7, 8, 9] rfl
  rw [h1] at hF
  try dsimp only at hF
  refine lv_aload_n hx hb dX3_solve_7 rfl (lv_at hl 0 rfl) ?_
  have hR := xP0 hPr (xnA hinj [0, 1, 2, 3, 4] rfl (by decide)) hS
  refine va_get (D := (dC, dI)) (ci := 3) (v := .ref (ad 9)) (C := RX3) (T := TX3) (N := 3) hx hb hts (xcons inX3) hown hK hR 0 rfl rfl 2 (by decide) hw0 (fun _ h9 => h9) rfl dX3_solve_8 ?_
  refine xro_i (va_runV (As := []) (rest := []) ⟨hx, hb, hml, hown, hts⟩ (c_hasBest l dC dI cI cL cZ ad hinj lz nd1_4 lc1_4 bc1_4 bv1_4 lh1_4 lw1_4 lb1_4 wh1_4 wv1_4 wc1_4) (xcwV 0 hts wd_243 wd_38 wd_329 wd_241 wd_242 rfl rfl (by decide +kernel) ⟨Nat.le_of_ble_eq_true rfl, Nat.le_of_ble_eq_true rfl⟩) (xpreV (va_recv hK hP rfl (q0 := 4) rfl) (hP.sub [4, 5, 6, 7, 8, 9] rfl) hK) rfl rfl hl.1 rfl (lv_room (Nat.le_of_ble_eq_true rfl)) dX3_solve_11 ⟨Nat.le_of_ble_eq_true rfl, Nat.le_of_ble_eq_true rfl⟩) hS (fun H locs hk hS => ?_)
  have hP := xkeep hP hk
  refine lv_if_eq (tgt := 27) hx hb dX3_solve_14 (by decide) (fun h2 => ?_) (fun h2 => ?_)
  · have hF := hF.trans (if_pos h2)
    refine lv_ldc2 hx hb hown hw1 dX3_solve_27 ?_
    exact W.lret (v := (-2)) hx hb hr (fun t ht hW => ⟨⟨_, (ss1_4, sc1_4, avl1_4, gh1_4, gv1_4, sv1_4, sr1_4, st1_4, nd1_4, lc1_4, bc1_4, bv1_4, lh1_4, lw1_4, lb1_4, wh1_4, wv1_4, wc1_4), rfl, hF, xBi ht hP⟩, hS.F ht⟩) hS.2.2 dX3_solve_30
  · have hF := hF.trans (if_neg h2)
    refine lv_aload_n hx hb dX3_solve_17 rfl (lv_at hl 0 rfl) ?_
    have hR := xP0 hPr (xnA hinj [0, 1, 2, 3, 4] rfl (by decide)) hS
    refine va_get (D := (dC, dI)) (ci := 3) (v := .ref (ad 9)) (C := RX3) (T := TX3) (N := 3) hx hb hts (xcons inX3) hown hK hR 0 rfl rfl 2 (by decide) hw0 (fun _ h9 => h9) rfl dX3_solve_18 ?_
    refine va_get (D := (dC, dI)) (ci := 2) (v := .long bc1_4) (C := RX2) (T := TX2) (N := 12) hx hb hts (xcons inX2) hown hK hP 4 rfl rfl 2 (by decide) hw2 (fun _ h9 => h9) rfl dX3_solve_21 ?_
    refine lv_goto (tgt := 30) hx hb dX3_solve_24 (by decide) ?_
    exact W.lret (v := bc1_4) hx hb hr (fun t ht hW => ⟨⟨_, (ss1_4, sc1_4, avl1_4, gh1_4, gv1_4, sv1_4, sr1_4, st1_4, nd1_4, lc1_4, bc1_4, bv1_4, lh1_4, lw1_4, lb1_4, wh1_4, wv1_4, wc1_4), rfl, hF, xBi ht hP⟩, hS.F ht⟩) hS.2.2 dX3_solve_30
