def f_clause (nc : Nat) (mt mf wt : Nat → Int32) (w a1 a2 a3 a4 : Int32) : Int32 × Nat × (Nat → Int32) × (Nat → Int32) × (Nat → Int32) × Int32 × Nat × Int64 × Int32 × Nat :=
  match f_forget with
  | (nd1_52, lc1_52, bc1_52, bv1_52, wc1_52) =>
    match (f_add nc mt mf wt w ((((f_bitIfTrue a1) ||| (f_bitIfTrue a2)) ||| (f_bitIfTrue a3)) ||| (f_bitIfTrue a4)) ((((f_bitIfFalse a1) ||| (f_bitIfFalse a2)) ||| (f_bitIfFalse a3)) ||| (f_bitIfFalse a4))) with
    | (r_110, nc1_110, mt1_110, mf1_110, wt1_110) =>
      (r_110, (nc1_110, mt1_110, mf1_110, wt1_110, nd1_52, lc1_52, bc1_52, bv1_52, wc1_52))
set_option maxHeartbeats 4000000 in
set_option maxRecDepth 100000 in
theorem c_clause (l : Launch) (dC : Nat → ClassId) (dI : Nat → Nat → Nat) (cI cL cZ : ClassId) (ad : Nat → Nat) (hinj : xI ad 15) (nv : Nat) (av : Int32) (nc : Nat) (mt mf wt : Nat → Int32) (lz : Nat) (nd : Int32) (lc : Nat) (bc : Int64) (bv : Int32) (lh lw : Nat → Int32) (lb : Nat → Int64) (wh wv : Nat → Int32) (wc : Nat) (hnc : nc ≤ 40) (w a1 a2 a3 a4 : Int32) (hw : ¬ f_isWeight w = 0) (ha : ¬ f_areLiterals nv a1 a2 a3 a4 = 0) (hc : nI nc < 40) : Met l yX3_clause wsX3_clause ({ frames := 6, cells := 0, slots := 0, locals := 90 }) (va_Pc [.ref (ad 0), .int w, .int a1, .int a2, .int a3, .int a4] (fun U => va_P (dC, dI) vwCl [(ad 0, .inr (3, [.ref (ad 1), .ref (ad 5), .ref (ad 9)])), (ad 1, .inr (1, [.int (nI nv), .int av, .int (nI nc), .ref (ad 2), .ref (ad 3), .ref (ad 4)])), (ad 2, .inl (cI, 40, .inl mt)), (ad 3, .inl (cI, 40, .inl mf)), (ad 4, .inl (cI, 40, .inl wt)), (ad 9, .inr (2, [.int nd, .int (nI lc), .long bc, .int bv, .ref (ad 10), .ref (ad 11), .ref (ad 12), .ref (ad 1), .ref (ad 5), .ref (ad 13), .ref (ad 14), .int (nI wc)])), (ad 10, .inl (cI, lz, .inl lh)), (ad 11, .inl (cI, lz, .inl lw)), (ad 12, .inl (cL, lz, .inr (.inl lb))), (ad 13, .inl (cI, 11, .inl wh)), (ad 14, .inl (cI, 11, .inl wv))] U.heap ∧ va_K (dC, dI) vwCl [(cI, .int), (cL, .long), (cZ, .boolean)] U)) (va_Qi (fun r u => f_clause nc mt mf wt w a1 a2 a3 a4 = (r, u)) (xB (dC, dI) vwCl (fun (u : Nat × (Nat → Int32) × (Nat → Int32) × (Nat → Int32) × Int32 × Nat × Int64 × Int32 × Nat) => match u with | (nc1, mt1, mf1, wt1, nd1, lc1, bc1, bv1, wc1) => [(ad 1, .inr (1, [.int (nI nv), .int av, .int (nI nc1), .ref (ad 2), .ref (ad 3), .ref (ad 4)])), (ad 2, .inl (cI, 40, .inl mt1)), (ad 3, .inl (cI, 40, .inl mf1)), (ad 4, .inl (cI, 40, .inl wt1)), (ad 9, .inr (2, [.int nd1, .int (nI lc1), .long bc1, .int bv1, .ref (ad 10), .ref (ad 11), .ref (ad 12), .ref (ad 1), .ref (ad 5), .ref (ad 13), .ref (ad 14), .int (nI wc1)])), (ad 10, .inl (cI, lz, .inl lh)), (ad 11, .inl (cI, lz, .inl lw)), (ad 12, .inl (cL, lz, .inr (.inl lb))), (ad 13, .inl (cI, 11, .inl wh)), (ad 14, .inl (cI, 11, .inl wv))])) (xA ad [1, 2, 3, 4, 9, 10, 11, 12, 13, 14])) 0 0 (xA ad [1, 2, 3, 4, 9, 10, 11, 12, 13, 14]) := by
  refine Met.ofW (cc := cX3_clause) (maxL := 8) (ret := (some .int)) (by decide) rfl ?_
  intro p e s m args below meth c s₁ B hml hvv
  obtain ⟨rfl, hP0, hK⟩ := hvv
  have hx := B.exec
  have hb := B.bytes
  have hr := B.returns
  have hts := atoms_spec (ws := wsX3_clause) B.pre
  have hown : s.vm.findClass RX3 = some m.cls := findClass_of_methodNamed B.named
  have hlocks := B.notSynchronized
  have hw0 : (.fieldLink RX3 23 "WeightedClauses" "formula" "LWeightedClauses$Formula;" : Cond).before _ s = true := hts _ (List.mem_cons_of_mem _ wd_178)
  have hw1 : (.fieldLink RX3 60 "WeightedClauses$Formula" "clauseCount" "I" : Cond).before _ s = true := hts _ (List.mem_cons_of_mem _ wd_73)
  have hw2 : (.fieldLink RX3 41 "WeightedClauses" "search" "LWeightedClauses$Search;" : Cond).before _ s = true := hts _ (List.mem_cons_of_mem _ wd_180)
  have hPr : va_P (dC, dI) vwCl [(ad 0, .inr (3, [.ref (ad 1), .ref (ad 5), .ref (ad 9)]))] s.heap := hP0.sub [0] rfl
  have hP : va_P (dC, dI) vwCl [(ad 1, .inr (1, [.int (nI nv), .int av, .int (nI nc), .ref (ad 2), .ref (ad 3), .ref (ad 4)])), (ad 2, .inl (cI, 40, .inl mt)), (ad 3, .inl (cI, 40, .inl mf)), (ad 4, .inl (cI, 40, .inl wt)), (ad 9, .inr (2, [.int nd, .int (nI lc), .long bc, .int bv, .ref (ad 10), .ref (ad 11), .ref (ad 12), .ref (ad 1), .ref (ad 5), .ref (ad 13), .ref (ad 14), .int (nI wc)])), (ad 10, .inl (cI, lz, .inl lh)), (ad 11, .inl (cI, lz, .inl lw)), (ad 12, .inl (cL, lz, .inr (.inl lb))), (ad 13, .inl (cI, 11, .inl wh)), (ad 14, .inl (cI, 11, .inl wv))] s.heap := hP0.sub [1, 2, 3, 4, 5, 6, 7, 8, 9, 10] rfl
  have hS : va_S (xA ad [1, 2, 3, 4, 9, 10, 11, 12, 13, 14]) s.heap s.heap [] := va_S.rf
  have hl := lv_entry [.ref (ad 0), .int w, .int a1, .int a2, .int a3, .int a4] (n := 8) (Nat.le_of_ble_eq_true rfl)
  rw [lg_entry_eq]
  generalize (lg_sl [.ref (ad 0), .int w, .int a1, .int a2, .int a3, .int a4] ++ List.replicate (8 - (lg_sl [.ref (ad 0), .int w, .int a1, .int a2, .int a3, .int a4]).length) Slot.unset).toArray = ls at hl ⊢
  have hl : lv_has ls 8 [(0, .ref (ad 0)), (1, .int w), (2, .int a1), (3, .int a2), (4, .int a3), (5, .int a4)] := hl
  have hF := Eq.refl (f_clause nc mt mf wt w a1 a2 a3 a4)
  conv at hF => rhs; unfold f_clause
  refine lv_iload_n hx hb dX3_clause_0 rfl (lv_at hl 1 rfl) ?_
  have hR := xP0 hPr (xnA hinj [0] rfl (by decide)) hS
  refine xro_i (va_runS (As := [.int w]) (rest := []) ⟨hx, hb, hml, hown, hts⟩ (c_isWeight l dC dI cI cL cZ ad hinj w) (xcwS 1 hts wd_370 wd_34 wd_368 wd_369 rfl rfl (by decide +kernel) ⟨Nat.le_of_ble_eq_true rfl, Nat.le_of_ble_eq_true rfl⟩) (xpreS xPn hK) rfl rfl hl.1 rfl (lv_room (Nat.le_of_ble_eq_true rfl)) dX3_clause_1 ⟨Nat.le_of_ble_eq_true rfl, Nat.le_of_ble_eq_true rfl⟩) hS (fun H locs hk hS => ?_)
  have hP := xkeep hP hk
  refine lv_if_eq (tgt := 20) hx hb dX3_clause_4 (by decide) (fun h1 => absurd h1 hw) (fun h1 => ?_)
  refine lv_aload_n hx hb dX3_clause_7 rfl (lv_at hl 0 rfl) ?_
  refine lv_iload_n hx hb dX3_clause_8 rfl (lv_at hl 2 rfl) ?_
  refine lv_iload_n hx hb dX3_clause_9 rfl (lv_at hl 3 rfl) ?_
  refine lv_iload hx hb dX3_clause_10 (lv_at hl 4 rfl) ?_
  refine lv_iload hx hb dX3_clause_12 (lv_at hl 5 rfl) ?_
  have hR := xP0 hPr (xnA hinj [0] rfl (by decide)) hS
  refine xro_i (va_runV (As := [.int a1, .int a2, .int a3, .int a4]) (rest := []) ⟨hx, hb, hml, hown, hts⟩ (c_areLiterals l dC dI cI cL cZ ad hinj nv av nc mt mf wt a1 a2 a3 a4) (xcwV 4 hts wd_375 wd_34 wd_372 wd_374 wd_13 rfl rfl (by decide +kernel) ⟨Nat.le_of_ble_eq_true rfl, Nat.le_of_ble_eq_true rfl⟩) (xpreV (va_recv hK hR rfl (q0 := 0) rfl) ((hR.app hP).sub [0, 1, 2, 3, 4] rfl) hK) rfl rfl hl.1 rfl (lv_room (Nat.le_of_ble_eq_true rfl)) dX3_clause_14 ⟨Nat.le_of_ble_eq_true rfl, Nat.le_of_ble_eq_true rfl⟩) hS (fun H locs hk hS => ?_)
  have hP := xkeep hP hk
  refine lv_if_ne (tgt := 28) hx hb dX3_clause_17 (by decide) (fun h2 => ?_) (fun h2 => absurd h2 ha)
  refine lv_aload_n hx hb dX3_clause_28 rfl (lv_at hl 0 rfl) ?_
  have hR := xP0 hPr (xnA hinj [0] rfl (by decide)) hS
  refine va_get (D := (dC, dI)) (ci := 3) (v := .ref (ad 1)) (C := RX3) (T := TX3) (N := 3) hx hb hts (xcons inX3) hown hK hR 0 rfl rfl 0 (by decide) hw0 (fun _ h9 => h9) rfl dX3_clause_29 ?_
  refine va_get (D := (dC, dI)) (ci := 1) (v := .int (nI nc)) (C := RX1) (T := TX1) (N := 6) hx hb hts (xcons inX1) hown hK hP 0 rfl rfl 2 (by decide) hw1 (fun _ h9 => h9) rfl dX3_clause_32 ?_
  refine lv_bipush (v := 40) hx hb dX3_clause_35 (by decide) ?_
  refine lv_icmp_lt (tgt := 48) hx hb dX3_clause_37 (by decide) (fun h3 => ?_) (fun h3 => absurd hc h3)
  refine lv_aload_n hx hb dX3_clause_48 rfl (lv_at hl 0 rfl) ?_
  refine va_get (D := (dC, dI)) (ci := 3) (v := .ref (ad 9)) (C := RX3) (T := TX3) (N := 3) hx hb hts (xcons inX3) hown hK hR 0 rfl rfl 2 (by decide) hw2 (fun _ h9 => h9) rfl dX3_clause_49 ?_
  refine xrw_v (va_runV (As := []) (rest := []) ⟨hx, hb, hml, hown, hts⟩ (c_forget l dC dI cI cL cZ ad hinj lz nd lc bc bv lh lw lb wh wv wc) (xcwV 0 hts wd_199 wd_38 wd_196 wd_197 wd_198 rfl rfl (by decide +kernel) ⟨Nat.le_of_ble_eq_true rfl, Nat.le_of_ble_eq_true rfl⟩) (xpreV (va_recv hK hP rfl (q0 := 4) rfl) (hP.sub [4, 5, 6, 7, 8, 9] rfl) hK) rfl rfl hl.1 rfl (lv_room (Nat.le_of_ble_eq_true rfl)) dX3_clause_52 ⟨Nat.le_of_ble_eq_true rfl, Nat.le_of_ble_eq_true rfl⟩) hS (xAsub (by decide)) (fun u H locs h4 hB hk hS => ?_)
  obtain ⟨nd1_52, lc1_52, bc1_52, bv1_52, wc1_52⟩ := u
  have hP : va_P (dC, dI) vwCl [(ad 1, .inr (1, [.int (nI nv), .int av, .int (nI nc), .ref (ad 2), .ref (ad 3), .ref (ad 4)])), (ad 2, .inl (cI, 40, .inl mt)), (ad 3, .inl (cI, 40, .inl mf)), (ad 4, .inl (cI, 40, .inl wt)), (ad 9, .inr (2, [.int nd1_52, .int (nI lc1_52), .long bc1_52, .int bv1_52, .ref (ad 10), .ref (ad 11), .ref (ad 12), .ref (ad 1), .ref (ad 5), .ref (ad 13), .ref (ad 14), .int (nI wc1_52)])), (ad 10, .inl (cI, lz, .inl lh)), (ad 11, .inl (cI, lz, .inl lw)), (ad 12, .inl (cL, lz, .inr (.inl lb))), (ad 13, .inl (cI, 11, .inl wh)), (ad 14, .inl (cI, 11, .inl wv))] H := ((xkeepA hP hk [0, 1, 2, 3] rfl (xnA hinj [1, 2, 3, 4] rfl (by decide))).app hB).sub [0, 1, 2, 3, 4, 5, 6, 7, 8, 9] rfl
  rw [h4] at hF
  try dsimp only at hF
  refine lv_iload_n hx hb dX3_clause_55 rfl (lv_at hl 2 rfl) ?_
  have hR := xP0 hPr (xnA hinj [0] rfl (by decide)) hS
  refine xro_i (va_runS (As := [.int a1]) (rest := []) ⟨hx, hb, hml, hown, hts⟩ (c_bitIfTrue l dC dI cI cL cZ ad hinj a1) (xcwS 1 hts wd_388 wd_34 wd_386 wd_387 rfl rfl (by decide +kernel) ⟨Nat.le_of_ble_eq_true rfl, Nat.le_of_ble_eq_true rfl⟩) (xpreS xPn hK) rfl rfl hl.1 rfl (lv_room (Nat.le_of_ble_eq_true rfl)) dX3_clause_56 ⟨Nat.le_of_ble_eq_true rfl, Nat.le_of_ble_eq_true rfl⟩) hS (fun H locs hk hS => ?_)
  have hP := xkeep hP hk
  refine lv_iload_n hx hb dX3_clause_59 rfl (lv_at hl 3 rfl) ?_
  have hR := xP0 hPr (xnA hinj [0] rfl (by decide)) hS
  refine xro_i (va_runS (As := [.int a2]) (rest := [.int (f_bitIfTrue a1)]) ⟨hx, hb, hml, hown, hts⟩ (c_bitIfTrue l dC dI cI cL cZ ad hinj a2) (xcwS 1 hts wd_388 wd_34 wd_386 wd_387 rfl rfl (by decide +kernel) ⟨Nat.le_of_ble_eq_true rfl, Nat.le_of_ble_eq_true rfl⟩) (xpreS xPn hK) rfl rfl hl.1 rfl (lv_room (Nat.le_of_ble_eq_true rfl)) dX3_clause_60 ⟨Nat.le_of_ble_eq_true rfl, Nat.le_of_ble_eq_true rfl⟩) hS (fun H locs hk hS => ?_)
  have hP := xkeep hP hk
  refine lv_ior hx hb dX3_clause_63 ?_
  refine lv_iload hx hb dX3_clause_64 (lv_at hl 4 rfl) ?_
  have hR := xP0 hPr (xnA hinj [0] rfl (by decide)) hS
  refine xro_i (va_runS (As := [.int a3]) (rest := [.int ((f_bitIfTrue a1) ||| (f_bitIfTrue a2))]) ⟨hx, hb, hml, hown, hts⟩ (c_bitIfTrue l dC dI cI cL cZ ad hinj a3) (xcwS 1 hts wd_388 wd_34 wd_386 wd_387 rfl rfl (by decide +kernel) ⟨Nat.le_of_ble_eq_true rfl, Nat.le_of_ble_eq_true rfl⟩) (xpreS xPn hK) rfl rfl hl.1 rfl (lv_room (Nat.le_of_ble_eq_true rfl)) dX3_clause_66 ⟨Nat.le_of_ble_eq_true rfl, Nat.le_of_ble_eq_true rfl⟩) hS (fun H locs hk hS => ?_)
  have hP := xkeep hP hk
  refine lv_ior hx hb dX3_clause_69 ?_
  refine lv_iload hx hb dX3_clause_70 (lv_at hl 5 rfl) ?_
  have hR := xP0 hPr (xnA hinj [0] rfl (by decide)) hS
  refine xro_i (va_runS (As := [.int a4]) (rest := [.int (((f_bitIfTrue a1) ||| (f_bitIfTrue a2)) ||| (f_bitIfTrue a3))]) ⟨hx, hb, hml, hown, hts⟩ (c_bitIfTrue l dC dI cI cL cZ ad hinj a4) (xcwS 1 hts wd_388 wd_34 wd_386 wd_387 rfl rfl (by decide +kernel) ⟨Nat.le_of_ble_eq_true rfl, Nat.le_of_ble_eq_true rfl⟩) (xpreS xPn hK) rfl rfl hl.1 rfl (lv_room (Nat.le_of_ble_eq_true rfl)) dX3_clause_72 ⟨Nat.le_of_ble_eq_true rfl, Nat.le_of_ble_eq_true rfl⟩) hS (fun H locs hk hS => ?_)
  have hP := xkeep hP hk
  refine lv_ior hx hb dX3_clause_75 ?_
  refine lv_istore (lv' := [(6, .int ((((f_bitIfTrue a1) ||| (f_bitIfTrue a2)) ||| (f_bitIfTrue a3)) ||| (f_bitIfTrue a4))), (0, .ref (ad 0)), (1, .int w), (2, .int a1), (3, .int a2), (4, .int a3), (5, .int a4)]) hx hb dX3_clause_76 hl (by decide) rfl (fun ls hl => ?_)
  refine lv_iload_n hx hb dX3_clause_78 rfl (lv_at hl 3 rfl) ?_
  have hR := xP0 hPr (xnA hinj [0] rfl (by decide)) hS
  refine xro_i (va_runS (As := [.int a1]) (rest := []) ⟨hx, hb, hml, hown, hts⟩ (c_bitIfFalse l dC dI cI cL cZ ad hinj a1) (xcwS 1 hts wd_391 wd_34 wd_389 wd_390 rfl rfl (by decide +kernel) ⟨Nat.le_of_ble_eq_true rfl, Nat.le_of_ble_eq_true rfl⟩) (xpreS xPn hK) rfl rfl hl.1 rfl (lv_room (Nat.le_of_ble_eq_true rfl)) dX3_clause_79 ⟨Nat.le_of_ble_eq_true rfl, Nat.le_of_ble_eq_true rfl⟩) hS (fun H locs hk hS => ?_)
  have hP := xkeep hP hk
  refine lv_iload_n hx hb dX3_clause_82 rfl (lv_at hl 4 rfl) ?_
  have hR := xP0 hPr (xnA hinj [0] rfl (by decide)) hS
  refine xro_i (va_runS (As := [.int a2]) (rest := [.int (f_bitIfFalse a1)]) ⟨hx, hb, hml, hown, hts⟩ (c_bitIfFalse l dC dI cI cL cZ ad hinj a2) (xcwS 1 hts wd_391 wd_34 wd_389 wd_390 rfl rfl (by decide +kernel) ⟨Nat.le_of_ble_eq_true rfl, Nat.le_of_ble_eq_true rfl⟩) (xpreS xPn hK) rfl rfl hl.1 rfl (lv_room (Nat.le_of_ble_eq_true rfl)) dX3_clause_83 ⟨Nat.le_of_ble_eq_true rfl, Nat.le_of_ble_eq_true rfl⟩) hS (fun H locs hk hS => ?_)
  have hP := xkeep hP hk
  refine lv_ior hx hb dX3_clause_86 ?_
  refine lv_iload hx hb dX3_clause_87 (lv_at hl 5 rfl) ?_
  have hR := xP0 hPr (xnA hinj [0] rfl (by decide)) hS
  refine xro_i (va_runS (As := [.int a3]) (rest := [.int ((f_bitIfFalse a1) ||| (f_bitIfFalse a2))]) ⟨hx, hb, hml, hown, hts⟩ (c_bitIfFalse l dC dI cI cL cZ ad hinj a3) (xcwS 1 hts wd_391 wd_34 wd_389 wd_390 rfl rfl (by decide +kernel) ⟨Nat.le_of_ble_eq_true rfl, Nat.le_of_ble_eq_true rfl⟩) (xpreS xPn hK) rfl rfl hl.1 rfl (lv_room (Nat.le_of_ble_eq_true rfl)) dX3_clause_89 ⟨Nat.le_of_ble_eq_true rfl, Nat.le_of_ble_eq_true rfl⟩) hS (fun H locs hk hS => ?_)
  have hP := xkeep hP hk
  refine lv_ior hx hb dX3_clause_92 ?_
  refine lv_iload hx hb dX3_clause_93 (lv_at hl 6 rfl) ?_
  have hR := xP0 hPr (xnA hinj [0] rfl (by decide)) hS
  refine xro_i (va_runS (As := [.int a4]) (rest := [.int (((f_bitIfFalse a1) ||| (f_bitIfFalse a2)) ||| (f_bitIfFalse a3))]) ⟨hx, hb, hml, hown, hts⟩ (c_bitIfFalse l dC dI cI cL cZ ad hinj a4) (xcwS 1 hts wd_391 wd_34 wd_389 wd_390 rfl rfl (by decide +kernel) ⟨Nat.le_of_ble_eq_true rfl, Nat.le_of_ble_eq_true rfl⟩) (xpreS xPn hK) rfl rfl hl.1 rfl (lv_room (Nat.le_of_ble_eq_true rfl)) dX3_clause_95 ⟨Nat.le_of_ble_eq_true rfl, Nat.le_of_ble_eq_true rfl⟩) hS (fun H locs hk hS => ?_)
  have hP := xkeep hP hk
  refine lv_ior hx hb dX3_clause_98 ?_
  refine lv_istore (lv' := [(7, .int ((((f_bitIfFalse a1) ||| (f_bitIfFalse a2)) ||| (f_bitIfFalse a3)) ||| (f_bitIfFalse a4))), (6, .int ((((f_bitIfTrue a1) ||| (f_bitIfTrue a2)) ||| (f_bitIfTrue a3)) ||| (f_bitIfTrue a4))), (0, .ref (ad 0)), (1, .int w), (2, .int a1), (3, .int a2), (4, .int a3), (5, .int a4)]) hx hb dX3_clause_99 hl (by decide) rfl (fun ls hl => ?_)
  refine lv_aload_n hx hb dX3_clause_101 rfl (lv_at hl 2 rfl) ?_
  have hR := xP0 hPr (xnA hinj [0] rfl (by decide)) hS
  refine va_get (D := (dC, dI)) (ci := 3) (v := .ref (ad 1)) (C := RX3) (T := TX3) (N := 3) hx hb hts (xcons inX3) hown hK hR 0 rfl rfl 0 (by decide) hw0 (fun _ h9 => h9) rfl dX3_clause_102 ?_
  refine lv_iload_n hx hb dX3_clause_105 rfl (lv_at hl 3 rfl) ?_
  refine lv_iload hx hb dX3_clause_106 (lv_at hl 1 rfl) ?_
  refine lv_iload hx hb dX3_clause_108 (lv_at hl 0 rfl) ?_
  refine xrw_i (va_runV (As := [.int w, .int ((((f_bitIfTrue a1) ||| (f_bitIfTrue a2)) ||| (f_bitIfTrue a3)) ||| (f_bitIfTrue a4)), .int ((((f_bitIfFalse a1) ||| (f_bitIfFalse a2)) ||| (f_bitIfFalse a3)) ||| (f_bitIfFalse a4))]) (rest := []) ⟨hx, hb, hml, hown, hts⟩ (c_add l dC dI cI cL cZ ad hinj nv av nc mt mf wt (by omega) w ((((f_bitIfTrue a1) ||| (f_bitIfTrue a2)) ||| (f_bitIfTrue a3)) ||| (f_bitIfTrue a4)) ((((f_bitIfFalse a1) ||| (f_bitIfFalse a2)) ||| (f_bitIfFalse a3)) ||| (f_bitIfFalse a4))) (xcwV 3 hts wd_473 wd_35 wd_470 wd_471 wd_472 rfl rfl (by decide +kernel) ⟨Nat.le_of_ble_eq_true rfl, Nat.le_of_ble_eq_true rfl⟩) (xpreV (va_recv hK hP rfl (q0 := 0) rfl) (hP.sub [0, 1, 2, 3] rfl) hK) rfl rfl hl.1 rfl (lv_room (Nat.le_of_ble_eq_true rfl)) dX3_clause_110 ⟨Nat.le_of_ble_eq_true rfl, Nat.le_of_ble_eq_true rfl⟩) hS (xAsub (by decide)) (fun r_110 u H locs h5 hB hk hS => ?_)
  obtain ⟨nc1_110, mt1_110, mf1_110, wt1_110⟩ := u
  have hP : va_P (dC, dI) vwCl [(ad 1, .inr (1, [.int (nI nv), .int av, .int (nI nc1_110), .ref (ad 2), .ref (ad 3), .ref (ad 4)])), (ad 2, .inl (cI, 40, .inl mt1_110)), (ad 3, .inl (cI, 40, .inl mf1_110)), (ad 4, .inl (cI, 40, .inl wt1_110)), (ad 9, .inr (2, [.int nd1_52, .int (nI lc1_52), .long bc1_52, .int bv1_52, .ref (ad 10), .ref (ad 11), .ref (ad 12), .ref (ad 1), .ref (ad 5), .ref (ad 13), .ref (ad 14), .int (nI wc1_52)])), (ad 10, .inl (cI, lz, .inl lh)), (ad 11, .inl (cI, lz, .inl lw)), (ad 12, .inl (cL, lz, .inr (.inl lb))), (ad 13, .inl (cI, 11, .inl wh)), (ad 14, .inl (cI, 11, .inl wv))] H := ((xkeepA hP hk [4, 5, 6, 7, 8, 9] rfl (xnA hinj [9, 10, 11, 12, 13, 14] rfl (by decide))).app hB).sub [6, 7, 8, 9, 0, 1, 2, 3, 4, 5] rfl
  rw [h5] at hF
  try dsimp only at hF
  exact W.iret (v := r_110) hx hb hr (fun t ht hW => ⟨⟨_, (nc1_110, mt1_110, mf1_110, wt1_110, nd1_52, lc1_52, bc1_52, bv1_52, wc1_52), rfl, hF, xBi ht hP⟩, hS.F ht⟩) hS.2.2 dX3_clause_113
