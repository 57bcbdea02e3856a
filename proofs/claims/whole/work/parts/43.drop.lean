def f_removeLast (nc : Nat) (mt mf wt : Nat → Int32) : Int32 × Nat × (Nat → Int32) × (Nat → Int32) × (Nat → Int32) :=
  ((nI (nc - 1)), ((nc - 1), mt, mf, wt))
def f_drop (nc : Nat) (mt mf wt : Nat → Int32) (nd : Int32) (lc : Nat) (bc : Int64) (bv : Int32) (wc : Nat) : Int32 × Nat × (Nat → Int32) × (Nat → Int32) × (Nat → Int32) × Int32 × Nat × Int64 × Int32 × Nat :=
  if (nI nc) = 0 then
    ((-1), (nc, mt, mf, wt, nd, lc, bc, bv, wc))
  else
    match f_forget with
    | (nd1_16, lc1_16, bc1_16, bv1_16, wc1_16) =>
      match (f_removeLast nc mt mf wt) with
      | (r_23, nc1_23, mt1_23, mf1_23, wt1_23) =>
        (r_23, (nc1_23, mt1_23, mf1_23, wt1_23, nd1_16, lc1_16, bc1_16, bv1_16, wc1_16))
set_option maxHeartbeats 4000000 in
set_option maxRecDepth 100000 in
theorem c_removeLast (l : Launch) (dC : Nat → ClassId) (dI : Nat → Nat → Nat) (cI cL cZ : ClassId) (ad : Nat → Nat) (hinj : xI ad 15) (nv : Nat) (av : Int32) (nc : Nat) (mt mf wt : Nat → Int32) (hnc : nc ≤ 40) : Met l yX1_removeLast wsX1_removeLast ({ frames := 1, cells := 0, slots := 0, locals := 14 }) (va_Pc [.ref (ad 1)] (fun U => va_P (dC, dI) vwCl [(ad 1, .inr (1, [.int (nI nv), .int av, .int (nI nc), .ref (ad 2), .ref (ad 3), .ref (ad 4)])), (ad 2, .inl (cI, 40, .inl mt)), (ad 3, .inl (cI, 40, .inl mf)), (ad 4, .inl (cI, 40, .inl wt))] U.heap ∧ va_K (dC, dI) vwCl [(cI, .int), (cL, .long), (cZ, .boolean)] U)) (va_Qi (fun r u => f_removeLast nc mt mf wt = (r, u)) (xB (dC, dI) vwCl (fun (u : Nat × (Nat → Int32) × (Nat → Int32) × (Nat → Int32)) => match u with | (nc1, mt1, mf1, wt1) => [(ad 1, .inr (1, [.int (nI nv), .int av, .int (nI nc1), .ref (ad 2), .ref (ad 3), .ref (ad 4)])), (ad 2, .inl (cI, 40, .inl mt1)), (ad 3, .inl (cI, 40, .inl mf1)), (ad 4, .inl (cI, 40, .inl wt1))])) (xA ad [1, 2, 3, 4])) 0 0 (xA ad [1, 2, 3, 4]) := by
  refine Met.ofW (cc := cX1_removeLast) (maxL := 1) (ret := (some .int)) (by decide) rfl ?_
  intro p e s m args below meth c s₁ B hml hvv
  obtain ⟨rfl, hP0, hK⟩ := hvv
  have hx := B.exec
  have hb := B.bytes
  have hr := B.returns
  have hts := atoms_spec (ws := wsX1_removeLast) B.pre
  have hown : s.vm.findClass RX1 = some m.cls := findClass_of_methodNamed B.named
  have hlocks := B.notSynchronized
  have hw0 : (.fieldLink RX1 28 "WeightedClauses$Formula" "clauseCount" "I" : Cond).before _ s = true := hts _ (List.mem_cons_of_mem _ wd_72)
  have hw1 : (.methodLink RX1 31 Lib.Math.max.name : Cond).before _ s = true := hts _ (List.mem_cons_of_mem _ wd_204)
  have hw2 : (.static Lib.Math.max.name : Cond).before _ s = true := hts _ (List.mem_cons_of_mem _ wd_60)
  have hw3 : (.initialized "java/lang/Math" : Cond).before _ s = true := hts _ (List.mem_cons_of_mem _ wd_36)
  have hcw4 := hts (.code Lib.Math.max.name Lib.Math.max.code 2 (some .int)) (by decide +kernel)
  have hP : va_P (dC, dI) vwCl [(ad 1, .inr (1, [.int (nI nv), .int av, .int (nI nc), .ref (ad 2), .ref (ad 3), .ref (ad 4)])), (ad 2, .inl (cI, 40, .inl mt)), (ad 3, .inl (cI, 40, .inl mf)), (ad 4, .inl (cI, 40, .inl wt))] s.heap := hP0.sub [0, 1, 2, 3] rfl
  have hS : va_S (xA ad [1, 2, 3, 4]) s.heap s.heap [] := va_S.rf
  have hl := lv_entry [.ref (ad 1)] (n := 1) (Nat.le_of_ble_eq_true rfl)
  rw [lg_entry_eq]
  generalize (lg_sl [.ref (ad 1)] ++ List.replicate (1 - (lg_sl [.ref (ad 1)]).length) Slot.unset).toArray = ls at hl ⊢
  have hl : lv_has ls 1 [(0, .ref (ad 1))] := hl
  have hF := Eq.refl (f_removeLast nc mt mf wt)
  conv at hF => rhs; unfold f_removeLast
  refine lv_aload_n hx hb dX1_removeLast_0 rfl (lv_at hl 0 rfl) ?_
  refine lv_iconst (v := 0) hx hb dX1_removeLast_1 (by decide) ?_
  refine lv_aload_n hx hb dX1_removeLast_2 rfl (lv_at hl 0 rfl) ?_
  refine va_get (D := (dC, dI)) (ci := 1) (v := .int (nI nc)) (C := RX1) (T := TX1) (N := 6) hx hb hts (xcons inX1) hown hK hP 0 rfl rfl 2 (by decide) hw0 (fun _ h9 => h9) rfl dX1_removeLast_3 ?_
  refine lv_iconst (v := 1) hx hb dX1_removeLast_6 (by decide) ?_
  refine lv_isub hx hb dX1_removeLast_7 ?_
  refine va_mmax hx hb (hml.trans hl.1.symm) hown hw1 hw2 hw3 hcw4 (Nat.le_of_ble_eq_true rfl) (Nat.le_of_ble_eq_true rfl) (Nat.zero_le _) (Nat.zero_le _) dX1_removeLast_8 ?_
  rw [xmaxpred hnc]
  refine va_put (D := (dC, dI)) (ci := 1) (v := .int (nI (nc - 1))) (ty := .int) (C := RX1) (T := TX1) (N := 6) hx hb hts (xcons inX1) tyX1 tyX1_ok nX1 hown hK hP (xD hinj [1, 2, 3, 4] rfl (by decide) (by decide)) hS 0 rfl rfl 2 (by decide) hw0 (fun _ h9 => h9) rfl (by decide +kernel) rfl rfl (Nat.le_of_ble_eq_true rfl) dX1_removeLast_11 (fun H locs hP _ hS => ?_)
  have hP : va_P (dC, dI) vwCl [(ad 1, .inr (1, [.int (nI nv), .int av, .int (nI (nc - 1)), .ref (ad 2), .ref (ad 3), .ref (ad 4)])), (ad 2, .inl (cI, 40, .inl mt)), (ad 3, .inl (cI, 40, .inl mf)), (ad 4, .inl (cI, 40, .inl wt))] H := hP
  refine lv_aload_n hx hb dX1_removeLast_14 rfl (lv_at hl 0 rfl) ?_
  refine va_get (D := (dC, dI)) (ci := 1) (v := .int (nI (nc - 1))) (C := RX1) (T := TX1) (N := 6) hx hb hts (xcons inX1) hown hK hP 0 rfl rfl 2 (by decide) hw0 (fun _ h9 => h9) rfl dX1_removeLast_15 ?_
  exact W.iret (v := (nI (nc - 1))) hx hb hr (fun t ht hW => ⟨⟨_, ((nc - 1), mt, mf, wt), rfl, hF, xBi ht hP⟩, hS.F ht⟩) hS.2.2 dX1_removeLast_18
set_option maxHeartbeats 4000000 in
set_option maxRecDepth 100000 in
theorem c_drop (l : Launch) (dC : Nat → ClassId) (dI : Nat → Nat → Nat) (cI cL cZ : ClassId) (ad : Nat → Nat) (hinj : xI ad 15) (nv : Nat) (av : Int32) (nc : Nat) (mt mf wt : Nat → Int32) (lz : Nat) (nd : Int32) (lc : Nat) (bc : Int64) (bv : Int32) (lh lw : Nat → Int32) (lb : Nat → Int64) (wh wv : Nat → Int32) (wc : Nat) (hnc : nc ≤ 40) : Met l yX3_drop wsX3_drop ({ frames := 2, cells := 0, slots := 0, locals := 34 }) (va_Pc [.ref (ad 0)] (fun U => va_P (dC, dI) vwCl [(ad 0, .inr (3, [.ref (ad 1), .ref (ad 5), .ref (ad 9)])), (ad 1, .inr (1, [.int (nI nv), .int av, .int (nI nc), .ref (ad 2), .ref (ad 3), .ref (ad 4)])), (ad 2, .inl (cI, 40, .inl mt)), (ad 3, .inl (cI, 40, .inl mf)), (ad 4, .inl (cI, 40, .inl wt)), (ad 9, .inr (2, [.int nd, .int (nI lc), .long bc, .int bv, .ref (ad 10), .ref (ad 11), .ref (ad 12), .ref (ad 1), .ref (ad 5), .ref (ad 13), .ref (ad 14), .int (nI wc)])), (ad 10, .inl (cI, lz, .inl lh)), (ad 11, .inl (cI, lz, .inl lw)), (ad 12, .inl (cL, lz, .inr (.inl lb))), (ad 13, .inl (cI, 11, .inl wh)), (ad 14, .inl (cI, 11, .inl wv))] U.heap ∧ va_K (dC, dI) vwCl [(cI, .int), (cL, .long), (cZ, .boolean)] U)) (va_Qi (fun r u => f_drop nc mt mf wt nd lc bc bv wc = (r, u)) (xB (dC, dI) vwCl (fun (u : Nat × (Nat → Int32) × (Nat → Int32) × (Nat → Int32) × Int32 × Nat × Int64 × Int32 × Nat) => match u with | (nc1, mt1, mf1, wt1, nd1, lc1, bc1, bv1, wc1) => [(ad 1, .inr (1, [.int (nI nv), .int av, .int (nI nc1), .ref (ad 2), .ref (ad 3), .ref (ad 4)])), (ad 2, .inl (cI, 40, .inl mt1)), (ad 3, .inl (cI, 40, .inl mf1)), (ad 4, .inl (cI, 40, .inl wt1)), (ad 9, .inr (2, [.int nd1, .int (nI lc1), .long bc1, .int bv1, .ref (ad 10), .ref (ad 11), .ref (ad 12), .ref (ad 1), .ref (ad 5), .ref (ad 13), .ref (ad 14), .int (nI wc1)])), (ad 10, .inl (cI, lz, .inl lh)), (ad 11, .inl (cI, lz, .inl lw)), (ad 12, .inl (cL, lz, .inr (.inl lb))), (ad 13, .inl (cI, 11, .inl wh)), (ad 14, .inl (cI, 11, .inl wv))])) (xA ad [1, 2, 3, 4, 9, 10, 11, 12, 13, 14])) 0 0 (xA ad [1, 2, 3, 4, 9, 10, 11, 12, 13, 14]) := by
  refine Met.ofW (cc := cX3_drop) (maxL := 1) (ret := (some .int)) (by decide) rfl ?_
  intro p e s m args below meth c s₁ B hml hvv
  obtain ⟨rfl, hP0, hK⟩ := hvv
  have hx := B.exec
  have hb := B.bytes
  have hr := B.returns
  have hts := atoms_spec (ws := wsX3_drop) B.pre
  have hown : s.vm.findClass RX3 = some m.cls := findClass_of_methodNamed B.named
  have hlocks := B.notSynchronized
  have hw0 : (.fieldLink RX3 23 "WeightedClauses" "formula" "LWeightedClauses$Formula;" : Cond).before _ s = true := hts _ (List.mem_cons_of_mem _ wd_178)
  have hw1 : (.fieldLink RX3 60 "WeightedClauses$Formula" "clauseCount" "I" : Cond).before _ s = true := hts _ (List.mem_cons_of_mem _ wd_73)
  have hw2 : (.fieldLink RX3 41 "WeightedClauses" "search" "LWeightedClauses$Search;" : Cond).before _ s = true := hts _ (List.mem_cons_of_mem _ wd_180)
  have hPr : va_P (dC, dI) vwCl [(ad 0, .inr (3, [.ref (ad 1), .ref (ad 5), .ref (ad 9)]))] s.heap := hP0.sub [0] rfl
  have hP : va_P (dC, dI) vwCl [(ad 1, .inr (1, [.int (nI nv), .int av, .int (nI nc), .ref (ad 2), .ref (ad 3), .ref (ad 4)])), (ad 2, .inl (cI, 40, .inl mt)), (ad 3, .inl (cI, 40, .inl mf)), (ad 4, .inl (cI, 40, .inl wt)), (ad 9, .inr (2, [.int nd, .int (nI lc), .long bc, .int bv, .ref (ad 10), .ref (ad 11), .ref (ad 12), .ref (ad 1), .ref (ad 5), .ref (ad 13), .ref (ad 14), .int (nI wc)])), (ad 10, .inl (cI, lz, .inl lh)), (ad 11, .inl (cI, lz, .inl lw)), (ad 12, .inl (cL, lz, .inr (.inl lb))), (ad 13, .inl (cI, 11, .inl wh)), (ad 14, .inl (cI, 11, .inl wv))] s.heap := hP0.sub [1, 2, 3, 4, 5, 6, 7, 8, 9, 10] rfl
  have hS : va_S (xA ad [1, 2, 3, 4, 9, 10, 11, 12, 13, 14]) s.heap s.heap [] := va_S.rf
  have hl := lv_entry [.ref (ad 0)] (n := 1) (Nat.le_of_ble_eq_true rfl)
  rw [lg_entry_eq]
  generalize (lg_sl [.ref (ad 0)] ++ List.replicate (1 - (lg_sl [.ref (ad 0)]).length) Slot.unset).toArray = ls at hl ⊢
  have hl : lv_has ls 1 [(0, .ref (ad 0))] := hl
  have hF := Eq.refl (f_drop nc mt mf wt nd lc bc bv wc)
  conv at hF => rhs; unfold f_drop
  refine lv_aload_n hx hb dX3_drop_0 rfl (lv_at hl 0 rfl) ?_
  have hR := xP0 hPr (xnA hinj [0] rfl (by decide)) hS
  refine va_get (D := (dC, dI)) (ci := 3) (v := .ref (ad 1)) (C := RX3) (T := TX3) (N := 3) hx hb hts (xcons inX3) hown hK hR 0 rfl rfl 0 (by decide) hw0 (fun _ h9 => h9) rfl dX3_drop_1 ?_
  refine va_get (D := (dC, dI)) (ci := 1) (v := .int (nI nc)) (C := RX1) (T := TX1) (N := 6) hx hb hts (xcons inX1) hown hK hP 0 rfl rfl 2 (by decide) hw1 (fun _ h9 => h9) rfl dX3_drop_4 ?_
  refine lv_if_ne (tgt := 12) hx hb dX3_drop_7 (by decide) (fun h1 => ?_) (fun h1 => ?_)
  · have hF := hF.trans (if_neg h1)
    refine lv_aload_n hx hb dX3_drop_12 rfl (lv_at hl 0 rfl) ?_
    refine va_get (D := (dC, dI)) (ci := 3) (v := .ref (ad 9)) (C := RX3) (T := TX3) (N := 3) hx hb hts (xcons inX3) hown hK hR 0 rfl rfl 2 (by decide) hw2 (fun _ h9 => h9) rfl dX3_drop_13 ?_
    refine xrw_v (va_runV (As := []) (rest := []) ⟨hx, hb, hml, hown, hts⟩ (c_forget l dC dI cI cL cZ ad hinj lz nd lc bc bv lh lw lb wh wv wc) (xcwV 0 hts wd_199 wd_38 wd_196 wd_197 wd_198 rfl rfl (by decide +kernel) ⟨Nat.le_of_ble_eq_true rfl, Nat.le_of_ble_eq_true rfl⟩) (xpreV (va_recv hK hP rfl (q0 := 4) rfl) (hP.sub [4, 5, 6, 7, 8, 9] rfl) hK) rfl rfl hl.1 rfl (lv_room (Nat.le_of_ble_eq_true rfl)) dX3_drop_16 ⟨Nat.le_of_ble_eq_true rfl, Nat.le_of_ble_eq_true rfl⟩) hS (xAsub (by decide)) (fun u H locs h2 hB hk hS => ?_)
    obtain ⟨nd1_16, lc1_16, bc1_16, bv1_16, wc1_16⟩ := u
    have hP : va_P (dC, dI) vwCl [(ad 1, .inr (1, [.int (nI nv), .int av, .int (nI nc), .ref (ad 2), .ref (ad 3), .ref (ad 4)])), (ad 2, .inl (cI, 40, .inl mt)), (ad 3, .inl (cI, 40, .inl mf)), (ad 4, .inl (cI, 40, .inl wt)), (ad 9, .inr (2, [.int nd1_16, .int (nI lc1_16), .long bc1_16, .int bv1_16, .ref (ad 10), .ref (ad 11), .ref (ad 12), .ref (ad 1), .ref (ad 5), .ref (ad 13), .ref (ad 14), .int (nI wc1_16)])), (ad 10, .inl (cI, lz, .inl lh)), (ad 11, .inl (cI, lz, .inl lw)), (ad 12, .inl (cL, lz, .inr (.inl lb))), (ad 13, .inl (cI, 11, .inl wh)), (ad 14, .inl (cI, 11, .inl wv))] H := ((xkeepA hP hk [0, 1, 2, 3] rfl (xnA hinj [1, 2, 3, 4] rfl (by decide))).app hB).sub [0, 1, 2, 3, 4, 5, 6, 7, 8, 9] rfl
    rw [h2] at hF
    try dsimp only at hF
    refine lv_aload_n hx hb dX3_drop_19 rfl (lv_at hl 0 rfl) ?_
    have hR := xP0 hPr (xnA hinj [0] rfl (by decide)) hS
    refine va_get (D := (dC, dI)) (ci := 3) (v := .ref (ad 1)) (C := RX3) (T := TX3) (N := 3) hx hb hts (xcons inX3) hown hK hR 0 rfl rfl 0 (by decide) hw0 (fun _ h9 => h9) rfl dX3_drop_20 ?_
    refine xrw_i (va_runV (As := []) (rest := []) ⟨hx, hb, hml, hown, hts⟩ (c_removeLast l dC dI cI cL cZ ad hinj nv av nc mt mf wt (by omega)) (xcwV 0 hts wd_203 wd_35 wd_200 wd_201 wd_202 rfl rfl (by decide +kernel) ⟨Nat.le_of_ble_eq_true rfl, Nat.le_of_ble_eq_true rfl⟩) (xpreV (va_recv hK hP rfl (q0 := 0) rfl) (hP.sub [0, 1, 2, 3] rfl) hK) rfl rfl hl.1 rfl (lv_room (Nat.le_of_ble_eq_true rfl)) dX3_drop_23 ⟨Nat.le_of_ble_eq_true rfl, Nat.le_of_ble_eq_true rfl⟩) hS (xAsub (by decide)) (fun r_23 u H locs h3 hB hk hS => ?_)
    obtain ⟨nc1_23, mt1_23, mf1_23, wt1_23⟩ := u
    have hP : va_P (dC, dI) vwCl [(ad 1, .inr (1, [.int (nI nv), .int av, .int (nI nc1_23), .ref (ad 2), .ref (ad 3), .ref (ad 4)])), (ad 2, .inl (cI, 40, .inl mt1_23)), (ad 3, .inl (cI, 40, .inl mf1_23)), (ad 4, .inl (cI, 40, .inl wt1_23)), (ad 9, .inr (2, [.int nd1_16, .int (nI lc1_16), .long bc1_16, .int bv1_16, .ref (ad 10), .ref (ad 11), .ref (ad 12), .ref (ad 1), .ref (ad 5), .ref (ad 13), .ref (ad 14), .int (nI wc1_16)])), (ad 10, .inl (cI, lz, .inl lh)), (ad 11, .inl (cI, lz, .inl lw)), (ad 12, .inl (cL, lz, .inr (.inl lb))), (ad 13, .inl (cI, 11, .inl wh)), (ad 14, .inl (cI, 11, .inl wv))] H := ((xkeepA hP hk [4, 5, 6, 7, 8, 9] rfl (xnA hinj [9, 10, 11, 12, 13, 14] rfl (by decide))).app hB).sub [6, 7, 8, 9, 0, 1, 2, 3, 4, 5] rfl
    rw [h3] at hF
    try dsimp only at hF
    exact W.iret (v := r_23) hx hb hr (fun t ht hW => ⟨⟨_, (nc1_23, mt1_23, mf1_23, wt1_23, nd1_16, lc1_16, bc1_16, bv1_16, wc1_16), rfl, hF, xBi ht hP⟩, hS.F ht⟩) hS.2.2 dX3_drop_26
  · have hF := hF.trans (if_pos h1)
    refine lv_iconst (v := (-1)) hx hb dX3_drop_10 (by decide) ?_
    exact W.iret (v := (-1)) hx hb hr (fun t ht hW => ⟨⟨_, (nc, mt, mf, wt, nd, lc, bc, bv, wc), rfl, hF, xBi ht hP⟩, hS.F ht⟩) hS.2.2 dX3_drop_11
