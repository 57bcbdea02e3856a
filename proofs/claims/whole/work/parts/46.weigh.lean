def f_weigh (nc : Nat) (mt mf wt : Nat → Int32) (k w : Int32) : Int32 × Nat × (Nat → Int32) × (Nat → Int32) × (Nat → Int32) × Int32 × Nat × Int64 × Int32 × Nat :=
  match f_forget with
  | (nd1_34, lc1_34, bc1_34, bv1_34, wc1_34) =>
    match (f_replaceWeight nc mt mf wt k w) with
    | (r_43, nc1_43, mt1_43, mf1_43, wt1_43) =>
      (r_43, (nc1_43, mt1_43, mf1_43, wt1_43, nd1_34, lc1_34, bc1_34, bv1_34, wc1_34))



set_option maxHeartbeats 4000000 in
set_option maxRecDepth 100000 in
theorem c_weigh (l : Launch) (dC : Nat → ClassId) (dI : Nat → Nat → Nat) (cI cL cZ : ClassId) (ad : Nat → Nat) (hinj : xI ad 15) (nv : Nat) (av : Int32) (nc : Nat) (mt mf wt : Nat → Int32) (lz : Nat) (nd : Int32) (lc : Nat) (bc : Int64) (bv : Int32) (lh lw : Nat → Int32) (lb : Nat → Int64) (wh wv : Nat → Int32) (wc : Nat) (hnc : nc ≤ 40) (k w : Int32) (hk1 : ¬ k < 0) (hk2 : ¬ nI nc ≤ k) (hw : ¬ f_isWeight w = 0) : Met l yX3_weigh wsX3_weigh ({ frames := 6, cells := 0, slots := 0, locals := 90 }) (va_Pc [.ref (ad 0), .int k, .int w] (fun U => va_P (dC, dI) vwCl [(ad 0, .inr (3, [.ref (ad 1), .ref (ad 5), .ref (ad 9)])), (ad 1, .inr (1, [.int (nI nv), .int av, .int (nI nc), .ref (ad 2), .ref (ad 3), .ref (ad 4)])), (ad 2, .inl (cI, 40, .inl mt)), (ad 3, .inl (cI, 40, .inl mf)), (ad 4, .inl (cI, 40, .inl wt)), (ad 9, .inr (2, [.int nd, .int (nI lc), .long bc, .int bv, .ref (ad 10), .ref (ad 11), .ref (ad 12), .ref (ad 1), .ref (ad 5), .ref (ad 13), .ref (ad 14), .int (nI wc)])), (ad 10, .inl (cI, lz, .inl lh)), (ad 11, .inl (cI, lz, .inl lw)), (ad 12, .inl (cL, lz, .inr (.inl lb))), (ad 13, .inl (cI, 11, .inl wh)), (ad 14, .inl (cI, 11, .inl wv))] U.heap ∧ va_K (dC, dI) vwCl [(cI, .int), (cL, .long), (cZ, .boolean)] U)) (va_Qi (fun r u => f_weigh nc mt mf wt k w = (r, u)) (xB (dC, dI) vwCl (fun (u : Nat × (Nat → Int32) × (Nat → Int32) × (Nat → Int32) × Int32 × Nat × Int64 × Int32 × Nat) => match u with | (nc1, mt1, mf1, wt1, nd1, lc1, bc1, bv1, wc1) => [(ad 1, .inr (1, [.int (nI nv), .int av, .int (nI nc1), .ref (ad 2), .ref (ad 3), .ref (ad 4)])), (ad 2, .inl (cI, 40, .inl mt1)), (ad 3, .inl (cI, 40, .inl mf1)), (ad 4, .inl (cI, 40, .inl wt1)), (ad 9, .inr (2, [.int nd1, .int (nI lc1), .long bc1, .int bv1, .ref (ad 10), .ref (ad 11), .ref (ad 12), .ref (ad 1), .ref (ad 5), .ref (ad 13), .ref (ad 14), .int (nI wc1)])), (ad 10, .inl (cI, lz, .inl lh)), (ad 11, .inl (cI, lz, .inl lw)), (ad 12, .inl (cL, lz, .inr (.inl lb))), (ad 13, .inl (cI, 11, .inl wh)), (ad 14, .inl (cI, 11, .inl wv))])) (xA ad [1, 2, 3, 4, 9, 10, 11, 12, 13, 14])) 0 0 (xA ad [1, 2, 3, 4, 9, 10, 11, 12, 13, 14]) := by
  refine Met.ofW (cc := cX3_weigh) (maxL := 3) (ret := (some .int)) (by decide) rfl ?_
  intro p e s m args below meth c s₁ B hml hvv
  obtain ⟨rfl, hP0, hK⟩ := hvv
  have hx := B.exec
  have hb := B.bytes
  have hr := B.returns
  have hts := atoms_spec (ws := wsX3_weigh) B.pre
  have hown : s.vm.findClass RX3 = some m.cls := findClass_of_methodNamed B.named
  have hlocks := B.notSynchronized
  have hw0 : (.fieldLink RX3 23 "WeightedClauses" "formula" "LWeightedClauses$Formula;" : Cond).before _ s = true := hts _ (List.mem_cons_of_mem _ wd_178)
  have hw1 : (.fieldLink RX3 60 "WeightedClauses$Formula" "clauseCount" "I" : Cond).before _ s = true := hts _ (List.mem_cons_of_mem _ wd_73)
  have hw2 : (.fieldLink RX3 41 "WeightedClauses" "search" "LWeightedClauses$Search;" : Cond).before _ s = true := hts _ (List.mem_cons_of_mem _ wd_180)
  have hPr : va_P (dC, dI) vwCl [(ad 0, .inr (3, [.ref (ad 1), .ref (ad 5), .ref (ad 9)]))] s.heap := hP0.sub [0] rfl
  have hP : va_P (dC, dI) vwCl [(ad 1, .inr (1, [.int (nI nv), .int av, .int (nI nc), .ref (ad 2), .ref (ad 3), .ref (ad 4)])), (ad 2, .inl (cI, 40, .inl mt)), (ad 3, .inl (cI, 40, .inl mf)), (ad 4, .inl (cI, 40, .inl wt)), (ad 9, .inr (2, [.int nd, .int (nI lc), .long bc, .int bv, .ref (ad 10), .ref (ad 11), .ref (ad 12), .ref (ad 1), .ref (ad 5), .ref (ad 13), .ref (ad 14), .int (nI wc)])), (ad 10, .inl (cI, lz, .inl lh)), (ad 11, .inl (cI, lz, .inl lw)), (ad 12, .inl (cL, lz, .inr (.inl lb))), (ad 13, .inl (cI, 11, .inl wh)), (ad 14, .inl (cI, 11, .inl wv))] s.heap := hP0.sub [1, 2, 3, 4, 5, 6, 7, 8, 9, 10] rfl
  have hS : va_S (xA ad [1, 2, 3, 4, 9, 10, 11, 12, 13, 14]) s.heap s.heap [] := va_S.rf
  have hl := lv_entry [.ref (ad 0), .int k, .int w] (n := 3) (Nat.le_of_ble_eq_true rfl)
  rw [lg_entry_eq]
  generalize (lg_sl [.ref (ad 0), .int k, .int w] ++ List.replicate (3 - (lg_sl [.ref (ad 0), .int k, .int w]).length) Slot.unset).toArray = ls at hl ⊢
  have hl : lv_has ls 3 [(0, .ref (ad 0)), (1, .int k), (2, .int w)] := hl
  have hF := Eq.refl (f_weigh nc mt mf wt k w)
  conv at hF => rhs; unfold f_weigh
  refine lv_iload_n hx hb dX3_weigh_0 rfl (lv_at hl 1 rfl) ?_
  refine lv_if_lt (tgt := 22) hx hb dX3_weigh_1 (by decide) (fun h1 => absurd h1 hk1) (fun h1 => ?_)
  refine lv_iload_n hx hb dX3_weigh_4 rfl (lv_at hl 1 rfl) ?_
  refine lv_aload_n hx hb dX3_weigh_5 rfl (lv_at hl 0 rfl) ?_
  have hR := xP0 hPr (xnA hinj [0] rfl (by decide)) hS
  refine va_get (D := (dC, dI)) (ci := 3) (v := .ref (ad 1)) (C := RX3) (T := TX3) (N := 3) hx hb hts (xcons inX3) hown hK hR 0 rfl rfl 0 (by decide) hw0 (fun _ h9 => h9) rfl dX3_weigh_6 ?_
  refine va_get (D := (dC, dI)) (ci := 1) (v := .int (nI nc)) (C := RX1) (T := TX1) (N := 6) hx hb hts (xcons inX1) hown hK hP 0 rfl rfl 2 (by decide) hw1 (fun _ h9 => h9) rfl dX3_weigh_9 ?_
  refine lv_icmp_ge (tgt := 22) hx hb dX3_weigh_12 (by decide) (fun h2 => absurd h2 hk2) (fun h2 => ?_)
  refine lv_iload_n hx hb dX3_weigh_15 rfl (lv_at hl 2 rfl) ?_
  refine xro_i (va_runS (As := [.int w]) (rest := []) ⟨hx, hb, hml, hown, hts⟩ (c_isWeight l dC dI cI cL cZ ad hinj w) (xcwS 1 hts wd_370 wd_34 wd_368 wd_369 rfl rfl (by decide +kernel) ⟨Nat.le_of_ble_eq_true rfl, Nat.le_of_ble_eq_true rfl⟩) (xpreS xPn hK) rfl rfl hl.1 rfl (lv_room (Nat.le_of_ble_eq_true rfl)) dX3_weigh_16 ⟨Nat.le_of_ble_eq_true rfl, Nat.le_of_ble_eq_true rfl⟩) hS (fun H locs hk hS => ?_)
  have hP := xkeep hP hk
  refine lv_if_ne (tgt := 30) hx hb dX3_weigh_19 (by decide) (fun h3 => ?_) (fun h3 => absurd h3 hw)
  refine lv_aload_n hx hb dX3_weigh_30 rfl (lv_at hl 0 rfl) ?_
  have hR := xP0 hPr (xnA hinj [0] rfl (by decide)) hS
  refine va_get (D := (dC, dI)) (ci := 3) (v := .ref (ad 9)) (C := RX3) (T := TX3) (N := 3) hx hb hts (xcons inX3) hown hK hR 0 rfl rfl 2 (by decide) hw2 (fun _ h9 => h9) rfl dX3_weigh_31 ?_
  refine xrw_v (va_runV (As := []) (rest := []) ⟨hx, hb, hml, hown, hts⟩ (c_forget l dC dI cI cL cZ ad hinj lz nd lc bc bv lh lw lb wh wv wc) (xcwV 0 hts wd_199 wd_38 wd_196 wd_197 wd_198 rfl rfl (by decide +kernel) ⟨Nat.le_of_ble_eq_true rfl, Nat.le_of_ble_eq_true rfl⟩) (xpreV (va_recv hK hP rfl (q0 := 4) rfl) (hP.sub [4, 5, 6, 7, 8, 9] rfl) hK) rfl rfl hl.1 rfl (lv_room (Nat.le_of_ble_eq_true rfl)) dX3_weigh_34 ⟨Nat.le_of_ble_eq_true rfl, Nat.le_of_ble_eq_true rfl⟩) hS (xAsub (by decide)) (fun u H locs h4 hB hk hS => ?_)
  obtain ⟨nd1_34, lc1_34, bc1_34, bv1_34, wc1_34⟩ := u
  have hP : va_P (dC, dI) vwCl [(ad 1, .inr (1, [.int (nI nv), .int av, .int (nI nc), .ref (ad 2), .ref (ad 3), .ref (ad 4)])), (ad 2, .inl (cI, 40, .inl mt)), (ad 3, .inl (cI, 40, .inl mf)), (ad 4, .inl (cI, 40, .inl wt)), (ad 9, .inr (2, [.int nd1_34, .int (nI lc1_34), .long bc1_34, .int bv1_34, .ref (ad 10), .ref (ad 11), .ref (ad 12), .ref (ad 1), .ref (ad 5), .ref (ad 13), .ref (ad 14), .int (nI wc1_34)])), (ad 10, .inl (cI, lz, .inl lh)), (ad 11, .inl (cI, lz, .inl lw)), (ad 12, .inl (cL, lz, .inr (.inl lb))), (ad 13, .inl (cI, 11, .inl wh)), (ad 14, .inl (cI, 11, .inl wv))] H := ((xkeepA hP hk [0, 1, 2, 3] rfl (xnA hinj [1, 2, 3, 4] rfl (by decide))).app hB).sub [0, 1, 2, 3, 4, 5, 6, 7, 8, 9] rfl
  rw [h4] at hF
  try dsimp only at hF
  refine lv_aload_n hx hb dX3_weigh_37 rfl (lv_at hl 0 rfl) ?_
  have hR := xP0 hPr (xnA hinj [0] rfl (by decide)) hS
  refine va_get (D := (dC, dI)) (ci := 3) (v := .ref (ad 1)) (C := RX3) (T := TX3) (N := 3) hx hb hts (xcons inX3) hown hK hR 0 rfl rfl 0 (by decide) hw0 (fun _ h9 => h9) rfl dX3_weigh_38 ?_
  refine lv_iload_n hx hb dX3_weigh_41 rfl (lv_at hl 1 rfl) ?_
  refine lv_iload_n hx hb dX3_weigh_42 rfl (lv_at hl 2 rfl) ?_
  refine xrw_i (va_runV (As := [.int k, .int w]) (rest := []) ⟨hx, hb, hml, hown, hts⟩ (c_replaceWeight l dC dI cI cL cZ ad hinj nv av nc mt mf wt (by omega) k w hk1 hk2) (xcwV 2 hts wd_484 wd_35 wd_481 wd_482 wd_483 rfl rfl (by decide +kernel) ⟨Nat.le_of_ble_eq_true rfl, Nat.le_of_ble_eq_true rfl⟩) (xpreV (va_recv hK hP rfl (q0 := 0) rfl) (hP.sub [0, 1, 2, 3] rfl) hK) rfl rfl hl.1 rfl (lv_room (Nat.le_of_ble_eq_true rfl)) dX3_weigh_43 ⟨Nat.le_of_ble_eq_true rfl, Nat.le_of_ble_eq_true rfl⟩) hS (xAsub (by decide)) (fun r_43 u H locs h5 hB hk hS => ?_)
  obtain ⟨nc1_43, mt1_43, mf1_43, wt1_43⟩ := u
  have hP : va_P (dC, dI) vwCl [(ad 1, .inr (1, [.int (nI nv), .int av, .int (nI nc1_43), .ref (ad 2), .ref (ad 3), .ref (ad 4)])), (ad 2, .inl (cI, 40, .inl mt1_43)), (ad 3, .inl (cI, 40, .inl mf1_43)), (ad 4, .inl (cI, 40, .inl wt1_43)), (ad 9, .inr (2, [.int nd1_34, .int (nI lc1_34), .long bc1_34, .int bv1_34, .ref (ad 10), .ref (ad 11), .ref (ad 12), .ref (ad 1), .ref (ad 5), .ref (ad 13), .ref (ad 14), .int (nI wc1_34)])), (ad 10, .inl (cI, lz, .inl lh)), (ad 11, .inl (cI, lz, .inl lw)), (ad 12, .inl (cL, lz, .inr (.inl lb))), (ad 13, .inl (cI, 11, .inl wh)), (ad 14, .inl (cI, 11, .inl wv))] H := ((xkeepA hP hk [4, 5, 6, 7, 8, 9] rfl (xnA hinj [9, 10, 11, 12, 13, 14] rfl (by decide))).app hB).sub [6, 7, 8, 9, 0, 1, 2, 3, 4, 5] rfl
  rw [h5] at hF
  try dsimp only at hF
  exact W.iret (v := r_43) hx hb hr (fun t ht hW => ⟨⟨_, (nc1_43, mt1_43, mf1_43, wt1_43, nd1_34, lc1_34, bc1_34, bv1_34, wc1_34), rfl, hF, xBi ht hP⟩, hS.F ht⟩) hS.2.2 dX3_weigh_46
set_option maxHeartbeats 4000000 in
set_option maxRecDepth 100000 in
theorem c_weigh_x1 (l : Launch) (dC : Nat → ClassId) (dI : Nat → Nat → Nat) (cI cL cZ : ClassId) (ad : Nat → Nat) (hinj : xI ad 15) (hlt : ∀ e : Env, l.admits e → e.platform.stackTraces = false) (nv : Nat) (av : Int32) (nc : Nat) (mt mf wt : Nat → Int32) (lz : Nat) (nd : Int32) (lc : Nat) (bc : Int64) (bv : Int32) (lh lw : Nat → Int32) (lb : Nat → Int64) (wh wv : Nat → Int32) (wc : Nat) (hnc : nc ≤ 40) (k w : Int32) (hk1 : k < 0) : xThr l yX3_weigh wsX3_weigh ({ frames := 6, cells := 1, slots := 6, locals := 90 }) (va_Pc [.ref (ad 0), .int k, .int w] (fun U => va_P (dC, dI) vwCl [(ad 0, .inr (3, [.ref (ad 1), .ref (ad 5), .ref (ad 9)])), (ad 1, .inr (1, [.int (nI nv), .int av, .int (nI nc), .ref (ad 2), .ref (ad 3), .ref (ad 4)])), (ad 2, .inl (cI, 40, .inl mt)), (ad 3, .inl (cI, 40, .inl mf)), (ad 4, .inl (cI, 40, .inl wt)), (ad 9, .inr (2, [.int nd, .int (nI lc), .long bc, .int bv, .ref (ad 10), .ref (ad 11), .ref (ad 12), .ref (ad 1), .ref (ad 5), .ref (ad 13), .ref (ad 14), .int (nI wc)])), (ad 10, .inl (cI, lz, .inl lh)), (ad 11, .inl (cI, lz, .inl lw)), (ad 12, .inl (cL, lz, .inr (.inl lb))), (ad 13, .inl (cI, 11, .inl wh)), (ad 14, .inl (cI, 11, .inl wv))] U.heap ∧ va_K (dC, dI) vwCl [(cI, .int), (cL, .long), (cZ, .boolean)] U ∧ xEx U)) "java/lang/IllegalArgumentException" 1 6 := by
  refine xThr.ofW (cc := cX3_weigh) (maxL := 3) (ret := (some .int)) (by decide) rfl ?_
  intro p e s m args below meth c s₁ B hml hvv
  obtain ⟨rfl, hP0, hK, hE⟩ := hvv
  have hx := B.exec
  have hb := B.bytes
  have hr := B.returns
  have hts := atoms_spec (ws := wsX3_weigh) B.pre
  have hown : s.vm.findClass RX3 = some m.cls := findClass_of_methodNamed B.named
  have hlocks := B.notSynchronized
  have htb : c.exceptionTable.toList = [] := by have h9 := BodyLoose.noHandlers B (hts _ List.mem_cons_self); simpa [Array.isEmpty] using h9
  have hw0 : (.classLink RX3 57 "java/lang/IllegalArgumentException" : Cond).before _ s = true := hts _ (List.mem_cons_of_mem _ wd_393)
  have hw1 : (.initialized "java/lang/IllegalArgumentException" : Cond).before _ s = true := hts _ (List.mem_cons_of_mem _ wd_44)
  have hat := xat at_IAE hts hE
  have hPr : va_P (dC, dI) vwCl [(ad 0, .inr (3, [.ref (ad 1), .ref (ad 5), .ref (ad 9)])), (ad 1, .inr (1, [.int (nI nv), .int av, .int (nI nc), .ref (ad 2), .ref (ad 3), .ref (ad 4)])), (ad 2, .inl (cI, 40, .inl mt)), (ad 3, .inl (cI, 40, .inl mf)), (ad 4, .inl (cI, 40, .inl wt)), (ad 9, .inr (2, [.int nd, .int (nI lc), .long bc, .int bv, .ref (ad 10), .ref (ad 11), .ref (ad 12), .ref (ad 1), .ref (ad 5), .ref (ad 13), .ref (ad 14), .int (nI wc)])), (ad 10, .inl (cI, lz, .inl lh)), (ad 11, .inl (cI, lz, .inl lw)), (ad 12, .inl (cL, lz, .inr (.inl lb))), (ad 13, .inl (cI, 11, .inl wh)), (ad 14, .inl (cI, 11, .inl wv))] s.heap := hP0.sub [0, 1, 2, 3, 4, 5, 6, 7, 8, 9, 10] rfl
  have hS : va_S xN s.heap s.heap [] := va_S.rf
  have hl := lv_entry [.ref (ad 0), .int k, .int w] (n := 3) (Nat.le_of_ble_eq_true rfl)
  rw [lg_entry_eq]
  generalize (lg_sl [.ref (ad 0), .int k, .int w] ++ List.replicate (3 - (lg_sl [.ref (ad 0), .int k, .int w]).length) Slot.unset).toArray = ls at hl ⊢
  have hl : lv_has ls 3 [(0, .ref (ad 0)), (1, .int k), (2, .int w)] := hl
  refine lv_iload_n hx hb dX3_weigh_0 rfl (lv_at hl 1 rfl) ?_
  refine lv_if_lt (tgt := 22) hx hb dX3_weigh_1 (by decide) (fun h1 => ?_) (fun h1 => absurd hk1 h1)
  exact xthrow hx hb hlt hlocks (names := ["java/lang/RuntimeException", "java/lang/Exception"]) hown (by decide) (by decide) hw0 hw1 hat hS (hl.1.trans hml.symm) dX3_weigh_22 dX3_weigh_25 dX3_weigh_26 dX3_weigh_29 htb (by decide) (by decide) (Nat.le_of_ble_eq_true rfl) (Nat.le_of_ble_eq_true rfl) (Nat.le_of_ble_eq_true rfl) (Nat.le_of_ble_eq_true rfl)
set_option maxHeartbeats 4000000 in
set_option maxRecDepth 100000 in
theorem c_weigh_x2 (l : Launch) (dC : Nat → ClassId) (dI : Nat → Nat → Nat) (cI cL cZ : ClassId) (ad : Nat → Nat) (hinj : xI ad 15) (hlt : ∀ e : Env, l.admits e → e.platform.stackTraces = false) (nv : Nat) (av : Int32) (nc : Nat) (mt mf wt : Nat → Int32) (lz : Nat) (nd : Int32) (lc : Nat) (bc : Int64) (bv : Int32) (lh lw : Nat → Int32) (lb : Nat → Int64) (wh wv : Nat → Int32) (wc : Nat) (hnc : nc ≤ 40) (k w : Int32) (hk1 : ¬ k < 0) (hk2 : nI nc ≤ k) : xThr l yX3_weigh wsX3_weigh ({ frames := 6, cells := 1, slots := 6, locals := 90 }) (va_Pc [.ref (ad 0), .int k, .int w] (fun U => va_P (dC, dI) vwCl [(ad 0, .inr (3, [.ref (ad 1), .ref (ad 5), .ref (ad 9)])), (ad 1, .inr (1, [.int (nI nv), .int av, .int (nI nc), .ref (ad 2), .ref (ad 3), .ref (ad 4)])), (ad 2, .inl (cI, 40, .inl mt)), (ad 3, .inl (cI, 40, .inl mf)), (ad 4, .inl (cI, 40, .inl wt)), (ad 9, .inr (2, [.int nd, .int (nI lc), .long bc, .int bv, .ref (ad 10), .ref (ad 11), .ref (ad 12), .ref (ad 1), .ref (ad 5), .ref (ad 13), .ref (ad 14), .int (nI wc)])), (ad 10, .inl (cI, lz, .inl lh)), (ad 11, .inl (cI, lz, .inl lw)), (ad 12, .inl (cL, lz, .inr (.inl lb))), (ad 13, .inl (cI, 11, .inl wh)), (ad 14, .inl (cI, 11, .inl wv))] U.heap ∧ va_K (dC, dI) vwCl [(cI, .int), (cL, .long), (cZ, .boolean)] U ∧ xEx U)) "java/lang/IllegalArgumentException" 1 6 := by
  refine xThr.ofW (cc := cX3_weigh) (maxL := 3) (ret := (some .int)) (by decide) rfl ?_
  intro p e s m args below meth c s₁ B hml hvv
  obtain ⟨rfl, hP0, hK, hE⟩ := hvv
  have hx := B.exec
  have hb := B.bytes
  have hr := B.returns
  have hts := atoms_spec (ws := wsX3_weigh) B.pre
  have hown : s.vm.findClass RX3 = some m.cls := findClass_of_methodNamed B.named
  have hlocks := B.notSynchronized
  have htb : c.exceptionTable.toList = [] := by have h9 := BodyLoose.noHandlers B (hts _ List.mem_cons_self); simpa [Array.isEmpty] using h9
  have hw0 : (.fieldLink RX3 23 "WeightedClauses" "formula" "LWeightedClauses$Formula;" : Cond).before _ s = true := hts _ (List.mem_cons_of_mem _ wd_178)
  have hw1 : (.fieldLink RX3 60 "WeightedClauses$Formula" "clauseCount" "I" : Cond).before _ s = true := hts _ (List.mem_cons_of_mem _ wd_73)
  have hw2 : (.classLink RX3 57 "java/lang/IllegalArgumentException" : Cond).before _ s = true := hts _ (List.mem_cons_of_mem _ wd_393)
  have hw3 : (.initialized "java/lang/IllegalArgumentException" : Cond).before _ s = true := hts _ (List.mem_cons_of_mem _ wd_44)
  have hat := xat at_IAE hts hE
  have hPr : va_P (dC, dI) vwCl [(ad 0, .inr (3, [.ref (ad 1), .ref (ad 5), .ref (ad 9)])), (ad 1, .inr (1, [.int (nI nv), .int av, .int (nI nc), .ref (ad 2), .ref (ad 3), .ref (ad 4)])), (ad 2, .inl (cI, 40, .inl mt)), (ad 3, .inl (cI, 40, .inl mf)), (ad 4, .inl (cI, 40, .inl wt)), (ad 9, .inr (2, [.int nd, .int (nI lc), .long bc, .int bv, .ref (ad 10), .ref (ad 11), .ref (ad 12), .ref (ad 1), .ref (ad 5), .ref (ad 13), .ref (ad 14), .int (nI wc)])), (ad 10, .inl (cI, lz, .inl lh)), (ad 11, .inl (cI, lz, .inl lw)), (ad 12, .inl (cL, lz, .inr (.inl lb))), (ad 13, .inl (cI, 11, .inl wh)), (ad 14, .inl (cI, 11, .inl wv))] s.heap := hP0.sub [0, 1, 2, 3, 4, 5, 6, 7, 8, 9, 10] rfl
  have hS : va_S xN s.heap s.heap [] := va_S.rf
  have hl := lv_entry [.ref (ad 0), .int k, .int w] (n := 3) (Nat.le_of_ble_eq_true rfl)
  rw [lg_entry_eq]
  generalize (lg_sl [.ref (ad 0), .int k, .int w] ++ List.replicate (3 - (lg_sl [.ref (ad 0), .int k, .int w]).length) Slot.unset).toArray = ls at hl ⊢
  have hl : lv_has ls 3 [(0, .ref (ad 0)), (1, .int k), (2, .int w)] := hl
  refine lv_iload_n hx hb dX3_weigh_0 rfl (lv_at hl 1 rfl) ?_
  refine lv_if_lt (tgt := 22) hx hb dX3_weigh_1 (by decide) (fun h1 => absurd h1 hk1) (fun h1 => ?_)
  refine lv_iload_n hx hb dX3_weigh_4 rfl (lv_at hl 1 rfl) ?_
  refine lv_aload_n hx hb dX3_weigh_5 rfl (lv_at hl 0 rfl) ?_
  have hR := xP0 hPr xnN hS
  refine va_get (D := (dC, dI)) (ci := 3) (v := .ref (ad 1)) (C := RX3) (T := TX3) (N := 3) hx hb hts (xcons inX3) hown hK hR 0 rfl rfl 0 (by decide) hw0 (fun _ h9 => h9) rfl dX3_weigh_6 ?_
  refine va_get (D := (dC, dI)) (ci := 1) (v := .int (nI nc)) (C := RX1) (T := TX1) (N := 6) hx hb hts (xcons inX1) hown hK hR 1 rfl rfl 2 (by decide) hw1 (fun _ h9 => h9) rfl dX3_weigh_9 ?_
  refine lv_icmp_ge (tgt := 22) hx hb dX3_weigh_12 (by decide) (fun h2 => ?_) (fun h2 => absurd hk2 h2)
  exact xthrow hx hb hlt hlocks (names := ["java/lang/RuntimeException", "java/lang/Exception"]) hown (by decide) (by decide) hw2 hw3 hat hS (hl.1.trans hml.symm) dX3_weigh_22 dX3_weigh_25 dX3_weigh_26 dX3_weigh_29 htb (by decide) (by decide) (Nat.le_of_ble_eq_true rfl) (Nat.le_of_ble_eq_true rfl) (Nat.le_of_ble_eq_true rfl) (Nat.le_of_ble_eq_true rfl)
set_option maxHeartbeats 4000000 in
set_option maxRecDepth 100000 in
theorem c_weigh_x3 (l : Launch) (dC : Nat → ClassId) (dI : Nat → Nat → Nat) (cI cL cZ : ClassId) (ad : Nat → Nat) (hinj : xI ad 15) (hlt : ∀ e : Env, l.admits e → e.platform.stackTraces = false) (nv : Nat) (av : Int32) (nc : Nat) (mt mf wt : Nat → Int32) (lz : Nat) (nd : Int32) (lc : Nat) (bc : Int64) (bv : Int32) (lh lw : Nat → Int32) (lb : Nat → Int64) (wh wv : Nat → Int32) (wc : Nat) (hnc : nc ≤ 40) (k w : Int32) (hk1 : ¬ k < 0) (hk2 : ¬ nI nc ≤ k) (hw : f_isWeight w = 0) : xThr l yX3_weigh wsX3_weigh ({ frames := 6, cells := 1, slots := 6, locals := 90 }) (va_Pc [.ref (ad 0), .int k, .int w] (fun U => va_P (dC, dI) vwCl [(ad 0, .inr (3, [.ref (ad 1), .ref (ad 5), .ref (ad 9)])), (ad 1, .inr (1, [.int (nI nv), .int av, .int (nI nc), .ref (ad 2), .ref (ad 3), .ref (ad 4)])), (ad 2, .inl (cI, 40, .inl mt)), (ad 3, .inl (cI, 40, .inl mf)), (ad 4, .inl (cI, 40, .inl wt)), (ad 9, .inr (2, [.int nd, .int (nI lc), .long bc, .int bv, .ref (ad 10), .ref (ad 11), .ref (ad 12), .ref (ad 1), .ref (ad 5), .ref (ad 13), .ref (ad 14), .int (nI wc)])), (ad 10, .inl (cI, lz, .inl lh)), (ad 11, .inl (cI, lz, .inl lw)), (ad 12, .inl (cL, lz, .inr (.inl lb))), (ad 13, .inl (cI, 11, .inl wh)), (ad 14, .inl (cI, 11, .inl wv))] U.heap ∧ va_K (dC, dI) vwCl [(cI, .int), (cL, .long), (cZ, .boolean)] U ∧ xEx U)) "java/lang/IllegalArgumentException" 1 6 := by
  refine xThr.ofW (cc := cX3_weigh) (maxL := 3) (ret := (some .int)) (by decide) rfl ?_
  intro p e s m args below meth c s₁ B hml hvv
  obtain ⟨rfl, hP0, hK, hE⟩ := hvv
  have hx := B.exec
  have hb := B.bytes
  have hr := B.returns
  have hts := atoms_spec (ws := wsX3_weigh) B.pre
  have hown : s.vm.findClass RX3 = some m.cls := findClass_of_methodNamed B.named
  have hlocks := B.notSynchronized
  have htb : c.exceptionTable.toList = [] := by have h9 := BodyLoose.noHandlers B (hts _ List.mem_cons_self); simpa [Array.isEmpty] using h9
  have hw0 : (.fieldLink RX3 23 "WeightedClauses" "formula" "LWeightedClauses$Formula;" : Cond).before _ s = true := hts _ (List.mem_cons_of_mem _ wd_178)
  have hw1 : (.fieldLink RX3 60 "WeightedClauses$Formula" "clauseCount" "I" : Cond).before _ s = true := hts _ (List.mem_cons_of_mem _ wd_73)
  have hw2 : (.classLink RX3 57 "java/lang/IllegalArgumentException" : Cond).before _ s = true := hts _ (List.mem_cons_of_mem _ wd_393)
  have hw3 : (.initialized "java/lang/IllegalArgumentException" : Cond).before _ s = true := hts _ (List.mem_cons_of_mem _ wd_44)
  have hat := xat at_IAE hts hE
  have hPr : va_P (dC, dI) vwCl [(ad 0, .inr (3, [.ref (ad 1), .ref (ad 5), .ref (ad 9)])), (ad 1, .inr (1, [.int (nI nv), .int av, .int (nI nc), .ref (ad 2), .ref (ad 3), .ref (ad 4)])), (ad 2, .inl (cI, 40, .inl mt)), (ad 3, .inl (cI, 40, .inl mf)), (ad 4, .inl (cI, 40, .inl wt)), (ad 9, .inr (2, [.int nd, .int (nI lc), .long bc, .int bv, .ref (ad 10), .ref (ad 11), .ref (ad 12), .ref (ad 1), .ref (ad 5), .ref (ad 13), .ref (ad 14), .int (nI wc)])), (ad 10, .inl (cI, lz, .inl lh)), (ad 11, .inl (cI, lz, .inl lw)), (ad 12, .inl (cL, lz, .inr (.inl lb))), (ad 13, .inl (cI, 11, .inl wh)), (ad 14, .inl (cI, 11, .inl wv))] s.heap := hP0.sub [0, 1, 2, 3, 4, 5, 6, 7, 8, 9, 10] rfl
  have hS : va_S xN s.heap s.heap [] := va_S.rf
  have hl := lv_entry [.ref (ad 0), .int k, .int w] (n := 3) (Nat.le_of_ble_eq_true rfl)
  rw [lg_entry_eq]
  generalize (lg_sl [.ref (ad 0), .int k, .int w] ++ List.replicate (3 - (lg_sl [.ref (ad 0), .int k, .int w]).length) Slot.unset).toArray = ls at hl ⊢
  have hl : lv_has ls 3 [(0, .ref (ad 0)), (1, .int k), (2, .int w)] := hl
  refine lv_iload_n hx hb dX3_weigh_0 rfl (lv_at hl 1 rfl) ?_
  refine lv_if_lt (tgt := 22) hx hb dX3_weigh_1 (by decide) (fun h1 => absurd h1 hk1) (fun h1 => ?_)
  refine lv_iload_n hx hb dX3_weigh_4 rfl (lv_at hl 1 rfl) ?_
  refine lv_aload_n hx hb dX3_weigh_5 rfl (lv_at hl 0 rfl) ?_
  have hR := xP0 hPr xnN hS
  refine va_get (D := (dC, dI)) (ci := 3) (v := .ref (ad 1)) (C := RX3) (T := TX3) (N := 3) hx hb hts (xcons inX3) hown hK hR 0 rfl rfl 0 (by decide) hw0 (fun _ h9 => h9) rfl dX3_weigh_6 ?_
  refine va_get (D := (dC, dI)) (ci := 1) (v := .int (nI nc)) (C := RX1) (T := TX1) (N := 6) hx hb hts (xcons inX1) hown hK hR 1 rfl rfl 2 (by decide) hw1 (fun _ h9 => h9) rfl dX3_weigh_9 ?_
  refine lv_icmp_ge (tgt := 22) hx hb dX3_weigh_12 (by decide) (fun h2 => absurd h2 hk2) (fun h2 => ?_)
  refine lv_iload_n hx hb dX3_weigh_15 rfl (lv_at hl 2 rfl) ?_
  refine xro_i (va_runS (As := [.int w]) (rest := []) ⟨hx, hb, hml, hown, hts⟩ (c_isWeight l dC dI cI cL cZ ad hinj w) (xcwS 1 hts wd_370 wd_34 wd_368 wd_369 rfl rfl (by decide +kernel) ⟨Nat.le_of_ble_eq_true rfl, Nat.le_of_ble_eq_true rfl⟩) (xpreS xPn hK) rfl rfl hl.1 rfl (lv_room (Nat.le_of_ble_eq_true rfl)) dX3_weigh_16 ⟨Nat.le_of_ble_eq_true rfl, Nat.le_of_ble_eq_true rfl⟩) hS (fun H locs hk hS => ?_)
  refine lv_if_ne (tgt := 30) hx hb dX3_weigh_19 (by decide) (fun h3 => absurd hw h3) (fun h3 => ?_)
  exact xthrow hx hb hlt hlocks (names := ["java/lang/RuntimeException", "java/lang/Exception"]) hown (by decide) (by decide) hw2 hw3 hat hS (hl.1.trans hml.symm) dX3_weigh_22 dX3_weigh_25 dX3_weigh_26 dX3_weigh_29 htb (by decide) (by decide) (Nat.le_of_ble_eq_true rfl) (Nat.le_of_ble_eq_true rfl) (Nat.le_of_ble_eq_true rfl) (Nat.le_of_ble_eq_true rfl)
