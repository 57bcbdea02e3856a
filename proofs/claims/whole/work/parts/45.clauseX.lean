


set_option maxHeartbeats 4000000 in
set_option maxRecDepth 100000 in
theorem c_clause_x1 (l : Launch) (dC : Nat → ClassId) (dI : Nat → Nat → Nat) (cI cL cZ : ClassId) (ad : Nat → Nat) (hinj : xI ad 15) (hlt : ∀ e : Env, l.admits e → e.platform.stackTraces = false) (nv : Nat) (av : Int32) (nc : Nat) (mt mf wt : Nat → Int32) (lz : Nat) (nd : Int32) (lc : Nat) (bc : Int64) (bv : Int32) (lh lw : Nat → Int32) (lb : Nat → Int64) (wh wv : Nat → Int32) (wc : Nat) (hnc : nc ≤ 40) (w a1 a2 a3 a4 : Int32) (hw : f_isWeight w = 0) : xThr l yX3_clause wsX3_clause ({ frames := 6, cells := 1, slots := 6, locals := 90 }) (va_Pc [.ref (ad 0), .int w, .int a1, .int a2, .int a3, .int a4] (fun U => va_P (dC, dI) vwCl [(ad 0, .inr (3, [.ref (ad 1), .ref (ad 5), .ref (ad 9)])), (ad 1, .inr (1, [.int (nI nv), .int av, .int (nI nc), .ref (ad 2), .ref (ad 3), .ref (ad 4)])), (ad 2, .inl (cI, 40, .inl mt)), (ad 3, .inl (cI, 40, .inl mf)), (ad 4, .inl (cI, 40, .inl wt)), (ad 9, .inr (2, [.int nd, .int (nI lc), .long bc, .int bv, .ref (ad 10), .ref (ad 11), .ref (ad 12), .ref (ad 1), .ref (ad 5), .ref (ad 13), .ref (ad 14), .int (nI wc)])), (ad 10, .inl (cI, lz, .inl lh)), (ad 11, .inl (cI, lz, .inl lw)), (ad 12, .inl (cL, lz, .inr (.inl lb))), (ad 13, .inl (cI, 11, .inl wh)), (ad 14, .inl (cI, 11, .inl wv))] U.heap ∧ va_K (dC, dI) vwCl [(cI, .int), (cL, .long), (cZ, .boolean)] U ∧ xEx U)) "java/lang/IllegalArgumentException" 1 6 := by
  refine xThr.ofW (cc := cX3_clause) (maxL := 8) (ret := (some .int)) (by decide) rfl ?_
  intro p e s m args below meth c s₁ B hml hvv
  obtain ⟨rfl, hP0, hK, hE⟩ := hvv
  have hx := B.exec
  have hb := B.bytes
  have hr := B.returns
  have hts := atoms_spec (ws := wsX3_clause) B.pre
  have hown : s.vm.findClass RX3 = some m.cls := findClass_of_methodNamed B.named
  have hlocks := B.notSynchronized
  have htb : c.exceptionTable.toList = [] := by have h9 := BodyLoose.noHandlers B (hts _ List.mem_cons_self); simpa [Array.isEmpty] using h9
  have hw0 : (.classLink RX3 57 "java/lang/IllegalArgumentException" : Cond).before _ s = true := hts _ (List.mem_cons_of_mem _ wd_393)
  have hw1 : (.initialized "java/lang/IllegalArgumentException" : Cond).before _ s = true := hts _ (List.mem_cons_of_mem _ wd_44)
  have hat := xat at_IAE hts hE
  have hPr : va_P (dC, dI) vwCl [(ad 0, .inr (3, [.ref (ad 1), .ref (ad 5), .ref (ad 9)])), (ad 1, .inr (1, [.int (nI nv), .int av, .int (nI nc), .ref (ad 2), .ref (ad 3), .ref (ad 4)])), (ad 2, .inl (cI, 40, .inl mt)), (ad 3, .inl (cI, 40, .inl mf)), (ad 4, .inl (cI, 40, .inl wt)), (ad 9, .inr (2, [.int nd, .int (nI lc), .long bc, .int bv, .ref (ad 10), .ref (ad 11), .ref (ad 12), .ref (ad 1), .ref (ad 5), .ref (ad 13), .ref (ad 14), .int (nI wc)])), (ad 10, .inl (cI, lz, .inl lh)), (ad 11, .inl (cI, lz, .inl lw)), (ad 12, .inl (cL, lz, .inr (.inl lb))), (ad 13, .inl (cI, 11, .inl wh)), (ad 14, .inl (cI, 11, .inl wv))] s.heap := hP0.sub [0, 1, 2, 3, 4, 5, 6, 7, 8, 9, 10] rfl
  have hS : va_S xN s.heap s.heap [] := va_S.rf
  have hl := lv_entry [.ref (ad 0), .int w, .int a1, .int a2, .int a3, .int a4] (n := 8) (Nat.le_of_ble_eq_true rfl)
  rw [lg_entry_eq]
  generalize (lg_sl [.ref (ad 0), .int w, .int a1, .int a2, .int a3, .int a4] ++ List.replicate (8 - (lg_sl [.ref (ad 0), .int w, .int a1, .int a2, .int a3, .int a4]).length) Slot.unset).toArray = ls at hl ⊢
  have hl : lv_has ls 8 [(0, .ref (ad 0)), (1, .int w), (2, .int a1), (3, .int a2), (4, .int a3), (5, .int a4)] := hl
  refine lv_iload_n hx hb dX3_clause_0 rfl (lv_at hl 1 rfl) ?_
  have hR := xP0 hPr xnN hS
  refine xro_i (va_runS (As := [.int w]) (rest := []) ⟨hx, hb, hml, hown, hts⟩ (c_isWeight l dC dI cI cL cZ ad hinj w) (xcwS 1 hts wd_370 wd_34 wd_368 wd_369 rfl rfl (by decide +kernel) ⟨Nat.le_of_ble_eq_true rfl, Nat.le_of_ble_eq_true rfl⟩) (xpreS xPn hK) rfl rfl hl.1 rfl (lv_room (Nat.le_of_ble_eq_true rfl)) dX3_clause_1 ⟨Nat.le_of_ble_eq_true rfl, Nat.le_of_ble_eq_true rfl⟩) hS (fun H locs hk hS => ?_)
  refine lv_if_eq (tgt := 20) hx hb dX3_clause_4 (by decide) (fun h1 => ?_) (fun h1 => absurd hw h1)
  exact xthrow hx hb hlt hlocks (names := ["java/lang/RuntimeException", "java/lang/Exception"]) hown (by decide) (by decide) hw0 hw1 hat hS (hl.1.trans hml.symm) dX3_clause_20 dX3_clause_23 dX3_clause_24 dX3_clause_27 htb (by decide) (by decide) (Nat.le_of_ble_eq_true rfl) (Nat.le_of_ble_eq_true rfl) (Nat.le_of_ble_eq_true rfl) (Nat.le_of_ble_eq_true rfl)
set_option maxHeartbeats 4000000 in
set_option maxRecDepth 100000 in
theorem c_clause_x2 (l : Launch) (dC : Nat → ClassId) (dI : Nat → Nat → Nat) (cI cL cZ : ClassId) (ad : Nat → Nat) (hinj : xI ad 15) (hlt : ∀ e : Env, l.admits e → e.platform.stackTraces = false) (nv : Nat) (av : Int32) (nc : Nat) (mt mf wt : Nat → Int32) (lz : Nat) (nd : Int32) (lc : Nat) (bc : Int64) (bv : Int32) (lh lw : Nat → Int32) (lb : Nat → Int64) (wh wv : Nat → Int32) (wc : Nat) (hnc : nc ≤ 40) (w a1 a2 a3 a4 : Int32) (hw : ¬ f_isWeight w = 0) (ha : f_areLiterals nv a1 a2 a3 a4 = 0) : xThr l yX3_clause wsX3_clause ({ frames := 6, cells := 1, slots := 6, locals := 90 }) (va_Pc [.ref (ad 0), .int w, .int a1, .int a2, .int a3, .int a4] (fun U => va_P (dC, dI) vwCl [(ad 0, .inr (3, [.ref (ad 1), .ref (ad 5), .ref (ad 9)])), (ad 1, .inr (1, [.int (nI nv), .int av, .int (nI nc), .ref (ad 2), .ref (ad 3), .ref (ad 4)])), (ad 2, .inl (cI, 40, .inl mt)), (ad 3, .inl (cI, 40, .inl mf)), (ad 4, .inl (cI, 40, .inl wt)), (ad 9, .inr (2, [.int nd, .int (nI lc), .long bc, .int bv, .ref (ad 10), .ref (ad 11), .ref (ad 12), .ref (ad 1), .ref (ad 5), .ref (ad 13), .ref (ad 14), .int (nI wc)])), (ad 10, .inl (cI, lz, .inl lh)), (ad 11, .inl (cI, lz, .inl lw)), (ad 12, .inl (cL, lz, .inr (.inl lb))), (ad 13, .inl (cI, 11, .inl wh)), (ad 14, .inl (cI, 11, .inl wv))] U.heap ∧ va_K (dC, dI) vwCl [(cI, .int), (cL, .long), (cZ, .boolean)] U ∧ xEx U)) "java/lang/IllegalArgumentException" 1 6 := by
  refine xThr.ofW (cc := cX3_clause) (maxL := 8) (ret := (some .int)) (by decide) rfl ?_
  intro p e s m args below meth c s₁ B hml hvv
  obtain ⟨rfl, hP0, hK, hE⟩ := hvv
  have hx := B.exec
  have hb := B.bytes
  have hr := B.returns
  have hts := atoms_spec (ws := wsX3_clause) B.pre
  have hown : s.vm.findClass RX3 = some m.cls := findClass_of_methodNamed B.named
  have hlocks := B.notSynchronized
  have htb : c.exceptionTable.toList = [] := by have h9 := BodyLoose.noHandlers B (hts _ List.mem_cons_self); simpa [Array.isEmpty] using h9
  have hw0 : (.classLink RX3 57 "java/lang/IllegalArgumentException" : Cond).before _ s = true := hts _ (List.mem_cons_of_mem _ wd_393)
  have hw1 : (.initialized "java/lang/IllegalArgumentException" : Cond).before _ s = true := hts _ (List.mem_cons_of_mem _ wd_44)
  have hat := xat at_IAE hts hE
  have hPr : va_P (dC, dI) vwCl [(ad 0, .inr (3, [.ref (ad 1), .ref (ad 5), .ref (ad 9)])), (ad 1, .inr (1, [.int (nI nv), .int av, .int (nI nc), .ref (ad 2), .ref (ad 3), .ref (ad 4)])), (ad 2, .inl (cI, 40, .inl mt)), (ad 3, .inl (cI, 40, .inl mf)), (ad 4, .inl (cI, 40, .inl wt)), (ad 9, .inr (2, [.int nd, .int (nI lc), .long bc, .int bv, .ref (ad 10), .ref (ad 11), .ref (ad 12), .ref (ad 1), .ref (ad 5), .ref (ad 13), .ref (ad 14), .int (nI wc)])), (ad 10, .inl (cI, lz, .inl lh)), (ad 11, .inl (cI, lz, .inl lw)), (ad 12, .inl (cL, lz, .inr (.inl lb))), (ad 13, .inl (cI, 11, .inl wh)), (ad 14, .inl (cI, 11, .inl wv))] s.heap := hP0.sub [0, 1, 2, 3, 4, 5, 6, 7, 8, 9, 10] rfl
  have hS : va_S xN s.heap s.heap [] := va_S.rf
  have hl := lv_entry [.ref (ad 0), .int w, .int a1, .int a2, .int a3, .int a4] (n := 8) (Nat.le_of_ble_eq_true rfl)
  rw [lg_entry_eq]
  generalize (lg_sl [.ref (ad 0), .int w, .int a1, .int a2, .int a3, .int a4] ++ List.replicate (8 - (lg_sl [.ref (ad 0), .int w, .int a1, .int a2, .int a3, .int a4]).length) Slot.unset).toArray = ls at hl ⊢
  have hl : lv_has ls 8 [(0, .ref (ad 0)), (1, .int w), (2, .int a1), (3, .int a2), (4, .int a3), (5, .int a4)] := hl
  refine lv_iload_n hx hb dX3_clause_0 rfl (lv_at hl 1 rfl) ?_
  have hR := xP0 hPr xnN hS
  refine xro_i (va_runS (As := [.int w]) (rest := []) ⟨hx, hb, hml, hown, hts⟩ (c_isWeight l dC dI cI cL cZ ad hinj w) (xcwS 1 hts wd_370 wd_34 wd_368 wd_369 rfl rfl (by decide +kernel) ⟨Nat.le_of_ble_eq_true rfl, Nat.le_of_ble_eq_true rfl⟩) (xpreS xPn hK) rfl rfl hl.1 rfl (lv_room (Nat.le_of_ble_eq_true rfl)) dX3_clause_1 ⟨Nat.le_of_ble_eq_true rfl, Nat.le_of_ble_eq_true rfl⟩) hS (fun H locs hk hS => ?_)
  refine lv_if_eq (tgt := 20) hx hb dX3_clause_4 (by decide) (fun h1 => absurd h1 hw) (fun h1 => ?_)
  refine lv_aload_n hx hb dX3_clause_7 rfl (lv_at hl 0 rfl) ?_
  refine lv_iload_n hx hb dX3_clause_8 rfl (lv_at hl 2 rfl) ?_
  refine lv_iload_n hx hb dX3_clause_9 rfl (lv_at hl 3 rfl) ?_
  refine lv_iload hx hb dX3_clause_10 (lv_at hl 4 rfl) ?_
  refine lv_iload hx hb dX3_clause_12 (lv_at hl 5 rfl) ?_
  have hR := xP0 hPr xnN hS
  refine xro_i (va_runV (As := [.int a1, .int a2, .int a3, .int a4]) (rest := []) ⟨hx, hb, hml, hown, hts⟩ (c_areLiterals l dC dI cI cL cZ ad hinj nv av nc mt mf wt a1 a2 a3 a4) (xcwV 4 hts wd_375 wd_34 wd_372 wd_374 wd_13 rfl rfl (by decide +kernel) ⟨Nat.le_of_ble_eq_true rfl, Nat.le_of_ble_eq_true rfl⟩) (xpreV (va_recv hK hR rfl (q0 := 0) rfl) (hR.sub [0, 1, 2, 3, 4] rfl) hK) rfl rfl hl.1 rfl (lv_room (Nat.le_of_ble_eq_true rfl)) dX3_clause_14 ⟨Nat.le_of_ble_eq_true rfl, Nat.le_of_ble_eq_true rfl⟩) hS (fun H locs hk hS => ?_)
  refine lv_if_ne (tgt := 28) hx hb dX3_clause_17 (by decide) (fun h2 => absurd ha h2) (fun h2 => ?_)
  exact xthrow hx hb hlt hlocks (names := ["java/lang/RuntimeException", "java/lang/Exception"]) hown (by decide) (by decide) hw0 hw1 hat hS (hl.1.trans hml.symm) dX3_clause_20 dX3_clause_23 dX3_clause_24 dX3_clause_27 htb (by decide) (by decide) (Nat.le_of_ble_eq_true rfl) (Nat.le_of_ble_eq_true rfl) (Nat.le_of_ble_eq_true rfl) (Nat.le_of_ble_eq_true rfl)
set_option maxHeartbeats 4000000 in
set_option maxRecDepth 100000 in
theorem c_clause_x3 (l : Launch) (dC : Nat → ClassId) (dI : Nat → Nat → Nat) (cI cL cZ : ClassId) (ad : Nat → Nat) (hinj : xI ad 15) (hlt : ∀ e : Env, l.admits e → e.platform.stackTraces = false) (nv : Nat) (av : Int32) (nc : Nat) (mt mf wt : Nat → Int32) (lz : Nat) (nd : Int32) (lc : Nat) (bc : Int64) (bv : Int32) (lh lw : Nat → Int32) (lb : Nat → Int64) (wh wv : Nat → Int32) (wc : Nat) (hnc : nc ≤ 40) (w a1 a2 a3 a4 : Int32) (hw : ¬ f_isWeight w = 0) (ha : ¬ f_areLiterals nv a1 a2 a3 a4 = 0) (hc : ¬ nI nc < 40) : xThr l yX3_clause wsX3_clause ({ frames := 6, cells := 1, slots := 6, locals := 90 }) (va_Pc [.ref (ad 0), .int w, .int a1, .int a2, .int a3, .int a4] (fun U => va_P (dC, dI) vwCl [(ad 0, .inr (3, [.ref (ad 1), .ref (ad 5), .ref (ad 9)])), (ad 1, .inr (1, [.int (nI nv), .int av, .int (nI nc), .ref (ad 2), .ref (ad 3), .ref (ad 4)])), (ad 2, .inl (cI, 40, .inl mt)), (ad 3, .inl (cI, 40, .inl mf)), (ad 4, .inl (cI, 40, .inl wt)), (ad 9, .inr (2, [.int nd, .int (nI lc), .long bc, .int bv, .ref (ad 10), .ref (ad 11), .ref (ad 12), .ref (ad 1), .ref (ad 5), .ref (ad 13), .ref (ad 14), .int (nI wc)])), (ad 10, .inl (cI, lz, .inl lh)), (ad 11, .inl (cI, lz, .inl lw)), (ad 12, .inl (cL, lz, .inr (.inl lb))), (ad 13, .inl (cI, 11, .inl wh)), (ad 14, .inl (cI, 11, .inl wv))] U.heap ∧ va_K (dC, dI) vwCl [(cI, .int), (cL, .long), (cZ, .boolean)] U ∧ xEx U)) "java/lang/IllegalStateException" 1 6 := by
  refine xThr.ofW (cc := cX3_clause) (maxL := 8) (ret := (some .int)) (by decide) rfl ?_
  intro p e s m args below meth c s₁ B hml hvv
  obtain ⟨rfl, hP0, hK, hE⟩ := hvv
  have hx := B.exec
  have hb := B.bytes
  have hr := B.returns
  have hts := atoms_spec (ws := wsX3_clause) B.pre
  have hown : s.vm.findClass RX3 = some m.cls := findClass_of_methodNamed B.named
  have hlocks := B.notSynchronized
  have htb : c.exceptionTable.toList = [] := by have h9 := BodyLoose.noHandlers B (hts _ List.mem_cons_self); simpa [Array.isEmpty] using h9
  have hw0 : (.fieldLink RX3 23 "WeightedClauses" "formula" "LWeightedClauses$Formula;" : Cond).before _ s = true := hts _ (List.mem_cons_of_mem _ wd_178)
  have hw1 : (.fieldLink RX3 60 "WeightedClauses$Formula" "clauseCount" "I" : Cond).before _ s = true := hts _ (List.mem_cons_of_mem _ wd_73)
  have hw2 : (.classLink RX3 63 "java/lang/IllegalStateException" : Cond).before _ s = true := hts _ (List.mem_cons_of_mem _ wd_455)
  have hw3 : (.initialized "java/lang/IllegalStateException" : Cond).before _ s = true := hts _ (List.mem_cons_of_mem _ wd_45)
  have hat := xat at_ISE hts hE
  have hPr : va_P (dC, dI) vwCl [(ad 0, .inr (3, [.ref (ad 1), .ref (ad 5), .ref (ad 9)])), (ad 1, .inr (1, [.int (nI nv), .int av, .int (nI nc), .ref (ad 2), .ref (ad 3), .ref (ad 4)])), (ad 2, .inl (cI, 40, .inl mt)), (ad 3, .inl (cI, 40, .inl mf)), (ad 4, .inl (cI, 40, .inl wt)), (ad 9, .inr (2, [.int nd, .int (nI lc), .long bc, .int bv, .ref (ad 10), .ref (ad 11), .ref (ad 12), .ref (ad 1), .ref (ad 5), .ref (ad 13), .ref (ad 14), .int (nI wc)])), (ad 10, .inl (cI, lz, .inl lh)), (ad 11, .inl (cI, lz, .inl lw)), (ad 12, .inl (cL, lz, .inr (.inl lb))), (ad 13, .inl (cI, 11, .inl wh)), (ad 14, .inl (cI, 11, .inl wv))] s.heap := hP0.sub [0, 1, 2, 3, 4, 5, 6, 7, 8, 9, 10] rfl
  have hS : va_S xN s.heap s.heap [] := va_S.rf
  have hl := lv_entry [.ref (ad 0), .int w, .int a1, .int a2, .int a3, .int a4] (n := 8) (Nat.le_of_ble_eq_true rfl)
  rw [lg_entry_eq]
  generalize (lg_sl [.ref (ad 0), .int w, .int a1, .int a2, .int a3, .int a4] ++ List.replicate (8 - (lg_sl [.ref (ad 0), .int w, .int a1, .int a2, .int a3, .int a4]).length) Slot.unset).toArray = ls at hl ⊢
  have hl : lv_has ls 8 [(0, .ref (ad 0)), (1, .int w), (2, .int a1), (3, .int a2), (4, .int a3), (5, .int a4)] := hl
  refine lv_iload_n hx hb dX3_clause_0 rfl (lv_at hl 1 rfl) ?_
  have hR := xP0 hPr xnN hS
  refine xro_i (va_runS (As := [.int w]) (rest := []) ⟨hx, hb, hml, hown, hts⟩ (c_isWeight l dC dI cI cL cZ ad hinj w) (xcwS 1 hts wd_370 wd_34 wd_368 wd_369 rfl rfl (by decide +kernel) ⟨Nat.le_of_ble_eq_true rfl, Nat.le_of_ble_eq_true rfl⟩) (xpreS xPn hK) rfl rfl hl.1 rfl (lv_room (Nat.le_of_ble_eq_true rfl)) dX3_clause_1 ⟨Nat.le_of_ble_eq_true rfl, Nat.le_of_ble_eq_true rfl⟩) hS (fun H locs hk hS => ?_)
  refine lv_if_eq (tgt := 20) hx hb dX3_clause_4 (by decide) (fun h1 => absurd h1 hw) (fun h1 => ?_)
  refine lv_aload_n hx hb dX3_clause_7 rfl (lv_at hl 0 rfl) ?_
  refine lv_iload_n hx hb dX3_clause_8 rfl (lv_at hl 2 rfl) ?_
  refine lv_iload_n hx hb dX3_clause_9 rfl (lv_at hl 3 rfl) ?_
  refine lv_iload hx hb dX3_clause_10 (lv_at hl 4 rfl) ?_
  refine lv_iload hx hb dX3_clause_12 (lv_at hl 5 rfl) ?_
  have hR := xP0 hPr xnN hS
  refine xro_i (va_runV (As := [.int a1, .int a2, .int a3, .int a4]) (rest := []) ⟨hx, hb, hml, hown, hts⟩ (c_areLiterals l dC dI cI cL cZ ad hinj nv av nc mt mf wt a1 a2 a3 a4) (xcwV 4 hts wd_375 wd_34 wd_372 wd_374 wd_13 rfl rfl (by decide +kernel) ⟨Nat.le_of_ble_eq_true rfl, Nat.le_of_ble_eq_true rfl⟩) (xpreV (va_recv hK hR rfl (q0 := 0) rfl) (hR.sub [0, 1, 2, 3, 4] rfl) hK) rfl rfl hl.1 rfl (lv_room (Nat.le_of_ble_eq_true rfl)) dX3_clause_14 ⟨Nat.le_of_ble_eq_true rfl, Nat.le_of_ble_eq_true rfl⟩) hS (fun H locs hk hS => ?_)
  refine lv_if_ne (tgt := 28) hx hb dX3_clause_17 (by decide) (fun h2 => ?_) (fun h2 => absurd h2 ha)
  refine lv_aload_n hx hb dX3_clause_28 rfl (lv_at hl 0 rfl) ?_
  have hR := xP0 hPr xnN hS
  refine va_get (D := (dC, dI)) (ci := 3) (v := .ref (ad 1)) (C := RX3) (T := TX3) (N := 3) hx hb hts (xcons inX3) hown hK hR 0 rfl rfl 0 (by decide) hw0 (fun _ h9 => h9) rfl dX3_clause_29 ?_
  refine va_get (D := (dC, dI)) (ci := 1) (v := .int (nI nc)) (C := RX1) (T := TX1) (N := 6) hx hb hts (xcons inX1) hown hK hR 1 rfl rfl 2 (by decide) hw1 (fun _ h9 => h9) rfl dX3_clause_32 ?_
  refine lv_bipush (v := 40) hx hb dX3_clause_35 (by decide) ?_
  refine lv_icmp_lt (tgt := 48) hx hb dX3_clause_37 (by decide) (fun h3 => absurd h3 hc) (fun h3 => ?_)
  exact xthrow hx hb hlt hlocks (names := ["java/lang/RuntimeException", "java/lang/Exception"]) hown (by decide) (by decide) hw2 hw3 hat hS (hl.1.trans hml.symm) dX3_clause_40 dX3_clause_43 dX3_clause_44 dX3_clause_47 htb (by decide) (by decide) (Nat.le_of_ble_eq_true rfl) (Nat.le_of_ble_eq_true rfl) (Nat.le_of_ble_eq_true rfl) (Nat.le_of_ble_eq_true rfl)
