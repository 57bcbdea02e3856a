def f_cost (nc : Nat) (mt mf wt : Nat → Int32) (hv vl : Int32) : Int64 :=
  (f_costOf nc mt mf wt hv vl)
def f_first (nv nc : Nat) (mt mf : Nat → Int32) (hv vl : Int32) : Int32 :=
  (f_firstLiteral nv nc mt mf hv vl)




set_option maxHeartbeats 4000000 in
set_option maxRecDepth 100000 in
theorem c_cost (l : Launch) (dC : Nat → ClassId) (dI : Nat → Nat → Nat) (cI cL cZ : ClassId) (ad : Nat → Nat) (hinj : xI ad 15) (nv : Nat) (av : Int32) (nc : Nat) (mt mf wt : Nat → Int32) (hnc : nc ≤ 40) (hnv : nv ≤ 10) (hv vl : Int32) (hok : ¬ f_isState av hv vl = 0) : Met l yX3_cost wsX3_cost ({ frames := 6, cells := 0, slots := 0, locals := 90 }) (va_Pc [.ref (ad 0), .int hv, .int vl] (fun U => va_P (dC, dI) vwCl [(ad 0, .inr (3, [.ref (ad 1), .ref (ad 5), .ref (ad 9)])), (ad 1, .inr (1, [.int (nI nv), .int av, .int (nI nc), .ref (ad 2), .ref (ad 3), .ref (ad 4)])), (ad 2, .inl (cI, 40, .inl mt)), (ad 3, .inl (cI, 40, .inl mf)), (ad 4, .inl (cI, 40, .inl wt))] U.heap ∧ va_K (dC, dI) vwCl [(cI, .int), (cL, .long), (cZ, .boolean)] U)) (va_Ql (fun r (_ : Unit) => f_cost nc mt mf wt hv vl = r) (fun _ _ => True) xN) 0 0 xN := by
  refine Met.ofW (cc := cX3_cost) (maxL := 3) (ret := (some .long)) (by decide) rfl ?_
  intro p e s m args below meth c s₁ B hml hvv
  obtain ⟨rfl, hP0, hK⟩ := hvv
  have hx := B.exec
  have hb := B.bytes
  have hr := B.returns
  have hts := atoms_spec (ws := wsX3_cost) B.pre
  have hown : s.vm.findClass RX3 = some m.cls := findClass_of_methodNamed B.named
  have hlocks := B.notSynchronized
  have hw0 : (.fieldLink RX3 23 "WeightedClauses" "formula" "LWeightedClauses$Formula;" : Cond).before _ s = true := hts _ (List.mem_cons_of_mem _ wd_178)
  have hPr : va_P (dC, dI) vwCl [(ad 0, .inr (3, [.ref (ad 1), .ref (ad 5), .ref (ad 9)])), (ad 1, .inr (1, [.int (nI nv), .int av, .int (nI nc), .ref (ad 2), .ref (ad 3), .ref (ad 4)])), (ad 2, .inl (cI, 40, .inl mt)), (ad 3, .inl (cI, 40, .inl mf)), (ad 4, .inl (cI, 40, .inl wt))] s.heap := hP0.sub [0, 1, 2, 3, 4] rfl
  have hS : va_S xN s.heap s.heap [] := va_S.rf
  have hl := lv_entry [.ref (ad 0), .int hv, .int vl] (n := 3) (Nat.le_of_ble_eq_true rfl)
  rw [lg_entry_eq]
  generalize (lg_sl [.ref (ad 0), .int hv, .int vl] ++ List.replicate (3 - (lg_sl [.ref (ad 0), .int hv, .int vl]).length) Slot.unset).toArray = ls at hl ⊢
  have hl : lv_has ls 3 [(0, .ref (ad 0)), (1, .int hv), (2, .int vl)] := hl
  have hF := Eq.refl (f_cost nc mt mf wt hv vl)
  conv at hF => rhs; unfold f_cost
  refine lv_aload_n hx hb dX3_cost_0 rfl (lv_at hl 0 rfl) ?_
  refine lv_iload_n hx hb dX3_cost_1 rfl (lv_at hl 1 rfl) ?_
  refine lv_iload_n hx hb dX3_cost_2 rfl (lv_at hl 2 rfl) ?_
  have hR := xP0 hPr xnN hS
  refine xro_i (va_runV (As := [.int hv, .int vl]) (rest := []) ⟨hx, hb, hml, hown, hts⟩ (c_isState l dC dI cI cL cZ ad hinj nv av nc mt mf wt hv vl) (xcwV 2 hts wd_495 wd_34 wd_492 wd_494 wd_16 rfl rfl (by decide +kernel) ⟨Nat.le_of_ble_eq_true rfl, Nat.le_of_ble_eq_true rfl⟩) (xpreV (va_recv hK hR rfl (q0 := 0) rfl) hR hK) rfl rfl hl.1 rfl (lv_room (Nat.le_of_ble_eq_true rfl)) dX3_cost_3 ⟨Nat.le_of_ble_eq_true rfl, Nat.le_of_ble_eq_true rfl⟩) hS (fun H locs hk hS => ?_)
  refine lv_if_ne (tgt := 17) hx hb dX3_cost_6 (by decide) (fun h1 => ?_) (fun h1 => absurd h1 hok)
  refine lv_aload_n hx hb dX3_cost_17 rfl (lv_at hl 0 rfl) ?_
  have hR := xP0 hPr xnN hS
  refine va_get (D := (dC, dI)) (ci := 3) (v := .ref (ad 1)) (C := RX3) (T := TX3) (N := 3) hx hb hts (xcons inX3) hown hK hR 0 rfl rfl 0 (by decide) hw0 (fun _ h9 => h9) rfl dX3_cost_18 ?_
  refine lv_iload_n hx hb dX3_cost_21 rfl (lv_at hl 1 rfl) ?_
  refine lv_iload_n hx hb dX3_cost_22 rfl (lv_at hl 2 rfl) ?_
  refine xro_l (va_runV (As := [.int hv, .int vl]) (rest := []) ⟨hx, hb, hml, hown, hts⟩ (c_costOf l dC dI cI cL cZ ad hinj nv av nc mt mf wt (by omega) hv vl) (xcwV 2 hts wd_233 wd_35 wd_496 wd_231 wd_232 rfl rfl (by decide +kernel) ⟨Nat.le_of_ble_eq_true rfl, Nat.le_of_ble_eq_true rfl⟩) (xpreV (va_recv hK hR rfl (q0 := 1) rfl) (hR.sub [1, 2, 3, 4] rfl) hK) rfl rfl hl.1 rfl (lv_room (Nat.le_of_ble_eq_true rfl)) dX3_cost_23 ⟨Nat.le_of_ble_eq_true rfl, Nat.le_of_ble_eq_true rfl⟩) hS (fun H locs hk hS => ?_)
  exact W.lret (v := (f_costOf nc mt mf wt hv vl)) hx hb hr (fun t ht hW => ⟨⟨_, (), rfl, hF, trivial⟩, hS.F ht⟩) hS.2.2 dX3_cost_26
set_option maxHeartbeats 4000000 in
set_option maxRecDepth 100000 in
theorem c_first (l : Launch) (dC : Nat → ClassId) (dI : Nat → Nat → Nat) (cI cL cZ : ClassId) (ad : Nat → Nat) (hinj : xI ad 15) (nv : Nat) (av : Int32) (nc : Nat) (mt mf wt : Nat → Int32) (hnc : nc ≤ 40) (hnv : nv ≤ 10) (hv vl : Int32) (hok : ¬ f_isState av hv vl = 0) : Met l yX3_first wsX3_first ({ frames := 6, cells := 0, slots := 0, locals := 90 }) (va_Pc [.ref (ad 0), .int hv, .int vl] (fun U => va_P (dC, dI) vwCl [(ad 0, .inr (3, [.ref (ad 1), .ref (ad 5), .ref (ad 9)])), (ad 1, .inr (1, [.int (nI nv), .int av, .int (nI nc), .ref (ad 2), .ref (ad 3), .ref (ad 4)])), (ad 2, .inl (cI, 40, .inl mt)), (ad 3, .inl (cI, 40, .inl mf)), (ad 4, .inl (cI, 40, .inl wt))] U.heap ∧ va_K (dC, dI) vwCl [(cI, .int), (cL, .long), (cZ, .boolean)] U)) (va_Qi (fun r (_ : Unit) => f_first nv nc mt mf hv vl = r) (fun _ _ => True) xN) 0 0 xN := by
  refine Met.ofW (cc := cX3_first) (maxL := 3) (ret := (some .int)) (by decide) rfl ?_
  intro p e s m args below meth c s₁ B hml hvv
  obtain ⟨rfl, hP0, hK⟩ := hvv
  have hx := B.exec
  have hb := B.bytes
  have hr := B.returns
  have hts := atoms_spec (ws := wsX3_first) B.pre
  have hown : s.vm.findClass RX3 = some m.cls := findClass_of_methodNamed B.named
  have hlocks := B.notSynchronized
  have hw0 : (.fieldLink RX3 23 "WeightedClauses" "formula" "LWeightedClauses$Formula;" : Cond).before _ s = true := hts _ (List.mem_cons_of_mem _ wd_178)
  have hPr : va_P (dC, dI) vwCl [(ad 0, .inr (3, [.ref (ad 1), .ref (ad 5), .ref (ad 9)])), (ad 1, .inr (1, [.int (nI nv), .int av, .int (nI nc), .ref (ad 2), .ref (ad 3), .ref (ad 4)])), (ad 2, .inl (cI, 40, .inl mt)), (ad 3, .inl (cI, 40, .inl mf)), (ad 4, .inl (cI, 40, .inl wt))] s.heap := hP0.sub [0, 1, 2, 3, 4] rfl
  have hS : va_S xN s.heap s.heap [] := va_S.rf
  have hl := lv_entry [.ref (ad 0), .int hv, .int vl] (n := 3) (Nat.le_of_ble_eq_true rfl)
  rw [lg_entry_eq]
  generalize (lg_sl [.ref (ad 0), .int hv, .int vl] ++ List.replicate (3 - (lg_sl [.ref (ad 0), .int hv, .int vl]).length) Slot.unset).toArray = ls at hl ⊢
  have hl : lv_has ls 3 [(0, .ref (ad 0)), (1, .int hv), (2, .int vl)] := hl
  have hF := Eq.refl (f_first nv nc mt mf hv vl)
  conv at hF => rhs; unfold f_first
  refine lv_aload_n hx hb dX3_first_0 rfl (lv_at hl 0 rfl) ?_
  refine lv_iload_n hx hb dX3_first_1 rfl (lv_at hl 1 rfl) ?_
  refine lv_iload_n hx hb dX3_first_2 rfl (lv_at hl 2 rfl) ?_
  have hR := xP0 hPr xnN hS
  refine xro_i (va_runV (As := [.int hv, .int vl]) (rest := []) ⟨hx, hb, hml, hown, hts⟩ (c_isState l dC dI cI cL cZ ad hinj nv av nc mt mf wt hv vl) (xcwV 2 hts wd_495 wd_34 wd_492 wd_494 wd_16 rfl rfl (by decide +kernel) ⟨Nat.le_of_ble_eq_true rfl, Nat.le_of_ble_eq_true rfl⟩) (xpreV (va_recv hK hR rfl (q0 := 0) rfl) hR hK) rfl rfl hl.1 rfl (lv_room (Nat.le_of_ble_eq_true rfl)) dX3_first_3 ⟨Nat.le_of_ble_eq_true rfl, Nat.le_of_ble_eq_true rfl⟩) hS (fun H locs hk hS => ?_)
  refine lv_if_ne (tgt := 17) hx hb dX3_first_6 (by decide) (fun h1 => ?_) (fun h1 => absurd h1 hok)
  refine lv_aload_n hx hb dX3_first_17 rfl (lv_at hl 0 rfl) ?_
  have hR := xP0 hPr xnN hS
  refine va_get (D := (dC, dI)) (ci := 3) (v := .ref (ad 1)) (C := RX3) (T := TX3) (N := 3) hx hb hts (xcons inX3) hown hK hR 0 rfl rfl 0 (by decide) hw0 (fun _ h9 => h9) rfl dX3_first_18 ?_
  refine lv_iload_n hx hb dX3_first_21 rfl (lv_at hl 1 rfl) ?_
  refine lv_iload_n hx hb dX3_first_22 rfl (lv_at hl 2 rfl) ?_
  refine xro_i (va_runV (As := [.int hv, .int vl]) (rest := []) ⟨hx, hb, hml, hown, hts⟩ (c_firstLiteral l dC dI cI cL cZ ad hinj nv av nc mt mf wt (by omega) (by omega) hv vl) (xcwV 2 hts wd_323 wd_35 wd_523 wd_321 wd_322 rfl rfl (by decide +kernel) ⟨Nat.le_of_ble_eq_true rfl, Nat.le_of_ble_eq_true rfl⟩) (xpreV (va_recv hK hR rfl (q0 := 1) rfl) (hR.sub [1, 2, 3, 4] rfl) hK) rfl rfl hl.1 rfl (lv_room (Nat.le_of_ble_eq_true rfl)) dX3_first_23 ⟨Nat.le_of_ble_eq_true rfl, Nat.le_of_ble_eq_true rfl⟩) hS (fun H locs hk hS => ?_)
  exact W.iret (v := (f_firstLiteral nv nc mt mf hv vl)) hx hb hr (fun t ht hW => ⟨⟨_, (), rfl, hF, trivial⟩, hS.F ht⟩) hS.2.2 dX3_first_26
set_option maxHeartbeats 4000000 in
set_option maxRecDepth 100000 in
theorem c_cost_x (l : Launch) (dC : Nat → ClassId) (dI : Nat → Nat → Nat) (cI cL cZ : ClassId) (ad : Nat → Nat) (hinj : xI ad 15) (hlt : ∀ e : Env, l.admits e → e.platform.stackTraces = false) (nv : Nat) (av : Int32) (nc : Nat) (mt mf wt : Nat → Int32) (hnc : nc ≤ 40) (hnv : nv ≤ 10) (hv vl : Int32) (hbad : f_isState av hv vl = 0) : xThr l yX3_cost wsX3_cost ({ frames := 6, cells := 1, slots := 6, locals := 90 }) (va_Pc [.ref (ad 0), .int hv, .int vl] (fun U => va_P (dC, dI) vwCl [(ad 0, .inr (3, [.ref (ad 1), .ref (ad 5), .ref (ad 9)])), (ad 1, .inr (1, [.int (nI nv), .int av, .int (nI nc), .ref (ad 2), .ref (ad 3), .ref (ad 4)])), (ad 2, .inl (cI, 40, .inl mt)), (ad 3, .inl (cI, 40, .inl mf)), (ad 4, .inl (cI, 40, .inl wt))] U.heap ∧ va_K (dC, dI) vwCl [(cI, .int), (cL, .long), (cZ, .boolean)] U ∧ xEx U)) "java/lang/IllegalArgumentException" 1 6 := by
  refine xThr.ofW (cc := cX3_cost) (maxL := 3) (ret := (some .long)) (by decide) rfl ?_
  intro p e s m args below meth c s₁ B hml hvv
  obtain ⟨rfl, hP0, hK, hE⟩ := hvv
  have hx := B.exec
  have hb := B.bytes
  have hr := B.returns
  have hts := atoms_spec (ws := wsX3_cost) B.pre
  have hown : s.vm.findClass RX3 = some m.cls := findClass_of_methodNamed B.named
  have hlocks := B.notSynchronized
  have htb : c.exceptionTable.toList = [] := by have h9 := BodyLoose.noHandlers B (hts _ List.mem_cons_self); simpa [Array.isEmpty] using h9
  have hw0 : (.classLink RX3 57 "java/lang/IllegalArgumentException" : Cond).before _ s = true := hts _ (List.mem_cons_of_mem _ wd_393)
  have hw1 : (.initialized "java/lang/IllegalArgumentException" : Cond).before _ s = true := hts _ (List.mem_cons_of_mem _ wd_44)
  have hat := xat at_IAE hts hE
  have hPr : va_P (dC, dI) vwCl [(ad 0, .inr (3, [.ref (ad 1), .ref (ad 5), .ref (ad 9)])), (ad 1, .inr (1, [.int (nI nv), .int av, .int (nI nc), .ref (ad 2), .ref (ad 3), .ref (ad 4)])), (ad 2, .inl (cI, 40, .inl mt)), (ad 3, .inl (cI, 40, .inl mf)), (ad 4, .inl (cI, 40, .inl wt))] s.heap := hP0.sub [0, 1, 2, 3, 4] rfl
  have hS : va_S xN s.heap s.heap [] := va_S.rf
  have hl := lv_entry [.ref (ad 0), .int hv, .int vl] (n := 3) (Nat.le_of_ble_eq_true rfl)
  rw [lg_entry_eq]
  generalize (lg_sl [.ref (ad 0), .int hv, .int vl] ++ List.replicate (3 - (lg_sl [.ref (ad 0), .int hv, .int vl]).length) Slot.unset).toArray = ls at hl ⊢
  have hl : lv_has ls 3 [(0, .ref (ad 0)), (1, .int hv), (2, .int vl)] := hl
  refine lv_aload_n hx hb dX3_cost_0 rfl (lv_at hl 0 rfl) ?_
  refine lv_iload_n hx hb dX3_cost_1 rfl (lv_at hl 1 rfl) ?_
  refine lv_iload_n hx hb dX3_cost_2 rfl (lv_at hl 2 rfl) ?_
  have hR := xP0 hPr xnN hS
  refine xro_i (va_runV (As := [.int hv, .int vl]) (rest := []) ⟨hx, hb, hml, hown, hts⟩ (c_isState l dC dI cI cL cZ ad hinj nv av nc mt mf wt hv vl) (xcwV 2 hts wd_495 wd_34 wd_492 wd_494 wd_16 rfl rfl (by decide +kernel) ⟨Nat.le_of_ble_eq_true rfl, Nat.le_of_ble_eq_true rfl⟩) (xpreV (va_recv hK hR rfl (q0 := 0) rfl) hR hK) rfl rfl hl.1 rfl (lv_room (Nat.le_of_ble_eq_true rfl)) dX3_cost_3 ⟨Nat.le_of_ble_eq_true rfl, Nat.le_of_ble_eq_true rfl⟩) hS (fun H locs hk hS => ?_)
  refine lv_if_ne (tgt := 17) hx hb dX3_cost_6 (by decide) (fun h1 => absurd hbad h1) (fun h1 => ?_)
  exact xthrow hx hb hlt hlocks (names := ["java/lang/RuntimeException", "java/lang/Exception"]) hown (by decide) (by decide) hw0 hw1 hat hS (hl.1.trans hml.symm) dX3_cost_9 dX3_cost_12 dX3_cost_13 dX3_cost_16 htb (by decide) (by decide) (Nat.le_of_ble_eq_true rfl) (Nat.le_of_ble_eq_true rfl) (Nat.le_of_ble_eq_true rfl) (Nat.le_of_ble_eq_true rfl)
set_option maxHeartbeats 4000000 in
set_option maxRecDepth 100000 in
theorem c_bound_x (l : Launch) (dC : Nat → ClassId) (dI : Nat → Nat → Nat) (cI cL cZ : ClassId) (ad : Nat → Nat) (hinj : xI ad 15) (hlt : ∀ e : Env, l.admits e → e.platform.stackTraces = false) (nv : Nat) (av : Int32) (nc : Nat) (mt mf wt : Nat → Int32) (hnc : nc ≤ 40) (hnv : nv ≤ 10) (hv vl : Int32) (hbad : f_isState av hv vl = 0) : xThr l yX3_bound wsX3_bound ({ frames := 6, cells := 1, slots := 6, locals := 90 }) (va_Pc [.ref (ad 0), .int hv, .int vl] (fun U => va_P (dC, dI) vwCl [(ad 0, .inr (3, [.ref (ad 1), .ref (ad 5), .ref (ad 9)])), (ad 1, .inr (1, [.int (nI nv), .int av, .int (nI nc), .ref (ad 2), .ref (ad 3), .ref (ad 4)])), (ad 2, .inl (cI, 40, .inl mt)), (ad 3, .inl (cI, 40, .inl mf)), (ad 4, .inl (cI, 40, .inl wt))] U.heap ∧ va_K (dC, dI) vwCl [(cI, .int), (cL, .long), (cZ, .boolean)] U ∧ xEx U)) "java/lang/IllegalArgumentException" 1 6 := by
  refine xThr.ofW (cc := cX3_bound) (maxL := 3) (ret := (some .long)) (by decide) rfl ?_
  intro p e s m args below meth c s₁ B hml hvv
  obtain ⟨rfl, hP0, hK, hE⟩ := hvv
  have hx := B.exec
  have hb := B.bytes
  have hr := B.returns
  have hts := atoms_spec (ws := wsX3_bound) B.pre
  have hown : s.vm.findClass RX3 = some m.cls := findClass_of_methodNamed B.named
  have hlocks := B.notSynchronized
  have htb : c.exceptionTable.toList = [] := by have h9 := BodyLoose.noHandlers B (hts _ List.mem_cons_self); simpa [Array.isEmpty] using h9
  have hw0 : (.classLink RX3 57 "java/lang/IllegalArgumentException" : Cond).before _ s = true := hts _ (List.mem_cons_of_mem _ wd_393)
  have hw1 : (.initialized "java/lang/IllegalArgumentException" : Cond).before _ s = true := hts _ (List.mem_cons_of_mem _ wd_44)
  have hat := xat at_IAE hts hE
  have hPr : va_P (dC, dI) vwCl [(ad 0, .inr (3, [.ref (ad 1), .ref (ad 5), .ref (ad 9)])), (ad 1, .inr (1, [.int (nI nv), .int av, .int (nI nc), .ref (ad 2), .ref (ad 3), .ref (ad 4)])), (ad 2, .inl (cI, 40, .inl mt)), (ad 3, .inl (cI, 40, .inl mf)), (ad 4, .inl (cI, 40, .inl wt))] s.heap := hP0.sub [0, 1, 2, 3, 4] rfl
  have hS : va_S xN s.heap s.heap [] := va_S.rf
  have hl := lv_entry [.ref (ad 0), .int hv, .int vl] (n := 3) (Nat.le_of_ble_eq_true rfl)
  rw [lg_entry_eq]
  generalize (lg_sl [.ref (ad 0), .int hv, .int vl] ++ List.replicate (3 - (lg_sl [.ref (ad 0), .int hv, .int vl]).length) Slot.unset).toArray = ls at hl ⊢
  have hl : lv_has ls 3 [(0, .ref (ad 0)), (1, .int hv), (2, .int vl)] := hl
  refine lv_aload_n hx hb dX3_bound_0 rfl (lv_at hl 0 rfl) ?_
  refine lv_iload_n hx hb dX3_bound_1 rfl (lv_at hl 1 rfl) ?_
  refine lv_iload_n hx hb dX3_bound_2 rfl (lv_at hl 2 rfl) ?_
  have hR := xP0 hPr xnN hS
  refine xro_i (va_runV (As := [.int hv, .int vl]) (rest := []) ⟨hx, hb, hml, hown, hts⟩ (c_isState l dC dI cI cL cZ ad hinj nv av nc mt mf wt hv vl) (xcwV 2 hts wd_495 wd_34 wd_492 wd_494 wd_16 rfl rfl (by decide +kernel) ⟨Nat.le_of_ble_eq_true rfl, Nat.le_of_ble_eq_true rfl⟩) (xpreV (va_recv hK hR rfl (q0 := 0) rfl) hR hK) rfl rfl hl.1 rfl (lv_room (Nat.le_of_ble_eq_true rfl)) dX3_bound_3 ⟨Nat.le_of_ble_eq_true rfl, Nat.le_of_ble_eq_true rfl⟩) hS (fun H locs hk hS => ?_)
  refine lv_if_ne (tgt := 17) hx hb dX3_bound_6 (by decide) (fun h1 => absurd hbad h1) (fun h1 => ?_)
  exact xthrow hx hb hlt hlocks (names := ["java/lang/RuntimeException", "java/lang/Exception"]) hown (by decide) (by decide) hw0 hw1 hat hS (hl.1.trans hml.symm) dX3_bound_9 dX3_bound_12 dX3_bound_13 dX3_bound_16 htb (by decide) (by decide) (Nat.le_of_ble_eq_true rfl) (Nat.le_of_ble_eq_true rfl) (Nat.le_of_ble_eq_true rfl) (Nat.le_of_ble_eq_true rfl)
set_option maxHeartbeats 4000000 in
set_option maxRecDepth 100000 in
theorem c_subset_x (l : Launch) (dC : Nat → ClassId) (dI : Nat → Nat → Nat) (cI cL cZ : ClassId) (ad : Nat → Nat) (hinj : xI ad 15) (hlt : ∀ e : Env, l.admits e → e.platform.stackTraces = false) (nv : Nat) (av : Int32) (nc : Nat) (mt mf wt : Nat → Int32) (hnc : nc ≤ 40) (hnv : nv ≤ 10) (hv vl : Int32) (j : Int32) (hbad : f_isState av hv vl = 0) : xThr l yX3_subset wsX3_subset ({ frames := 6, cells := 1, slots := 6, locals := 90 }) (va_Pc [.ref (ad 0), .int hv, .int vl, .int j] (fun U => va_P (dC, dI) vwCl [(ad 0, .inr (3, [.ref (ad 1), .ref (ad 5), .ref (ad 9)])), (ad 1, .inr (1, [.int (nI nv), .int av, .int (nI nc), .ref (ad 2), .ref (ad 3), .ref (ad 4)])), (ad 2, .inl (cI, 40, .inl mt)), (ad 3, .inl (cI, 40, .inl mf)), (ad 4, .inl (cI, 40, .inl wt))] U.heap ∧ va_K (dC, dI) vwCl [(cI, .int), (cL, .long), (cZ, .boolean)] U ∧ xEx U)) "java/lang/IllegalArgumentException" 1 6 := by
  refine xThr.ofW (cc := cX3_subset) (maxL := 4) (ret := (some .long)) (by decide) rfl ?_
  intro p e s m args below meth c s₁ B hml hvv
  obtain ⟨rfl, hP0, hK, hE⟩ := hvv
  have hx := B.exec
  have hb := B.bytes
  have hr := B.returns
  have hts := atoms_spec (ws := wsX3_subset) B.pre
  have hown : s.vm.findClass RX3 = some m.cls := findClass_of_methodNamed B.named
  have hlocks := B.notSynchronized
  have htb : c.exceptionTable.toList = [] := by have h9 := BodyLoose.noHandlers B (hts _ List.mem_cons_self); simpa [Array.isEmpty] using h9
  have hw0 : (.classLink RX3 57 "java/lang/IllegalArgumentException" : Cond).before _ s = true := hts _ (List.mem_cons_of_mem _ wd_393)
  have hw1 : (.initialized "java/lang/IllegalArgumentException" : Cond).before _ s = true := hts _ (List.mem_cons_of_mem _ wd_44)
  have hat := xat at_IAE hts hE
  have hPr : va_P (dC, dI) vwCl [(ad 0, .inr (3, [.ref (ad 1), .ref (ad 5), .ref (ad 9)])), (ad 1, .inr (1, [.int (nI nv), .int av, .int (nI nc), .ref (ad 2), .ref (ad 3), .ref (ad 4)])), (ad 2, .inl (cI, 40, .inl mt)), (ad 3, .inl (cI, 40, .inl mf)), (ad 4, .inl (cI, 40, .inl wt))] s.heap := hP0.sub [0, 1, 2, 3, 4] rfl
  have hS : va_S xN s.heap s.heap [] := va_S.rf
  have hl := lv_entry [.ref (ad 0), .int hv, .int vl, .int j] (n := 4) (Nat.le_of_ble_eq_true rfl)
  rw [lg_entry_eq]
  generalize (lg_sl [.ref (ad 0), .int hv, .int vl, .int j] ++ List.replicate (4 - (lg_sl [.ref (ad 0), .int hv, .int vl, .int j]).length) Slot.unset).toArray = ls at hl ⊢
  have hl : lv_has ls 4 [(0, .ref (ad 0)), (1, .int hv), (2, .int vl), (3, .int j)] := hl
  refine lv_aload_n hx hb dX3_subset_0 rfl (lv_at hl 0 rfl) ?_
  refine lv_iload_n hx hb dX3_subset_1 rfl (lv_at hl 1 rfl) ?_
  refine lv_iload_n hx hb dX3_subset_2 rfl (lv_at hl 2 rfl) ?_
  have hR := xP0 hPr xnN hS
  refine xro_i (va_runV (As := [.int hv, .int vl]) (rest := []) ⟨hx, hb, hml, hown, hts⟩ (c_isState l dC dI cI cL cZ ad hinj nv av nc mt mf wt hv vl) (xcwV 2 hts wd_495 wd_34 wd_492 wd_494 wd_16 rfl rfl (by decide +kernel) ⟨Nat.le_of_ble_eq_true rfl, Nat.le_of_ble_eq_true rfl⟩) (xpreV (va_recv hK hR rfl (q0 := 0) rfl) hR hK) rfl rfl hl.1 rfl (lv_room (Nat.le_of_ble_eq_true rfl)) dX3_subset_3 ⟨Nat.le_of_ble_eq_true rfl, Nat.le_of_ble_eq_true rfl⟩) hS (fun H locs hk hS => ?_)
  refine lv_if_ne (tgt := 17) hx hb dX3_subset_6 (by decide) (fun h1 => absurd hbad h1) (fun h1 => ?_)
  exact xthrow hx hb hlt hlocks (names := ["java/lang/RuntimeException", "java/lang/Exception"]) hown (by decide) (by decide) hw0 hw1 hat hS (hl.1.trans hml.symm) dX3_subset_9 dX3_subset_12 dX3_subset_13 dX3_subset_16 htb (by decide) (by decide) (Nat.le_of_ble_eq_true rfl) (Nat.le_of_ble_eq_true rfl) (Nat.le_of_ble_eq_true rfl) (Nat.le_of_ble_eq_true rfl)
set_option maxHeartbeats 4000000 in
set_option maxRecDepth 100000 in
theorem c_first_x (l : Launch) (dC : Nat → ClassId) (dI : Nat → Nat → Nat) (cI cL cZ : ClassId) (ad : Nat → Nat) (hinj : xI ad 15) (hlt : ∀ e : Env, l.admits e → e.platform.stackTraces = false) (nv : Nat) (av : Int32) (nc : Nat) (mt mf wt : Nat → Int32) (hnc : nc ≤ 40) (hnv : nv ≤ 10) (hv vl : Int32) (hbad : f_isState av hv vl = 0) : xThr l yX3_first wsX3_first ({ frames := 6, cells := 1, slots := 6, locals := 90 }) (va_Pc [.ref (ad 0), .int hv, .int vl] (fun U => va_P (dC, dI) vwCl [(ad 0, .inr (3, [.ref (ad 1), .ref (ad 5), .ref (ad 9)])), (ad 1, .inr (1, [.int (nI nv), .int av, .int (nI nc), .ref (ad 2), .ref (ad 3), .ref (ad 4)])), (ad 2, .inl (cI, 40, .inl mt)), (ad 3, .inl (cI, 40, .inl mf)), (ad 4, .inl (cI, 40, .inl wt))] U.heap ∧ va_K (dC, dI) vwCl [(cI, .int), (cL, .long), (cZ, .boolean)] U ∧ xEx U)) "java/lang/IllegalArgumentException" 1 6 := by
  refine xThr.ofW (cc := cX3_first) (maxL := 3) (ret := (some .int)) (by decide) rfl ?_
  intro p e s m args below meth c s₁ B hml hvv
  obtain ⟨rfl, hP0, hK, hE⟩ := hvv
  have hx := B.exec
  have hb := B.bytes
  have hr := B.returns
  have hts := atoms_spec (ws := wsX3_first) B.pre
  have hown : s.vm.findClass RX3 = some m.cls := findClass_of_methodNamed B.named
  have hlocks := B.notSynchronized
  have htb : c.exceptionTable.toList = [] := by have h9 := BodyLoose.noHandlers B (hts _ List.mem_cons_self); simpa [Array.isEmpty] using h9
  have hw0 : (.classLink RX3 57 "java/lang/IllegalArgumentException" : Cond).before _ s = true := hts _ (List.mem_cons_of_mem _ wd_393)
  have hw1 : (.initialized "java/lang/IllegalArgumentException" : Cond).before _ s = true := hts _ (List.mem_cons_of_mem _ wd_44)
  have hat := xat at_IAE hts hE
  have hPr : va_P (dC, dI) vwCl [(ad 0, .inr (3, [.ref (ad 1), .ref (ad 5), .ref (ad 9)])), (ad 1, .inr (1, [.int (nI nv), .int av, .int (nI nc), .ref (ad 2), .ref (ad 3), .ref (ad 4)])), (ad 2, .inl (cI, 40, .inl mt)), (ad 3, .inl (cI, 40, .inl mf)), (ad 4, .inl (cI, 40, .inl wt))] s.heap := hP0.sub [0, 1, 2, 3, 4] rfl
  have hS : va_S xN s.heap s.heap [] := va_S.rf
  have hl := lv_entry [.ref (ad 0), .int hv, .int vl] (n := 3) (Nat.le_of_ble_eq_true rfl)
  rw [lg_entry_eq]
  generalize (lg_sl [.ref (ad 0), .int hv, .int vl] ++ List.replicate (3 - (lg_sl [.ref (ad 0), .int hv, .int vl]).length) Slot.unset).toArray = ls at hl ⊢
  have hl : lv_has ls 3 [(0, .ref (ad 0)), (1, .int hv), (2, .int vl)] := hl
  refine lv_aload_n hx hb dX3_first_0 rfl (lv_at hl 0 rfl) ?_
  refine lv_iload_n hx hb dX3_first_1 rfl (lv_at hl 1 rfl) ?_
  refine lv_iload_n hx hb dX3_first_2 rfl (lv_at hl 2 rfl) ?_
  have hR := xP0 hPr xnN hS
  refine xro_i (va_runV (As := [.int hv, .int vl]) (rest := []) ⟨hx, hb, hml, hown, hts⟩ (c_isState l dC dI cI cL cZ ad hinj nv av nc mt mf wt hv vl) (xcwV 2 hts wd_495 wd_34 wd_492 wd_494 wd_16 rfl rfl (by decide +kernel) ⟨Nat.le_of_ble_eq_true rfl, Nat.le_of_ble_eq_true rfl⟩) (xpreV (va_recv hK hR rfl (q0 := 0) rfl) hR hK) rfl rfl hl.1 rfl (lv_room (Nat.le_of_ble_eq_true rfl)) dX3_first_3 ⟨Nat.le_of_ble_eq_true rfl, Nat.le_of_ble_eq_true rfl⟩) hS (fun H locs hk hS => ?_)
  refine lv_if_ne (tgt := 17) hx hb dX3_first_6 (by decide) (fun h1 => absurd hbad h1) (fun h1 => ?_)
  exact xthrow hx hb hlt hlocks (names := ["java/lang/RuntimeException", "java/lang/Exception"]) hown (by decide) (by decide) hw0 hw1 hat hS (hl.1.trans hml.symm) dX3_first_9 dX3_first_12 dX3_first_13 dX3_first_16 htb (by decide) (by decide) (Nat.le_of_ble_eq_true rfl) (Nat.le_of_ble_eq_true rfl) (Nat.le_of_ble_eq_true rfl) (Nat.le_of_ble_eq_true rfl)
